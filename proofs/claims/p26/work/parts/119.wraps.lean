set_option maxRecDepth 20000 in
theorem ggL_lose_X11_lose : GoodIn wsL_lose wsX11_lose := goodIn_ca ((goodIn_ca (goodIn_ca (goodIn_ca (goodIn_r _ [6, 7, 8, 9, 10, 11, 5, 12, 13, 14, 15, 16, 17, 18, 19, 20, 21, 22, 23, 24, 25, 26] rfl (by decide +kernel)) (goodIn_sub (fun _ h => List.mem_cons_of_mem _ (List.mem_append_left _ (List.mem_append_left _ (List.mem_append_left _ (List.mem_append_left _ (List.mem_append_right _ h)))))) gw_wsX110)) (goodIn_sub (fun _ h => List.mem_cons_of_mem _ (List.mem_append_left _ (List.mem_append_left _ (List.mem_append_left _ (List.mem_append_right _ h))))) gw_wsX50)) (goodIn_sub (fun _ h => List.mem_cons_of_mem _ (List.mem_append_left _ (List.mem_append_left _ (List.mem_append_right _ h)))) gw_wsX70))) (goodIn_sub (fun _ h => List.mem_cons_of_mem _ (List.mem_append_right _ h)) (all_fg _))
set_option maxRecDepth 20000 in
theorem gL_lose_X11_lose : GoodIn wsL_lose (wsV RL 61 RX11 yX11_lose wsX11_lose) := goodIn_app (goodIn_m (mem_cA (List.mem_cons_of_mem _ (List.mem_append_left _ (List.mem_append_left _ (List.mem_append_left _ (List.mem_append_left _ (List.mem_append_left _ (List.mem_append_left _ (List.mem_of_getElem? (i := 1) rfl)))))))) (mem_cA (List.mem_cons_of_mem _ (List.mem_append_left _ (List.mem_append_left _ (List.mem_append_left _ (List.mem_append_left _ (List.mem_append_left _ (List.mem_append_left _ (List.mem_of_getElem? (i := 2) rfl)))))))) (mem_cA (List.mem_cons_of_mem _ (List.mem_append_left _ (List.mem_append_left _ (List.mem_append_left _ (List.mem_append_left _ (List.mem_append_left _ (List.mem_append_left _ (List.mem_of_getElem? (i := 3) rfl)))))))) (mem_cA (List.mem_cons_of_mem _ (List.mem_append_left _ (List.mem_append_left _ (List.mem_append_left _ (List.mem_append_left _ (List.mem_append_left _ (List.mem_append_left _ (List.mem_of_getElem? (i := 4) rfl)))))))) mem_cZ)))) (by decide +kernel)) ggL_lose_X11_lose
theorem dL_lose_0 : decode cL_lose 0 = .ok (.aload_n 2, 1) := by decide +kernel
theorem dL_lose_1 : decode cL_lose 1 = .ok (.iconst 0, 1) := by decide +kernel
theorem dL_lose_2 : decode cL_lose 2 = .ok (.aload_n 0, 1) := by decide +kernel
theorem dL_lose_3 : decode cL_lose 3 = .ok (.iload_n 1, 1) := by decide +kernel
theorem dL_lose_4 : decode cL_lose 4 = .ok (.invokevirtual 61, 3) := by decide +kernel
theorem dL_lose_7 : decode cL_lose 7 = .ok (.i2l, 1) := by decide +kernel
theorem dL_lose_8 : decode cL_lose 8 = .ok (.lastore, 1) := by decide +kernel
theorem dL_lose_9 : decode cL_lose 9 = .ok (.goto 6, 3) := by decide +kernel
theorem dL_lose_12 : decode cL_lose 12 = .ok (.astore_n 3, 1) := by decide +kernel
theorem dL_lose_13 : decode cL_lose 13 = .ok (.iconst 1, 1) := by decide +kernel
theorem dL_lose_14 : decode cL_lose 14 = .ok (.ireturn, 1) := by decide +kernel
theorem dL_lose_15 : decode cL_lose 15 = .ok (.iconst 0, 1) := by decide +kernel
theorem dL_lose_16 : decode cL_lose 16 = .ok (.ireturn, 1) := by decide +kernel
set_option maxRecDepth 20000 in
theorem ggL_duplicate_X11_duplicate : GoodIn wsL_duplicate wsX11_duplicate := goodIn_ca ((goodIn_ca (goodIn_ca (goodIn_ca (goodIn_r _ [6, 7, 8, 9, 10, 11, 12, 5, 13, 14, 15, 16, 17, 18, 19, 20, 21, 22, 23, 24, 25, 26, 27, 28, 29, 30, 31, 32, 33, 34, 35, 36, 37, 38, 39, 40, 41, 42, 43, 44, 45, 46, 47, 48] rfl (by decide +kernel)) (goodIn_sub (fun _ h => List.mem_cons_of_mem _ (List.mem_append_left _ (List.mem_append_left _ (List.mem_append_left _ (List.mem_append_left _ (List.mem_append_right _ h)))))) gw_wsX110)) (goodIn_sub (fun _ h => List.mem_cons_of_mem _ (List.mem_append_left _ (List.mem_append_left _ (List.mem_append_left _ (List.mem_append_right _ h))))) gw_wsX70)) (goodIn_sub (fun _ h => List.mem_cons_of_mem _ (List.mem_append_left _ (List.mem_append_left _ (List.mem_append_right _ h)))) gw_wsX50))) (goodIn_sub (fun _ h => List.mem_cons_of_mem _ (List.mem_append_right _ h)) (all_fg _))
set_option maxRecDepth 20000 in
theorem gL_duplicate_X11_duplicate : GoodIn wsL_duplicate (wsV RL 64 RX11 yX11_duplicate wsX11_duplicate) := goodIn_app (goodIn_m (mem_cA (List.mem_cons_of_mem _ (List.mem_append_left _ (List.mem_append_left _ (List.mem_append_left _ (List.mem_append_left _ (List.mem_append_left _ (List.mem_append_left _ (List.mem_of_getElem? (i := 1) rfl)))))))) (mem_cA (List.mem_cons_of_mem _ (List.mem_append_left _ (List.mem_append_left _ (List.mem_append_left _ (List.mem_append_left _ (List.mem_append_left _ (List.mem_append_left _ (List.mem_of_getElem? (i := 2) rfl)))))))) (mem_cA (List.mem_cons_of_mem _ (List.mem_append_left _ (List.mem_append_left _ (List.mem_append_left _ (List.mem_append_left _ (List.mem_append_left _ (List.mem_append_left _ (List.mem_of_getElem? (i := 3) rfl)))))))) (mem_cA (List.mem_cons_of_mem _ (List.mem_append_left _ (List.mem_append_left _ (List.mem_append_left _ (List.mem_append_left _ (List.mem_append_left _ (List.mem_append_left _ (List.mem_of_getElem? (i := 4) rfl)))))))) mem_cZ)))) (by decide +kernel)) ggL_duplicate_X11_duplicate
theorem dL_duplicate_0 : decode cL_duplicate 0 = .ok (.aload_n 2, 1) := by decide +kernel
theorem dL_duplicate_1 : decode cL_duplicate 1 = .ok (.iconst 0, 1) := by decide +kernel
theorem dL_duplicate_2 : decode cL_duplicate 2 = .ok (.aload_n 0, 1) := by decide +kernel
theorem dL_duplicate_3 : decode cL_duplicate 3 = .ok (.iload_n 1, 1) := by decide +kernel
theorem dL_duplicate_4 : decode cL_duplicate 4 = .ok (.invokevirtual 64, 3) := by decide +kernel
theorem dL_duplicate_7 : decode cL_duplicate 7 = .ok (.ifCond .eq 7, 3) := by decide +kernel
theorem dL_duplicate_10 : decode cL_duplicate 10 = .ok (.lconst 1, 1) := by decide +kernel
theorem dL_duplicate_11 : decode cL_duplicate 11 = .ok (.goto 4, 3) := by decide +kernel
theorem dL_duplicate_14 : decode cL_duplicate 14 = .ok (.lconst 0, 1) := by decide +kernel
theorem dL_duplicate_15 : decode cL_duplicate 15 = .ok (.lastore, 1) := by decide +kernel
theorem dL_duplicate_16 : decode cL_duplicate 16 = .ok (.goto 6, 3) := by decide +kernel
theorem dL_duplicate_19 : decode cL_duplicate 19 = .ok (.astore_n 3, 1) := by decide +kernel
theorem dL_duplicate_20 : decode cL_duplicate 20 = .ok (.iconst 1, 1) := by decide +kernel
theorem dL_duplicate_21 : decode cL_duplicate 21 = .ok (.ireturn, 1) := by decide +kernel
theorem dL_duplicate_22 : decode cL_duplicate 22 = .ok (.iconst 0, 1) := by decide +kernel
theorem dL_duplicate_23 : decode cL_duplicate 23 = .ok (.ireturn, 1) := by decide +kernel
set_option maxRecDepth 20000 in
theorem ggL_exchange_X11_exchange : GoodIn wsL_exchange wsX11_exchange := goodIn_ca ((goodIn_ca (goodIn_ca (goodIn_r _ [6, 7, 8, 9, 10, 5, 11, 12, 13, 14, 15, 16, 17, 18, 19, 20, 21] rfl (by decide +kernel)) (goodIn_sub (fun _ h => List.mem_cons_of_mem _ (List.mem_append_left _ (List.mem_append_left _ (List.mem_append_left _ (List.mem_append_right _ h))))) gw_wsX110)) (goodIn_sub (fun _ h => List.mem_cons_of_mem _ (List.mem_append_left _ (List.mem_append_left _ (List.mem_append_right _ h)))) gw_wsX70))) (goodIn_sub (fun _ h => List.mem_cons_of_mem _ (List.mem_append_right _ h)) (all_fg _))
set_option maxRecDepth 20000 in
theorem gL_exchange_X11_exchange : GoodIn wsL_exchange (wsV RL 67 RX11 yX11_exchange wsX11_exchange) := goodIn_app (goodIn_m (mem_cA (List.mem_cons_of_mem _ (List.mem_append_left _ (List.mem_append_left _ (List.mem_append_left _ (List.mem_append_left _ (List.mem_of_getElem? (i := 1) rfl)))))) (mem_cA (List.mem_cons_of_mem _ (List.mem_append_left _ (List.mem_append_left _ (List.mem_append_left _ (List.mem_append_left _ (List.mem_of_getElem? (i := 2) rfl)))))) (mem_cA (List.mem_cons_of_mem _ (List.mem_append_left _ (List.mem_append_left _ (List.mem_append_left _ (List.mem_append_left _ (List.mem_of_getElem? (i := 3) rfl)))))) (mem_cA (List.mem_cons_of_mem _ (List.mem_append_left _ (List.mem_append_left _ (List.mem_append_left _ (List.mem_append_left _ (List.mem_of_getElem? (i := 4) rfl)))))) mem_cZ)))) (by decide +kernel)) ggL_exchange_X11_exchange
theorem dL_exchange_0 : decode cL_exchange 0 = .ok (.aload_n 3, 1) := by decide +kernel
theorem dL_exchange_1 : decode cL_exchange 1 = .ok (.iconst 0, 1) := by decide +kernel
theorem dL_exchange_2 : decode cL_exchange 2 = .ok (.aload_n 0, 1) := by decide +kernel
theorem dL_exchange_3 : decode cL_exchange 3 = .ok (.iload_n 1, 1) := by decide +kernel
theorem dL_exchange_4 : decode cL_exchange 4 = .ok (.iload_n 2, 1) := by decide +kernel
theorem dL_exchange_5 : decode cL_exchange 5 = .ok (.invokevirtual 67, 3) := by decide +kernel
theorem dL_exchange_8 : decode cL_exchange 8 = .ok (.ifCond .eq 7, 3) := by decide +kernel
theorem dL_exchange_11 : decode cL_exchange 11 = .ok (.lconst 1, 1) := by decide +kernel
theorem dL_exchange_12 : decode cL_exchange 12 = .ok (.goto 4, 3) := by decide +kernel
theorem dL_exchange_15 : decode cL_exchange 15 = .ok (.lconst 0, 1) := by decide +kernel
theorem dL_exchange_16 : decode cL_exchange 16 = .ok (.lastore, 1) := by decide +kernel
theorem dL_exchange_17 : decode cL_exchange 17 = .ok (.goto 7, 3) := by decide +kernel
theorem dL_exchange_20 : decode cL_exchange 20 = .ok (.astore 4, 2) := by decide +kernel
theorem dL_exchange_22 : decode cL_exchange 22 = .ok (.iconst 1, 1) := by decide +kernel
theorem dL_exchange_23 : decode cL_exchange 23 = .ok (.ireturn, 1) := by decide +kernel
theorem dL_exchange_24 : decode cL_exchange 24 = .ok (.iconst 0, 1) := by decide +kernel
theorem dL_exchange_25 : decode cL_exchange 25 = .ok (.ireturn, 1) := by decide +kernel
set_option maxRecDepth 20000 in
theorem ggL_templateAge_X11_templateAge : GoodIn wsL_templateAge wsX11_templateAge := goodIn_ca (goodIn_ca ((goodIn_ca (goodIn_ca (goodIn_ca (goodIn_ca (goodIn_r _ [6, 7, 8, 9, 10, 11, 12, 13, 14, 15, 16, 17, 18, 19] rfl (by decide +kernel)) (goodIn_sub (fun _ h => List.mem_cons_of_mem _ (List.mem_append_left _ (List.mem_append_left _ (List.mem_append_left _ (List.mem_append_left _ (List.mem_append_left _ (List.mem_append_right _ h))))))) gw_wsX110)) (goodIn_sub (fun _ h => List.mem_cons_of_mem _ (List.mem_append_left _ (List.mem_append_left _ (List.mem_append_left _ (List.mem_append_left _ (List.mem_append_right _ h)))))) gw_wsX20)) (goodIn_sub (fun _ h => List.mem_cons_of_mem _ (List.mem_append_left _ (List.mem_append_left _ (List.mem_append_left _ (List.mem_append_right _ h))))) gw_wsX00)) (goodIn_sub (fun _ h => List.mem_cons_of_mem _ (List.mem_append_left _ (List.mem_append_left _ (List.mem_append_right _ h)))) gw_wsX100))) (goodIn_sub (fun _ h => List.mem_cons_of_mem _ (List.mem_append_right _ h)) (all_fg _))) (goodIn_sub (fun _ h => List.mem_cons_of_mem _ (List.mem_append_left _ (List.mem_append_right _ h))) (all_fg _))
set_option maxRecDepth 20000 in
theorem gL_templateAge_X11_templateAge : GoodIn wsL_templateAge (wsV RL 71 RX11 yX11_templateAge wsX11_templateAge) := goodIn_app (goodIn_m (mem_cA (List.mem_cons_of_mem _ (List.mem_append_left _ (List.mem_append_left _ (List.mem_append_left _ (List.mem_append_left _ (List.mem_append_left _ (List.mem_append_left _ (List.mem_of_getElem? (i := 1) rfl)))))))) (mem_cA (List.mem_cons_of_mem _ (List.mem_append_left _ (List.mem_append_left _ (List.mem_append_left _ (List.mem_append_left _ (List.mem_append_left _ (List.mem_append_left _ (List.mem_of_getElem? (i := 2) rfl)))))))) (mem_cA (List.mem_cons_of_mem _ (List.mem_append_left _ (List.mem_append_left _ (List.mem_append_left _ (List.mem_append_left _ (List.mem_append_left _ (List.mem_append_left _ (List.mem_of_getElem? (i := 3) rfl)))))))) (mem_cA (List.mem_cons_of_mem _ (List.mem_append_left _ (List.mem_append_left _ (List.mem_append_left _ (List.mem_append_left _ (List.mem_append_left _ (List.mem_append_left _ (List.mem_of_getElem? (i := 4) rfl)))))))) mem_cZ)))) (by decide +kernel)) ggL_templateAge_X11_templateAge
theorem dL_templateAge_0 : decode cL_templateAge 0 = .ok (.aload_n 2, 1) := by decide +kernel
theorem dL_templateAge_1 : decode cL_templateAge 1 = .ok (.iconst 0, 1) := by decide +kernel
theorem dL_templateAge_2 : decode cL_templateAge 2 = .ok (.aload_n 0, 1) := by decide +kernel
theorem dL_templateAge_3 : decode cL_templateAge 3 = .ok (.iload_n 1, 1) := by decide +kernel
theorem dL_templateAge_4 : decode cL_templateAge 4 = .ok (.invokevirtual 71, 3) := by decide +kernel
theorem dL_templateAge_7 : decode cL_templateAge 7 = .ok (.i2l, 1) := by decide +kernel
theorem dL_templateAge_8 : decode cL_templateAge 8 = .ok (.lastore, 1) := by decide +kernel
theorem dL_templateAge_9 : decode cL_templateAge 9 = .ok (.goto 6, 3) := by decide +kernel
theorem dL_templateAge_12 : decode cL_templateAge 12 = .ok (.astore_n 3, 1) := by decide +kernel
theorem dL_templateAge_13 : decode cL_templateAge 13 = .ok (.iconst 1, 1) := by decide +kernel
theorem dL_templateAge_14 : decode cL_templateAge 14 = .ok (.ireturn, 1) := by decide +kernel
theorem dL_templateAge_15 : decode cL_templateAge 15 = .ok (.iconst 0, 1) := by decide +kernel
theorem dL_templateAge_16 : decode cL_templateAge 16 = .ok (.ireturn, 1) := by decide +kernel
set_option maxRecDepth 20000 in
theorem ggL_counter_X11_counter : GoodIn wsL_counter wsX11_counter := goodIn_ca (goodIn_ca ((goodIn_ca (goodIn_ca (goodIn_r _ [6, 7, 8, 9, 10] rfl (by decide +kernel)) (goodIn_sub (fun _ h => List.mem_cons_of_mem _ (List.mem_append_left _ (List.mem_append_left _ (List.mem_append_left _ (List.mem_append_right _ h))))) gw_wsX110)) (goodIn_sub (fun _ h => List.mem_cons_of_mem _ (List.mem_append_left _ (List.mem_append_left _ (List.mem_append_right _ h)))) gw_wsX00))) (goodIn_sub (fun _ h => List.mem_cons_of_mem _ (List.mem_append_right _ h)) (all_fg _))) (goodIn_sub (fun _ h => List.mem_cons_of_mem _ (List.mem_append_left _ (List.mem_append_right _ h))) (all_fg _))
set_option maxRecDepth 20000 in
theorem gL_counter_X11_counter : GoodIn wsL_counter (wsV RL 74 RX11 yX11_counter wsX11_counter) := goodIn_app (goodIn_m (mem_cA (List.mem_cons_of_mem _ (List.mem_append_left _ (List.mem_append_left _ (List.mem_append_left _ (List.mem_append_left _ (List.mem_of_getElem? (i := 1) rfl)))))) (mem_cA (List.mem_cons_of_mem _ (List.mem_append_left _ (List.mem_append_left _ (List.mem_append_left _ (List.mem_append_left _ (List.mem_of_getElem? (i := 2) rfl)))))) (mem_cA (List.mem_cons_of_mem _ (List.mem_append_left _ (List.mem_append_left _ (List.mem_append_left _ (List.mem_append_left _ (List.mem_of_getElem? (i := 3) rfl)))))) (mem_cA (List.mem_cons_of_mem _ (List.mem_append_left _ (List.mem_append_left _ (List.mem_append_left _ (List.mem_append_left _ (List.mem_of_getElem? (i := 4) rfl)))))) mem_cZ)))) (by decide +kernel)) ggL_counter_X11_counter
theorem dL_counter_0 : decode cL_counter 0 = .ok (.aload_n 2, 1) := by decide +kernel
theorem dL_counter_1 : decode cL_counter 1 = .ok (.iconst 0, 1) := by decide +kernel
theorem dL_counter_2 : decode cL_counter 2 = .ok (.aload_n 0, 1) := by decide +kernel
theorem dL_counter_3 : decode cL_counter 3 = .ok (.iload_n 1, 1) := by decide +kernel
theorem dL_counter_4 : decode cL_counter 4 = .ok (.invokevirtual 74, 3) := by decide +kernel
theorem dL_counter_7 : decode cL_counter 7 = .ok (.lastore, 1) := by decide +kernel
theorem dL_counter_8 : decode cL_counter 8 = .ok (.goto 6, 3) := by decide +kernel
theorem dL_counter_11 : decode cL_counter 11 = .ok (.astore_n 3, 1) := by decide +kernel
theorem dL_counter_12 : decode cL_counter 12 = .ok (.iconst 1, 1) := by decide +kernel
theorem dL_counter_13 : decode cL_counter 13 = .ok (.ireturn, 1) := by decide +kernel
theorem dL_counter_14 : decode cL_counter 14 = .ok (.iconst 0, 1) := by decide +kernel
theorem dL_counter_15 : decode cL_counter 15 = .ok (.ireturn, 1) := by decide +kernel
set_option maxRecDepth 20000 in
theorem ggL_lossRate_X11_lossRate : GoodIn wsL_lossRate wsX11_lossRate := goodIn_ca (goodIn_ca ((goodIn_ca (goodIn_ca (goodIn_r _ [6, 7, 8, 9, 10] rfl (by decide +kernel)) (goodIn_sub (fun _ h => List.mem_cons_of_mem _ (List.mem_append_left _ (List.mem_append_left _ (List.mem_append_left _ (List.mem_append_right _ h))))) gw_wsX110)) (goodIn_sub (fun _ h => List.mem_cons_of_mem _ (List.mem_append_left _ (List.mem_append_left _ (List.mem_append_right _ h)))) gw_wsX00))) (goodIn_sub (fun _ h => List.mem_cons_of_mem _ (List.mem_append_left _ (List.mem_append_right _ h))) (all_fg _))) (goodIn_sub (fun _ h => List.mem_cons_of_mem _ (List.mem_append_right _ h)) (all_fg _))
set_option maxRecDepth 20000 in
theorem gL_lossRate_X11_lossRate : GoodIn wsL_lossRate (wsV RL 78 RX11 yX11_lossRate wsX11_lossRate) := goodIn_app (goodIn_m (mem_cA (List.mem_cons_of_mem _ (List.mem_append_left _ (List.mem_append_left _ (List.mem_append_left _ (List.mem_append_left _ (List.mem_of_getElem? (i := 1) rfl)))))) (mem_cA (List.mem_cons_of_mem _ (List.mem_append_left _ (List.mem_append_left _ (List.mem_append_left _ (List.mem_append_left _ (List.mem_of_getElem? (i := 2) rfl)))))) (mem_cA (List.mem_cons_of_mem _ (List.mem_append_left _ (List.mem_append_left _ (List.mem_append_left _ (List.mem_append_left _ (List.mem_of_getElem? (i := 3) rfl)))))) (mem_cA (List.mem_cons_of_mem _ (List.mem_append_left _ (List.mem_append_left _ (List.mem_append_left _ (List.mem_append_left _ (List.mem_of_getElem? (i := 4) rfl)))))) mem_cZ)))) (by decide +kernel)) ggL_lossRate_X11_lossRate
theorem dL_lossRate_0 : decode cL_lossRate 0 = .ok (.aload_n 1, 1) := by decide +kernel
theorem dL_lossRate_1 : decode cL_lossRate 1 = .ok (.iconst 0, 1) := by decide +kernel
theorem dL_lossRate_2 : decode cL_lossRate 2 = .ok (.aload_n 0, 1) := by decide +kernel
theorem dL_lossRate_3 : decode cL_lossRate 3 = .ok (.invokevirtual 78, 3) := by decide +kernel
theorem dL_lossRate_6 : decode cL_lossRate 6 = .ok (.dastore, 1) := by decide +kernel
theorem dL_lossRate_7 : decode cL_lossRate 7 = .ok (.goto 6, 3) := by decide +kernel
theorem dL_lossRate_10 : decode cL_lossRate 10 = .ok (.astore_n 2, 1) := by decide +kernel
theorem dL_lossRate_11 : decode cL_lossRate 11 = .ok (.iconst 1, 1) := by decide +kernel
theorem dL_lossRate_12 : decode cL_lossRate 12 = .ok (.ireturn, 1) := by decide +kernel
theorem dL_lossRate_13 : decode cL_lossRate 13 = .ok (.iconst 0, 1) := by decide +kernel
theorem dL_lossRate_14 : decode cL_lossRate 14 = .ok (.ireturn, 1) := by decide +kernel
set_option maxRecDepth 20000 in
theorem ggL_key_X11_key : GoodIn wsL_key wsX11_key := goodIn_ca (goodIn_ca (goodIn_ca ((goodIn_ca (goodIn_ca (goodIn_r _ [7, 8, 9, 10, 11, 12, 13, 14, 6, 15, 16, 17, 18, 19, 20, 21, 22, 23, 24] rfl (by decide +kernel)) (goodIn_sub (fun _ h => List.mem_cons_of_mem _ (List.mem_append_left _ (List.mem_append_left _ (List.mem_append_left _ (List.mem_append_left _ (List.mem_append_right _ h)))))) gw_wsX110)) (goodIn_sub (fun _ h => List.mem_cons_of_mem _ (List.mem_append_left _ (List.mem_append_left _ (List.mem_append_left _ (List.mem_append_right _ h))))) gw_wsX90))) (goodIn_sub (fun _ h => List.mem_cons_of_mem _ (List.mem_append_left _ (List.mem_append_right _ h))) (all_fg _))) (goodIn_sub (fun _ h => List.mem_cons_of_mem _ (List.mem_append_left _ (List.mem_append_left _ (List.mem_append_right _ h)))) (all_fg _))) (goodIn_sub (fun _ h => List.mem_cons_of_mem _ (List.mem_append_right _ h)) (all_fg _))
set_option maxRecDepth 20000 in
theorem gL_key_X11_key : GoodIn wsL_key (wsV RL 84 RX11 yX11_key wsX11_key) := goodIn_app (goodIn_m (mem_cA (List.mem_cons_of_mem _ (List.mem_append_left _ (List.mem_append_left _ (List.mem_append_left _ (List.mem_append_left _ (List.mem_append_left _ (List.mem_of_getElem? (i := 2) rfl))))))) (mem_cA (List.mem_cons_of_mem _ (List.mem_append_left _ (List.mem_append_left _ (List.mem_append_left _ (List.mem_append_left _ (List.mem_append_left _ (List.mem_of_getElem? (i := 3) rfl))))))) (mem_cA (List.mem_cons_of_mem _ (List.mem_append_left _ (List.mem_append_left _ (List.mem_append_left _ (List.mem_append_left _ (List.mem_append_left _ (List.mem_of_getElem? (i := 4) rfl))))))) (mem_cA (List.mem_cons_of_mem _ (List.mem_append_left _ (List.mem_append_left _ (List.mem_append_left _ (List.mem_append_left _ (List.mem_append_left _ (List.mem_of_getElem? (i := 5) rfl))))))) mem_cZ)))) (by decide +kernel)) ggL_key_X11_key
theorem dL_key_0 : decode cL_key 0 = .ok (.aload_n 3, 1) := by decide +kernel
theorem dL_key_1 : decode cL_key 1 = .ok (.iconst 0, 1) := by decide +kernel
theorem dL_key_2 : decode cL_key 2 = .ok (.aload_n 0, 1) := by decide +kernel
theorem dL_key_3 : decode cL_key 3 = .ok (.iload_n 1, 1) := by decide +kernel
theorem dL_key_4 : decode cL_key 4 = .ok (.iload_n 2, 1) := by decide +kernel
theorem dL_key_5 : decode cL_key 5 = .ok (.invokevirtual 84, 3) := by decide +kernel
theorem dL_key_8 : decode cL_key 8 = .ok (.i2l, 1) := by decide +kernel
theorem dL_key_9 : decode cL_key 9 = .ok (.lastore, 1) := by decide +kernel
theorem dL_key_10 : decode cL_key 10 = .ok (.goto 11, 3) := by decide +kernel
theorem dL_key_13 : decode cL_key 13 = .ok (.astore 4, 2) := by decide +kernel
theorem dL_key_15 : decode cL_key 15 = .ok (.iconst 1, 1) := by decide +kernel
theorem dL_key_16 : decode cL_key 16 = .ok (.ireturn, 1) := by decide +kernel
theorem dL_key_17 : decode cL_key 17 = .ok (.astore 4, 2) := by decide +kernel
theorem dL_key_19 : decode cL_key 19 = .ok (.iconst 2, 1) := by decide +kernel
theorem dL_key_20 : decode cL_key 20 = .ok (.ireturn, 1) := by decide +kernel
theorem dL_key_21 : decode cL_key 21 = .ok (.iconst 0, 1) := by decide +kernel
theorem dL_key_22 : decode cL_key 22 = .ok (.ireturn, 1) := by decide +kernel
set_option maxRecDepth 20000 in
theorem ggL_raw_X11_raw : GoodIn wsL_raw wsX11_raw := goodIn_ca (goodIn_ca (goodIn_ca ((goodIn_ca (goodIn_ca (goodIn_r _ [7, 8, 9, 10, 11, 12, 6, 13, 14, 15, 16, 17, 18, 19, 20, 21] rfl (by decide +kernel)) (goodIn_sub (fun _ h => List.mem_cons_of_mem _ (List.mem_append_left _ (List.mem_append_left _ (List.mem_append_left _ (List.mem_append_left _ (List.mem_append_right _ h)))))) gw_wsX110)) (goodIn_sub (fun _ h => List.mem_cons_of_mem _ (List.mem_append_left _ (List.mem_append_left _ (List.mem_append_left _ (List.mem_append_right _ h))))) gw_wsX90))) (goodIn_sub (fun _ h => List.mem_cons_of_mem _ (List.mem_append_left _ (List.mem_append_left _ (List.mem_append_right _ h)))) (all_fg _))) (goodIn_sub (fun _ h => List.mem_cons_of_mem _ (List.mem_append_left _ (List.mem_append_right _ h))) (all_fg _))) (goodIn_sub (fun _ h => List.mem_cons_of_mem _ (List.mem_append_right _ h)) (all_fg _))
set_option maxRecDepth 20000 in
theorem gL_raw_X11_raw : GoodIn wsL_raw (wsV RL 87 RX11 yX11_raw wsX11_raw) := goodIn_app (goodIn_m (mem_cA (List.mem_cons_of_mem _ (List.mem_append_left _ (List.mem_append_left _ (List.mem_append_left _ (List.mem_append_left _ (List.mem_append_left _ (List.mem_of_getElem? (i := 2) rfl))))))) (mem_cA (List.mem_cons_of_mem _ (List.mem_append_left _ (List.mem_append_left _ (List.mem_append_left _ (List.mem_append_left _ (List.mem_append_left _ (List.mem_of_getElem? (i := 3) rfl))))))) (mem_cA (List.mem_cons_of_mem _ (List.mem_append_left _ (List.mem_append_left _ (List.mem_append_left _ (List.mem_append_left _ (List.mem_append_left _ (List.mem_of_getElem? (i := 4) rfl))))))) (mem_cA (List.mem_cons_of_mem _ (List.mem_append_left _ (List.mem_append_left _ (List.mem_append_left _ (List.mem_append_left _ (List.mem_append_left _ (List.mem_of_getElem? (i := 5) rfl))))))) mem_cZ)))) (by decide +kernel)) ggL_raw_X11_raw
theorem dL_raw_0 : decode cL_raw 0 = .ok (.aload_n 3, 1) := by decide +kernel
theorem dL_raw_1 : decode cL_raw 1 = .ok (.iconst 0, 1) := by decide +kernel
theorem dL_raw_2 : decode cL_raw 2 = .ok (.aload_n 0, 1) := by decide +kernel
theorem dL_raw_3 : decode cL_raw 3 = .ok (.iload_n 1, 1) := by decide +kernel
theorem dL_raw_4 : decode cL_raw 4 = .ok (.iload_n 2, 1) := by decide +kernel
theorem dL_raw_5 : decode cL_raw 5 = .ok (.invokevirtual 87, 3) := by decide +kernel
theorem dL_raw_8 : decode cL_raw 8 = .ok (.lastore, 1) := by decide +kernel
theorem dL_raw_9 : decode cL_raw 9 = .ok (.goto 11, 3) := by decide +kernel
theorem dL_raw_12 : decode cL_raw 12 = .ok (.astore 4, 2) := by decide +kernel
theorem dL_raw_14 : decode cL_raw 14 = .ok (.iconst 1, 1) := by decide +kernel
theorem dL_raw_15 : decode cL_raw 15 = .ok (.ireturn, 1) := by decide +kernel
theorem dL_raw_16 : decode cL_raw 16 = .ok (.astore 4, 2) := by decide +kernel
theorem dL_raw_18 : decode cL_raw 18 = .ok (.iconst 2, 1) := by decide +kernel
theorem dL_raw_19 : decode cL_raw 19 = .ok (.ireturn, 1) := by decide +kernel
theorem dL_raw_20 : decode cL_raw 20 = .ok (.iconst 0, 1) := by decide +kernel
theorem dL_raw_21 : decode cL_raw 21 = .ok (.ireturn, 1) := by decide +kernel
set_option maxRecDepth 20000 in
theorem ggL_estimate_X11_estimate : GoodIn wsL_estimate wsX11_estimate := goodIn_ca (goodIn_ca (goodIn_ca ((goodIn_ca (goodIn_ca (goodIn_r _ [7, 8, 9, 10, 11, 12, 6, 13, 14, 15, 16, 17, 18, 19, 20, 21] rfl (by decide +kernel)) (goodIn_sub (fun _ h => List.mem_cons_of_mem _ (List.mem_append_left _ (List.mem_append_left _ (List.mem_append_left _ (List.mem_append_left _ (List.mem_append_right _ h)))))) gw_wsX110)) (goodIn_sub (fun _ h => List.mem_cons_of_mem _ (List.mem_append_left _ (List.mem_append_left _ (List.mem_append_left _ (List.mem_append_right _ h))))) gw_wsX90))) (goodIn_sub (fun _ h => List.mem_cons_of_mem _ (List.mem_append_left _ (List.mem_append_left _ (List.mem_append_right _ h)))) (all_fg _))) (goodIn_sub (fun _ h => List.mem_cons_of_mem _ (List.mem_append_left _ (List.mem_append_right _ h))) (all_fg _))) (goodIn_sub (fun _ h => List.mem_cons_of_mem _ (List.mem_append_right _ h)) (all_fg _))
set_option maxRecDepth 20000 in
theorem gL_estimate_X11_estimate : GoodIn wsL_estimate (wsV RL 90 RX11 yX11_estimate wsX11_estimate) := goodIn_app (goodIn_m (mem_cA (List.mem_cons_of_mem _ (List.mem_append_left _ (List.mem_append_left _ (List.mem_append_left _ (List.mem_append_left _ (List.mem_append_left _ (List.mem_of_getElem? (i := 2) rfl))))))) (mem_cA (List.mem_cons_of_mem _ (List.mem_append_left _ (List.mem_append_left _ (List.mem_append_left _ (List.mem_append_left _ (List.mem_append_left _ (List.mem_of_getElem? (i := 3) rfl))))))) (mem_cA (List.mem_cons_of_mem _ (List.mem_append_left _ (List.mem_append_left _ (List.mem_append_left _ (List.mem_append_left _ (List.mem_append_left _ (List.mem_of_getElem? (i := 4) rfl))))))) (mem_cA (List.mem_cons_of_mem _ (List.mem_append_left _ (List.mem_append_left _ (List.mem_append_left _ (List.mem_append_left _ (List.mem_append_left _ (List.mem_of_getElem? (i := 5) rfl))))))) mem_cZ)))) (by decide +kernel)) ggL_estimate_X11_estimate
theorem dL_estimate_0 : decode cL_estimate 0 = .ok (.aload_n 3, 1) := by decide +kernel
theorem dL_estimate_1 : decode cL_estimate 1 = .ok (.iconst 0, 1) := by decide +kernel
theorem dL_estimate_2 : decode cL_estimate 2 = .ok (.aload_n 0, 1) := by decide +kernel
theorem dL_estimate_3 : decode cL_estimate 3 = .ok (.iload_n 1, 1) := by decide +kernel
theorem dL_estimate_4 : decode cL_estimate 4 = .ok (.iload_n 2, 1) := by decide +kernel
theorem dL_estimate_5 : decode cL_estimate 5 = .ok (.invokevirtual 90, 3) := by decide +kernel
theorem dL_estimate_8 : decode cL_estimate 8 = .ok (.lastore, 1) := by decide +kernel
theorem dL_estimate_9 : decode cL_estimate 9 = .ok (.goto 11, 3) := by decide +kernel
theorem dL_estimate_12 : decode cL_estimate 12 = .ok (.astore 4, 2) := by decide +kernel
theorem dL_estimate_14 : decode cL_estimate 14 = .ok (.iconst 1, 1) := by decide +kernel
theorem dL_estimate_15 : decode cL_estimate 15 = .ok (.ireturn, 1) := by decide +kernel
theorem dL_estimate_16 : decode cL_estimate 16 = .ok (.astore 4, 2) := by decide +kernel
theorem dL_estimate_18 : decode cL_estimate 18 = .ok (.iconst 2, 1) := by decide +kernel
theorem dL_estimate_19 : decode cL_estimate 19 = .ok (.ireturn, 1) := by decide +kernel
theorem dL_estimate_20 : decode cL_estimate 20 = .ok (.iconst 0, 1) := by decide +kernel
theorem dL_estimate_21 : decode cL_estimate 21 = .ok (.ireturn, 1) := by decide +kernel
set_option maxRecDepth 20000 in
theorem ggL_lower_X11_lower : GoodIn wsL_lower wsX11_lower := goodIn_ca (goodIn_ca (goodIn_ca ((goodIn_ca (goodIn_ca (goodIn_r _ [7, 8, 9, 10, 11, 6, 12, 13, 14, 15, 16, 17, 18, 19, 20, 21, 22, 23, 24, 25, 26, 27, 28, 29, 30, 31, 32, 33, 34, 35, 36, 37, 38, 39, 40, 41, 42, 43, 44, 45, 46, 47, 48] rfl (by decide +kernel)) (goodIn_sub (fun _ h => List.mem_cons_of_mem _ (List.mem_append_left _ (List.mem_append_left _ (List.mem_append_left _ (List.mem_append_left _ (List.mem_append_right _ h)))))) gw_wsX110)) (goodIn_sub (fun _ h => List.mem_cons_of_mem _ (List.mem_append_left _ (List.mem_append_left _ (List.mem_append_left _ (List.mem_append_right _ h))))) gw_wsX90))) (goodIn_sub (fun _ h => List.mem_cons_of_mem _ (List.mem_append_left _ (List.mem_append_right _ h))) (all_fg _))) (goodIn_sub (fun _ h => List.mem_cons_of_mem _ (List.mem_append_right _ h)) (all_fg _))) (goodIn_sub (fun _ h => List.mem_cons_of_mem _ (List.mem_append_left _ (List.mem_append_left _ (List.mem_append_right _ h)))) (all_fg _))
set_option maxRecDepth 20000 in
theorem gL_lower_X11_lower : GoodIn wsL_lower (wsV RL 93 RX11 yX11_lower wsX11_lower) := goodIn_app (goodIn_m (mem_cA (List.mem_cons_of_mem _ (List.mem_append_left _ (List.mem_append_left _ (List.mem_append_left _ (List.mem_append_left _ (List.mem_append_left _ (List.mem_append_left _ (List.mem_of_getElem? (i := 2) rfl)))))))) (mem_cA (List.mem_cons_of_mem _ (List.mem_append_left _ (List.mem_append_left _ (List.mem_append_left _ (List.mem_append_left _ (List.mem_append_left _ (List.mem_append_left _ (List.mem_of_getElem? (i := 3) rfl)))))))) (mem_cA (List.mem_cons_of_mem _ (List.mem_append_left _ (List.mem_append_left _ (List.mem_append_left _ (List.mem_append_left _ (List.mem_append_left _ (List.mem_append_left _ (List.mem_of_getElem? (i := 4) rfl)))))))) (mem_cA (List.mem_cons_of_mem _ (List.mem_append_left _ (List.mem_append_left _ (List.mem_append_left _ (List.mem_append_left _ (List.mem_append_left _ (List.mem_append_left _ (List.mem_of_getElem? (i := 5) rfl)))))))) mem_cZ)))) (by decide +kernel)) ggL_lower_X11_lower
theorem dL_lower_0 : decode cL_lower 0 = .ok (.aload_n 3, 1) := by decide +kernel
theorem dL_lower_1 : decode cL_lower 1 = .ok (.iconst 0, 1) := by decide +kernel
theorem dL_lower_2 : decode cL_lower 2 = .ok (.aload_n 0, 1) := by decide +kernel
theorem dL_lower_3 : decode cL_lower 3 = .ok (.iload_n 1, 1) := by decide +kernel
theorem dL_lower_4 : decode cL_lower 4 = .ok (.iload_n 2, 1) := by decide +kernel
theorem dL_lower_5 : decode cL_lower 5 = .ok (.invokevirtual 93, 3) := by decide +kernel
theorem dL_lower_8 : decode cL_lower 8 = .ok (.dastore, 1) := by decide +kernel
theorem dL_lower_9 : decode cL_lower 9 = .ok (.goto 11, 3) := by decide +kernel
theorem dL_lower_12 : decode cL_lower 12 = .ok (.astore 4, 2) := by decide +kernel
theorem dL_lower_14 : decode cL_lower 14 = .ok (.iconst 1, 1) := by decide +kernel
theorem dL_lower_15 : decode cL_lower 15 = .ok (.ireturn, 1) := by decide +kernel
theorem dL_lower_16 : decode cL_lower 16 = .ok (.astore 4, 2) := by decide +kernel
theorem dL_lower_18 : decode cL_lower 18 = .ok (.iconst 2, 1) := by decide +kernel
theorem dL_lower_19 : decode cL_lower 19 = .ok (.ireturn, 1) := by decide +kernel
theorem dL_lower_20 : decode cL_lower 20 = .ok (.iconst 0, 1) := by decide +kernel
theorem dL_lower_21 : decode cL_lower 21 = .ok (.ireturn, 1) := by decide +kernel
set_option maxRecDepth 20000 in
theorem ggL_upper_X11_upper : GoodIn wsL_upper wsX11_upper := goodIn_ca (goodIn_ca (goodIn_ca ((goodIn_ca (goodIn_ca (goodIn_r _ [7, 8, 9, 10, 11, 6, 12, 13, 14, 15, 16, 17, 18, 19, 20, 21, 22, 23, 24, 25, 26, 27, 28, 29, 30, 31, 32, 33, 34, 35, 36, 37, 38, 39, 40, 41, 42, 43, 44, 45, 46, 47] rfl (by decide +kernel)) (goodIn_sub (fun _ h => List.mem_cons_of_mem _ (List.mem_append_left _ (List.mem_append_left _ (List.mem_append_left _ (List.mem_append_left _ (List.mem_append_right _ h)))))) gw_wsX110)) (goodIn_sub (fun _ h => List.mem_cons_of_mem _ (List.mem_append_left _ (List.mem_append_left _ (List.mem_append_left _ (List.mem_append_right _ h))))) gw_wsX90))) (goodIn_sub (fun _ h => List.mem_cons_of_mem _ (List.mem_append_left _ (List.mem_append_right _ h))) (all_fg _))) (goodIn_sub (fun _ h => List.mem_cons_of_mem _ (List.mem_append_right _ h)) (all_fg _))) (goodIn_sub (fun _ h => List.mem_cons_of_mem _ (List.mem_append_left _ (List.mem_append_left _ (List.mem_append_right _ h)))) (all_fg _))
set_option maxRecDepth 20000 in
theorem gL_upper_X11_upper : GoodIn wsL_upper (wsV RL 97 RX11 yX11_upper wsX11_upper) := goodIn_app (goodIn_m (mem_cA (List.mem_cons_of_mem _ (List.mem_append_left _ (List.mem_append_left _ (List.mem_append_left _ (List.mem_append_left _ (List.mem_append_left _ (List.mem_append_left _ (List.mem_of_getElem? (i := 2) rfl)))))))) (mem_cA (List.mem_cons_of_mem _ (List.mem_append_left _ (List.mem_append_left _ (List.mem_append_left _ (List.mem_append_left _ (List.mem_append_left _ (List.mem_append_left _ (List.mem_of_getElem? (i := 3) rfl)))))))) (mem_cA (List.mem_cons_of_mem _ (List.mem_append_left _ (List.mem_append_left _ (List.mem_append_left _ (List.mem_append_left _ (List.mem_append_left _ (List.mem_append_left _ (List.mem_of_getElem? (i := 4) rfl)))))))) (mem_cA (List.mem_cons_of_mem _ (List.mem_append_left _ (List.mem_append_left _ (List.mem_append_left _ (List.mem_append_left _ (List.mem_append_left _ (List.mem_append_left _ (List.mem_of_getElem? (i := 5) rfl)))))))) mem_cZ)))) (by decide +kernel)) ggL_upper_X11_upper
theorem dL_upper_0 : decode cL_upper 0 = .ok (.aload_n 3, 1) := by decide +kernel
theorem dL_upper_1 : decode cL_upper 1 = .ok (.iconst 0, 1) := by decide +kernel
theorem dL_upper_2 : decode cL_upper 2 = .ok (.aload_n 0, 1) := by decide +kernel
theorem dL_upper_3 : decode cL_upper 3 = .ok (.iload_n 1, 1) := by decide +kernel
theorem dL_upper_4 : decode cL_upper 4 = .ok (.iload_n 2, 1) := by decide +kernel
theorem dL_upper_5 : decode cL_upper 5 = .ok (.invokevirtual 97, 3) := by decide +kernel
theorem dL_upper_8 : decode cL_upper 8 = .ok (.dastore, 1) := by decide +kernel
theorem dL_upper_9 : decode cL_upper 9 = .ok (.goto 11, 3) := by decide +kernel
theorem dL_upper_12 : decode cL_upper 12 = .ok (.astore 4, 2) := by decide +kernel
theorem dL_upper_14 : decode cL_upper 14 = .ok (.iconst 1, 1) := by decide +kernel
theorem dL_upper_15 : decode cL_upper 15 = .ok (.ireturn, 1) := by decide +kernel
theorem dL_upper_16 : decode cL_upper 16 = .ok (.astore 4, 2) := by decide +kernel
theorem dL_upper_18 : decode cL_upper 18 = .ok (.iconst 2, 1) := by decide +kernel
theorem dL_upper_19 : decode cL_upper 19 = .ok (.ireturn, 1) := by decide +kernel
theorem dL_upper_20 : decode cL_upper 20 = .ok (.iconst 0, 1) := by decide +kernel
theorem dL_upper_21 : decode cL_upper 21 = .ok (.ireturn, 1) := by decide +kernel
set_option maxRecDepth 20000 in
theorem ggL_truth_X11_truth : GoodIn wsL_truth wsX11_truth := goodIn_ca (goodIn_ca ((goodIn_ca (goodIn_ca (goodIn_ca (goodIn_ca (goodIn_r _ [6, 7, 8, 9, 5, 10, 11, 12, 13, 14, 15, 16, 17, 18, 19, 20, 21, 22, 23, 24, 25, 26, 27, 28, 29, 30, 31, 32, 33, 34, 35, 36, 37, 38, 39, 40, 41, 42, 43, 44, 45, 46, 47, 48, 49, 50] rfl (by decide +kernel)) (goodIn_sub (fun _ h => List.mem_cons_of_mem _ (List.mem_append_left _ (List.mem_append_left _ (List.mem_append_left _ (List.mem_append_left _ (List.mem_append_left _ (List.mem_append_right _ h))))))) gw_wsX110)) (goodIn_sub (fun _ h => List.mem_cons_of_mem _ (List.mem_append_left _ (List.mem_append_left _ (List.mem_append_left _ (List.mem_append_left _ (List.mem_append_right _ h)))))) gw_wsX20)) (goodIn_sub (fun _ h => List.mem_cons_of_mem _ (List.mem_append_left _ (List.mem_append_left _ (List.mem_append_left _ (List.mem_append_right _ h))))) gw_wsX40)) (goodIn_sub (fun _ h => List.mem_cons_of_mem _ (List.mem_append_left _ (List.mem_append_left _ (List.mem_append_right _ h)))) gw_wsX30))) (goodIn_sub (fun _ h => List.mem_cons_of_mem _ (List.mem_append_right _ h)) (all_fg _))) (goodIn_sub (fun _ h => List.mem_cons_of_mem _ (List.mem_append_left _ (List.mem_append_right _ h))) (all_fg _))
set_option maxRecDepth 20000 in
theorem gL_truth_X11_truth : GoodIn wsL_truth (wsV RL 100 RX11 yX11_truth wsX11_truth) := goodIn_app (goodIn_m (mem_cA (List.mem_cons_of_mem _ (List.mem_append_left _ (List.mem_append_left _ (List.mem_append_left _ (List.mem_append_left _ (List.mem_append_left _ (List.mem_append_left _ (List.mem_append_left _ (List.mem_of_getElem? (i := 1) rfl))))))))) (mem_cA (List.mem_cons_of_mem _ (List.mem_append_left _ (List.mem_append_left _ (List.mem_append_left _ (List.mem_append_left _ (List.mem_append_left _ (List.mem_append_left _ (List.mem_append_left _ (List.mem_of_getElem? (i := 2) rfl))))))))) (mem_cA (List.mem_cons_of_mem _ (List.mem_append_left _ (List.mem_append_left _ (List.mem_append_left _ (List.mem_append_left _ (List.mem_append_left _ (List.mem_append_left _ (List.mem_append_left _ (List.mem_of_getElem? (i := 3) rfl))))))))) (mem_cA (List.mem_cons_of_mem _ (List.mem_append_left _ (List.mem_append_left _ (List.mem_append_left _ (List.mem_append_left _ (List.mem_append_left _ (List.mem_append_left _ (List.mem_append_left _ (List.mem_of_getElem? (i := 4) rfl))))))))) mem_cZ)))) (by decide +kernel)) ggL_truth_X11_truth
theorem dL_truth_0 : decode cL_truth 0 = .ok (.aload 6, 2) := by decide +kernel
theorem dL_truth_2 : decode cL_truth 2 = .ok (.iconst 0, 1) := by decide +kernel
theorem dL_truth_3 : decode cL_truth 3 = .ok (.aload_n 0, 1) := by decide +kernel
theorem dL_truth_4 : decode cL_truth 4 = .ok (.iload_n 1, 1) := by decide +kernel
theorem dL_truth_5 : decode cL_truth 5 = .ok (.iload_n 2, 1) := by decide +kernel
theorem dL_truth_6 : decode cL_truth 6 = .ok (.iload_n 3, 1) := by decide +kernel
theorem dL_truth_7 : decode cL_truth 7 = .ok (.iload 4, 2) := by decide +kernel
theorem dL_truth_9 : decode cL_truth 9 = .ok (.iload 5, 2) := by decide +kernel
theorem dL_truth_11 : decode cL_truth 11 = .ok (.invokevirtual 100, 3) := by decide +kernel
theorem dL_truth_14 : decode cL_truth 14 = .ok (.lastore, 1) := by decide +kernel
theorem dL_truth_15 : decode cL_truth 15 = .ok (.goto 7, 3) := by decide +kernel
theorem dL_truth_18 : decode cL_truth 18 = .ok (.astore 7, 2) := by decide +kernel
theorem dL_truth_20 : decode cL_truth 20 = .ok (.iconst 1, 1) := by decide +kernel
theorem dL_truth_21 : decode cL_truth 21 = .ok (.ireturn, 1) := by decide +kernel
theorem dL_truth_22 : decode cL_truth 22 = .ok (.iconst 0, 1) := by decide +kernel
theorem dL_truth_23 : decode cL_truth 23 = .ok (.ireturn, 1) := by decide +kernel
set_option maxRecDepth 20000 in
theorem ggL_covered_X11_covered : GoodIn wsL_covered wsX11_covered := goodIn_ca (goodIn_ca ((goodIn_ca (goodIn_ca (goodIn_ca (goodIn_ca (goodIn_ca (goodIn_r _ [6, 7, 8, 9, 10, 11, 12, 5, 13, 14, 15, 16, 17, 18, 19, 20, 21, 22, 23, 24, 25, 26, 27, 28, 29, 30, 31, 32, 33, 34, 35, 36, 37, 38, 39, 40, 41, 42, 43, 44, 45, 46, 47, 48, 49, 50, 51, 52, 53, 54, 55, 56, 57, 58, 59, 60, 61, 62, 63, 64, 65, 66, 67, 68, 69, 70, 71, 72, 73, 74, 75, 76, 77, 78, 79, 80] rfl (by decide +kernel)) (goodIn_sub (fun _ h => List.mem_cons_of_mem _ (List.mem_append_left _ (List.mem_append_left _ (List.mem_append_left _ (List.mem_append_left _ (List.mem_append_left _ (List.mem_append_left _ (List.mem_append_right _ h)))))))) gw_wsX110)) (goodIn_sub (fun _ h => List.mem_cons_of_mem _ (List.mem_append_left _ (List.mem_append_left _ (List.mem_append_left _ (List.mem_append_left _ (List.mem_append_left _ (List.mem_append_right _ h))))))) gw_wsX90)) (goodIn_sub (fun _ h => List.mem_cons_of_mem _ (List.mem_append_left _ (List.mem_append_left _ (List.mem_append_left _ (List.mem_append_left _ (List.mem_append_right _ h)))))) gw_wsX20)) (goodIn_sub (fun _ h => List.mem_cons_of_mem _ (List.mem_append_left _ (List.mem_append_left _ (List.mem_append_left _ (List.mem_append_right _ h))))) gw_wsX40)) (goodIn_sub (fun _ h => List.mem_cons_of_mem _ (List.mem_append_left _ (List.mem_append_left _ (List.mem_append_right _ h)))) gw_wsX30))) (goodIn_sub (fun _ h => List.mem_cons_of_mem _ (List.mem_append_left _ (List.mem_append_right _ h))) (all_fg _))) (goodIn_sub (fun _ h => List.mem_cons_of_mem _ (List.mem_append_right _ h)) (all_fg _))
set_option maxRecDepth 20000 in
theorem gL_covered_X11_covered : GoodIn wsL_covered (wsV RL 104 RX11 yX11_covered wsX11_covered) := goodIn_app (goodIn_m (mem_cA (List.mem_cons_of_mem _ (List.mem_append_left _ (List.mem_append_left _ (List.mem_append_left _ (List.mem_append_left _ (List.mem_append_left _ (List.mem_append_left _ (List.mem_append_left _ (List.mem_append_left _ (List.mem_of_getElem? (i := 1) rfl)))))))))) (mem_cA (List.mem_cons_of_mem _ (List.mem_append_left _ (List.mem_append_left _ (List.mem_append_left _ (List.mem_append_left _ (List.mem_append_left _ (List.mem_append_left _ (List.mem_append_left _ (List.mem_append_left _ (List.mem_of_getElem? (i := 2) rfl)))))))))) (mem_cA (List.mem_cons_of_mem _ (List.mem_append_left _ (List.mem_append_left _ (List.mem_append_left _ (List.mem_append_left _ (List.mem_append_left _ (List.mem_append_left _ (List.mem_append_left _ (List.mem_append_left _ (List.mem_of_getElem? (i := 3) rfl)))))))))) (mem_cA (List.mem_cons_of_mem _ (List.mem_append_left _ (List.mem_append_left _ (List.mem_append_left _ (List.mem_append_left _ (List.mem_append_left _ (List.mem_append_left _ (List.mem_append_left _ (List.mem_append_left _ (List.mem_of_getElem? (i := 4) rfl)))))))))) mem_cZ)))) (by decide +kernel)) ggL_covered_X11_covered
theorem dL_covered_0 : decode cL_covered 0 = .ok (.aload_n 2, 1) := by decide +kernel
theorem dL_covered_1 : decode cL_covered 1 = .ok (.iconst 0, 1) := by decide +kernel
theorem dL_covered_2 : decode cL_covered 2 = .ok (.aload_n 0, 1) := by decide +kernel
theorem dL_covered_3 : decode cL_covered 3 = .ok (.iload_n 1, 1) := by decide +kernel
theorem dL_covered_4 : decode cL_covered 4 = .ok (.invokevirtual 104, 3) := by decide +kernel
theorem dL_covered_7 : decode cL_covered 7 = .ok (.i2l, 1) := by decide +kernel
theorem dL_covered_8 : decode cL_covered 8 = .ok (.lastore, 1) := by decide +kernel
theorem dL_covered_9 : decode cL_covered 9 = .ok (.goto 6, 3) := by decide +kernel
theorem dL_covered_12 : decode cL_covered 12 = .ok (.astore_n 3, 1) := by decide +kernel
theorem dL_covered_13 : decode cL_covered 13 = .ok (.iconst 1, 1) := by decide +kernel
theorem dL_covered_14 : decode cL_covered 14 = .ok (.ireturn, 1) := by decide +kernel
theorem dL_covered_15 : decode cL_covered 15 = .ok (.iconst 0, 1) := by decide +kernel
theorem dL_covered_16 : decode cL_covered 16 = .ok (.ireturn, 1) := by decide +kernel
set_option maxRecDepth 20000 in
theorem ggL_totalEstimate_X11_totalEstimate : GoodIn wsL_totalEstimate wsX11_totalEstimate := goodIn_ca (goodIn_ca ((goodIn_ca (goodIn_ca (goodIn_r _ [6, 7, 8, 9, 5, 10, 11, 12, 13, 14, 15, 16, 17, 18, 19] rfl (by decide +kernel)) (goodIn_sub (fun _ h => List.mem_cons_of_mem _ (List.mem_append_left _ (List.mem_append_left _ (List.mem_append_left _ (List.mem_append_right _ h))))) gw_wsX110)) (goodIn_sub (fun _ h => List.mem_cons_of_mem _ (List.mem_append_left _ (List.mem_append_left _ (List.mem_append_right _ h)))) gw_wsX90))) (goodIn_sub (fun _ h => List.mem_cons_of_mem _ (List.mem_append_right _ h)) (all_fg _))) (goodIn_sub (fun _ h => List.mem_cons_of_mem _ (List.mem_append_left _ (List.mem_append_right _ h))) (all_fg _))
set_option maxRecDepth 20000 in
theorem gL_totalEstimate_X11_totalEstimate : GoodIn wsL_totalEstimate (wsV RL 107 RX11 yX11_totalEstimate wsX11_totalEstimate) := goodIn_app (goodIn_m (mem_cA (List.mem_cons_of_mem _ (List.mem_append_left _ (List.mem_append_left _ (List.mem_append_left _ (List.mem_append_left _ (List.mem_of_getElem? (i := 1) rfl)))))) (mem_cA (List.mem_cons_of_mem _ (List.mem_append_left _ (List.mem_append_left _ (List.mem_append_left _ (List.mem_append_left _ (List.mem_of_getElem? (i := 2) rfl)))))) (mem_cA (List.mem_cons_of_mem _ (List.mem_append_left _ (List.mem_append_left _ (List.mem_append_left _ (List.mem_append_left _ (List.mem_of_getElem? (i := 3) rfl)))))) (mem_cA (List.mem_cons_of_mem _ (List.mem_append_left _ (List.mem_append_left _ (List.mem_append_left _ (List.mem_append_left _ (List.mem_of_getElem? (i := 4) rfl)))))) mem_cZ)))) (by decide +kernel)) ggL_totalEstimate_X11_totalEstimate
theorem dL_totalEstimate_0 : decode cL_totalEstimate 0 = .ok (.aload_n 2, 1) := by decide +kernel
theorem dL_totalEstimate_1 : decode cL_totalEstimate 1 = .ok (.iconst 0, 1) := by decide +kernel
theorem dL_totalEstimate_2 : decode cL_totalEstimate 2 = .ok (.aload_n 0, 1) := by decide +kernel
theorem dL_totalEstimate_3 : decode cL_totalEstimate 3 = .ok (.iload_n 1, 1) := by decide +kernel
theorem dL_totalEstimate_4 : decode cL_totalEstimate 4 = .ok (.invokevirtual 107, 3) := by decide +kernel
theorem dL_totalEstimate_7 : decode cL_totalEstimate 7 = .ok (.lastore, 1) := by decide +kernel
theorem dL_totalEstimate_8 : decode cL_totalEstimate 8 = .ok (.goto 6, 3) := by decide +kernel
theorem dL_totalEstimate_11 : decode cL_totalEstimate 11 = .ok (.astore_n 3, 1) := by decide +kernel
theorem dL_totalEstimate_12 : decode cL_totalEstimate 12 = .ok (.iconst 1, 1) := by decide +kernel
theorem dL_totalEstimate_13 : decode cL_totalEstimate 13 = .ok (.ireturn, 1) := by decide +kernel
theorem dL_totalEstimate_14 : decode cL_totalEstimate 14 = .ok (.iconst 0, 1) := by decide +kernel
theorem dL_totalEstimate_15 : decode cL_totalEstimate 15 = .ok (.ireturn, 1) := by decide +kernel
set_option maxRecDepth 20000 in
theorem ggL_totalMargin_X11_totalMargin : GoodIn wsL_totalMargin wsX11_totalMargin := goodIn_ca (goodIn_ca ((goodIn_ca (goodIn_ca (goodIn_r _ [6, 7, 8, 9, 5, 10, 11, 12, 13, 14, 15, 16, 17, 18, 19, 20, 21, 22, 23, 24, 25, 26, 27, 28, 29, 30, 31, 32, 33, 34, 35, 36, 37, 38, 39] rfl (by decide +kernel)) (goodIn_sub (fun _ h => List.mem_cons_of_mem _ (List.mem_append_left _ (List.mem_append_left _ (List.mem_append_left _ (List.mem_append_right _ h))))) gw_wsX110)) (goodIn_sub (fun _ h => List.mem_cons_of_mem _ (List.mem_append_left _ (List.mem_append_left _ (List.mem_append_right _ h)))) gw_wsX90))) (goodIn_sub (fun _ h => List.mem_cons_of_mem _ (List.mem_append_right _ h)) (all_fg _))) (goodIn_sub (fun _ h => List.mem_cons_of_mem _ (List.mem_append_left _ (List.mem_append_right _ h))) (all_fg _))
set_option maxRecDepth 20000 in
theorem gL_totalMargin_X11_totalMargin : GoodIn wsL_totalMargin (wsV RL 110 RX11 yX11_totalMargin wsX11_totalMargin) := goodIn_app (goodIn_m (mem_cA (List.mem_cons_of_mem _ (List.mem_append_left _ (List.mem_append_left _ (List.mem_append_left _ (List.mem_append_left _ (List.mem_append_left _ (List.mem_of_getElem? (i := 1) rfl))))))) (mem_cA (List.mem_cons_of_mem _ (List.mem_append_left _ (List.mem_append_left _ (List.mem_append_left _ (List.mem_append_left _ (List.mem_append_left _ (List.mem_of_getElem? (i := 2) rfl))))))) (mem_cA (List.mem_cons_of_mem _ (List.mem_append_left _ (List.mem_append_left _ (List.mem_append_left _ (List.mem_append_left _ (List.mem_append_left _ (List.mem_of_getElem? (i := 3) rfl))))))) (mem_cA (List.mem_cons_of_mem _ (List.mem_append_left _ (List.mem_append_left _ (List.mem_append_left _ (List.mem_append_left _ (List.mem_append_left _ (List.mem_of_getElem? (i := 4) rfl))))))) mem_cZ)))) (by decide +kernel)) ggL_totalMargin_X11_totalMargin
theorem dL_totalMargin_0 : decode cL_totalMargin 0 = .ok (.aload_n 2, 1) := by decide +kernel
theorem dL_totalMargin_1 : decode cL_totalMargin 1 = .ok (.iconst 0, 1) := by decide +kernel
theorem dL_totalMargin_2 : decode cL_totalMargin 2 = .ok (.aload_n 0, 1) := by decide +kernel
theorem dL_totalMargin_3 : decode cL_totalMargin 3 = .ok (.iload_n 1, 1) := by decide +kernel
theorem dL_totalMargin_4 : decode cL_totalMargin 4 = .ok (.invokevirtual 110, 3) := by decide +kernel
theorem dL_totalMargin_7 : decode cL_totalMargin 7 = .ok (.dastore, 1) := by decide +kernel
theorem dL_totalMargin_8 : decode cL_totalMargin 8 = .ok (.goto 6, 3) := by decide +kernel
theorem dL_totalMargin_11 : decode cL_totalMargin 11 = .ok (.astore_n 3, 1) := by decide +kernel
theorem dL_totalMargin_12 : decode cL_totalMargin 12 = .ok (.iconst 1, 1) := by decide +kernel
theorem dL_totalMargin_13 : decode cL_totalMargin 13 = .ok (.ireturn, 1) := by decide +kernel
theorem dL_totalMargin_14 : decode cL_totalMargin 14 = .ok (.iconst 0, 1) := by decide +kernel
theorem dL_totalMargin_15 : decode cL_totalMargin 15 = .ok (.ireturn, 1) := by decide +kernel
set_option maxRecDepth 20000 in
theorem ggL_ranked_X11_ranked : GoodIn wsL_ranked wsX11_ranked := goodIn_ca (goodIn_ca ((goodIn_ca (goodIn_ca (goodIn_r _ [6, 7, 8, 9, 5, 10, 11, 12, 13, 14, 15, 16, 17, 18, 19, 20, 21, 22, 23] rfl (by decide +kernel)) (goodIn_sub (fun _ h => List.mem_cons_of_mem _ (List.mem_append_left _ (List.mem_append_left _ (List.mem_append_left _ (List.mem_append_right _ h))))) gw_wsX110)) (goodIn_sub (fun _ h => List.mem_cons_of_mem _ (List.mem_append_left _ (List.mem_append_left _ (List.mem_append_right _ h)))) gw_wsX90))) (goodIn_sub (fun _ h => List.mem_cons_of_mem _ (List.mem_append_right _ h)) (all_fg _))) (goodIn_sub (fun _ h => List.mem_cons_of_mem _ (List.mem_append_left _ (List.mem_append_right _ h))) (all_fg _))
set_option maxRecDepth 20000 in
theorem gL_ranked_X11_ranked : GoodIn wsL_ranked (wsV RL 114 RX11 yX11_ranked wsX11_ranked) := goodIn_app (goodIn_m (mem_cA (List.mem_cons_of_mem _ (List.mem_append_left _ (List.mem_append_left _ (List.mem_append_left _ (List.mem_append_left _ (List.mem_of_getElem? (i := 1) rfl)))))) (mem_cA (List.mem_cons_of_mem _ (List.mem_append_left _ (List.mem_append_left _ (List.mem_append_left _ (List.mem_append_left _ (List.mem_of_getElem? (i := 2) rfl)))))) (mem_cA (List.mem_cons_of_mem _ (List.mem_append_left _ (List.mem_append_left _ (List.mem_append_left _ (List.mem_append_left _ (List.mem_of_getElem? (i := 3) rfl)))))) (mem_cA (List.mem_cons_of_mem _ (List.mem_append_left _ (List.mem_append_left _ (List.mem_append_left _ (List.mem_append_left _ (List.mem_of_getElem? (i := 4) rfl)))))) mem_cZ)))) (by decide +kernel)) ggL_ranked_X11_ranked
theorem dL_ranked_0 : decode cL_ranked 0 = .ok (.aload_n 3, 1) := by decide +kernel
theorem dL_ranked_1 : decode cL_ranked 1 = .ok (.iconst 0, 1) := by decide +kernel
theorem dL_ranked_2 : decode cL_ranked 2 = .ok (.aload_n 0, 1) := by decide +kernel
theorem dL_ranked_3 : decode cL_ranked 3 = .ok (.iload_n 1, 1) := by decide +kernel
theorem dL_ranked_4 : decode cL_ranked 4 = .ok (.iload_n 2, 1) := by decide +kernel
theorem dL_ranked_5 : decode cL_ranked 5 = .ok (.invokevirtual 114, 3) := by decide +kernel
theorem dL_ranked_8 : decode cL_ranked 8 = .ok (.i2l, 1) := by decide +kernel
theorem dL_ranked_9 : decode cL_ranked 9 = .ok (.lastore, 1) := by decide +kernel
theorem dL_ranked_10 : decode cL_ranked 10 = .ok (.goto 7, 3) := by decide +kernel
theorem dL_ranked_13 : decode cL_ranked 13 = .ok (.astore 4, 2) := by decide +kernel
theorem dL_ranked_15 : decode cL_ranked 15 = .ok (.iconst 1, 1) := by decide +kernel
theorem dL_ranked_16 : decode cL_ranked 16 = .ok (.ireturn, 1) := by decide +kernel
theorem dL_ranked_17 : decode cL_ranked 17 = .ok (.iconst 0, 1) := by decide +kernel
theorem dL_ranked_18 : decode cL_ranked 18 = .ok (.ireturn, 1) := by decide +kernel
set_option maxHeartbeats 4000000 in
set_option maxRecDepth 100000 in
theorem w_lose (G : EnvG) (l : Launch) (hl9 : l.stackTraces = false) (Φ : Hm) (sz x ca : Nat) (tm r w : Nat) (aq e : Int32) (ob sm un : Int64) (n : Nat) (Fs : Nat → Fl) (nT : Nat) (Ft : Nat → Fl) (sn : SN) (qn : Nat) (qL : Nat → Nat) (qd : Int32) (t s : Nat) (c : Cf) (a : Int32) (o : Nat) (fo : Nat → Int64) (hx : G.2.2.2 ≤ x) (hno : G.2.2.2 ≤ o) (ho : ∀ j, j < 149 → o ≠ x + j) (hI : In G x ca Φ) (hc : Φ o = some (al_ G 1 fo)) (hXC : XC G x (tm, r, w, aq, e, ob, sm, un, (n, Fs), (nT, Ft)) Φ) (hSQ : SQ G x c sn (qn, qL, qd) Φ) (hcA : CfA G x t s c Φ) (hg : CfG c) (had9 : aq = 0 ∨ aq = 1) : Ct G l yL_lose wsL_lose ({ frames := 8, cells := 1, slots := 6, locals := 123 }) 1 6 [.ref x, .int a, .ref o] Φ sz (fun v Φ1 sz1 => (∃ (k9 : Int32) (fo9 : Nat → Int64) (q8 : QN), v = some (.int k9) ∧ Φ1 o = some (al_ G 1 fo9) ∧ SQ G x c sn q8 Φ1 ∧ LoR a (qn, qL, qd) q8 ∧ AnsR (InQ qn a) True (nI (qL a.toNatClampNeg)).toInt64 k9 (fo9 0)) ∧ WpL G x (ca) (fun j9 => j9 = 46 ∨ j9 = 47) o Φ Φ1) := by
  refine Ct.ofH (cc := cL_lose) (maxL := 4) (ret := (some .int)) (by decide) rfl (Nat.le_of_ble_eq_true rfl) ?_
  intro p9 e9 s9 m9 w9 t9 k9 B htab9
  show Z p9 l e9 _ s9 m9 _ w9 t9 k9 _ G 4 0 [(0, .ref x), (1, .int a), (2, .ref o)] [] Φ sz 0 0
  have hX0 := hXC
  obtain ⟨xp, xb, pp, pt, he9, hE0, h810, h950, hTC, hTT, hb9⟩ := hXC
  have hSQ0 := hSQ
  obtain ⟨hSd, qp, hQ0⟩ := hSQ0
  have hQ : QbR G x qn qL qd qp Φ := hQ0
  have hqn9 : qn ≤ 12 := hQ.le
  replace he9 : xp - xb = e := he9
  have hE9 : Φ (x + 80) = some (e80 x (nI tm) (nI r) (nI w) aq xp xb ob sm un) := hE0
  have h819 : Φ (x + 81) = some (o_ 6 [.ref (x + 82), .int (nI n)]) := h810
  have h959 : Φ (x + 95) = some (o_ 6 [.ref (x + 96), .int (nI nT)]) := h950
  have hb8 : tm ≤ 1000000 ∧ 1 ≤ r ∧ r ≤ 1024 ∧ w < 2147483648 := hb9
  have hn9 : n ≤ 12 := TbR.le hTC
  have hnT9 : nT ≤ 24 := TbR.le hTT
  refine z_aload_n B dL_lose_0 rfl 2 rfl ?_
  refine z_iconst (v := 0) B dL_lose_1 rfl ?_
  refine z_aload_n B dL_lose_2 rfl 0 rfl ?_
  refine z_iload_n B dL_lose_3 rfl 1 rfl ?_
  have h0 : Φ x = some (o_ 13 [.ref (x + 1), .ref (x + 3), .ref (x + 24), .ref (x + 46), .ref (x + 74), .ref (x + 80), .ref (x + 132), .ref (x + 121)]) := in0 (k := 0) hI rfl
  refine zb_callC (As := [.int a]) (rest := [.int 0, .ref o]) B (s_X11_loseX G l hl9 Φ sz x ca qn qL qd qp a hx hI hQ) (cwV 1 B.1.2.2.2.2 gL_lose_X11_lose rfl rfl rfl (by decide +kernel) ⟨Nat.le_of_ble_eq_true rfl, Nat.le_of_ble_eq_true rfl⟩) h0 rfl rfl rfl rfl (Nat.le_of_ble_eq_true rfl) dL_lose_4 ⟨Nat.le_of_ble_eq_true rfl, Nat.le_of_ble_eq_true rfl⟩ (fun v1 Φ1 sz1 st1 hp1 hs1 => ?_) (fun E9 hE9_ => ?_)
  · obtain ⟨⟨u1, hu1, rfl, rfl, hQ1⟩, hz1, hI1, hF1⟩ := hp1
    have hS8 : SQ G x c sn (qn - 1, rmL qL u1, qd) Φ1 := ⟨hSd.mv (fun j hj => hF1 _ (fun j9 q9 hj9 => by replace hj9 : j9 = 46 ∨ j9 = 47 := hj9; omega)), _, hQ1⟩
    subst sz1
    replace hs1 : st1 = [.int (nI (qL u1)), .int 0, .ref o] := hs1
    subst st1
    have hc1_ : Φ1 o = some (al_ G 1 fo) := (Fr.at hF1 (fun j hj => by replace hj : j = 46 ∨ j = 47 := hj; omega) ho).trans hc
    refine z_i2l (v := (nI (qL u1))) B dL_lose_7 rfl ?_
    refine z_last B hc1_ hno (vin rfl) dL_lose_8 (fun Φ2 hΦ2 => ?_)
    refine z_goto (tgt := 15) B dL_lose_9 rfl ?_
    refine z_iconst (v := 0) B dL_lose_15 rfl ?_
    exact z_ret_i B dL_lose_16 ⟨⟨_, _, _, rfl, fset_at hΦ2, SQ_fl0 hS8 ho hΦ2, Or.inr ⟨u1, hu1, rfl, rfl⟩, Or.inl ⟨InQ_i hu1 hqn9, trivial, rfl, updL_at.trans (congrArg (fun w9 : Nat => (nI (qL w9)).toInt64) (nI_clamp (n := u1) (by omega)).symm)⟩⟩, In.out hI1 ho hΦ2, ⟨_, fset_at hΦ2⟩, fun b9 h9 h8 => (fset_fr hΦ2 h8).trans (hF1 b9 (fun j9 q9 hj => h9 j9 hj q9))⟩
  · obtain rfl : E9 = xIO := List.mem_singleton.mp hE9_
    refine ⟨12, ⟨[], ⟨0, 9, 12, 29⟩, [], htab9.trans rfl, (fun z9 hz9 => absurd hz9 List.not_mem_nil), by decide, by decide, by decide +kernel, by decide, rfl⟩, fun q9 sz9 Φ9 hP9 => ?_⟩
    refine z_astore_n (lv' := [(3, .ref q9), (0, .ref x), (1, .int a), (2, .ref o)]) B dL_lose_12 rfl (Nat.le_of_ble_eq_true rfl) rfl ?_
    refine z_iconst (v := 1) B dL_lose_13 rfl ?_
    exact z_ret_i B dL_lose_14 ⟨⟨_, fo, _, rfl, (Fr.at0 hP9.2.2).trans hc, SQ.eq hSQ (fun j _ _ => Fr.at0 hP9.2.2), Or.inl ⟨hP9.1, rfl⟩, Or.inr (Or.inl ⟨hP9.1, rfl⟩)⟩, In.mono hP9.2.1 (by omega), ⟨_, (Fr.at0 hP9.2.2).trans hc⟩, fun b9 _ _ => Fr.at0 hP9.2.2⟩

set_option maxHeartbeats 4000000 in
set_option maxRecDepth 100000 in
theorem w_duplicate (G : EnvG) (l : Launch) (hl9 : l.stackTraces = false) (Φ : Hm) (sz x ca : Nat) (tm r w : Nat) (aq e : Int32) (ob sm un : Int64) (n : Nat) (Fs : Nat → Fl) (nT : Nat) (Ft : Nat → Fl) (sn : SN) (qn : Nat) (qL : Nat → Nat) (qd : Int32) (t s : Nat) (c : Cf) (a : Int32) (o : Nat) (fo : Nat → Int64) (hx : G.2.2.2 ≤ x) (hno : G.2.2.2 ≤ o) (ho : ∀ j, j < 149 → o ≠ x + j) (hI : In G x ca Φ) (hc : Φ o = some (al_ G 1 fo)) (hXC : XC G x (tm, r, w, aq, e, ob, sm, un, (n, Fs), (nT, Ft)) Φ) (hSQ : SQ G x c sn (qn, qL, qd) Φ) (hcA : CfA G x t s c Φ) (hg : CfG c) (had9 : aq = 0 ∨ aq = 1) : Ct G l yL_duplicate wsL_duplicate ({ frames := 8, cells := 1, slots := 6, locals := 124 }) 1 6 [.ref x, .int a, .ref o] Φ sz (fun v Φ1 sz1 => (∃ (k9 : Int32) (fo9 : Nat → Int64) (q8 : QN), v = some (.int k9) ∧ Φ1 o = some (al_ G 1 fo9) ∧ SQ G x c sn q8 Φ1 ∧ DuR a (qn, qL, qd) q8 ∧ AnsR (InQ qn a) True (duB qn).toInt64 k9 (fo9 0)) ∧ WpL G x (ca) (fun j9 => 46 ≤ j9 ∧ j9 < 74) o Φ Φ1) := by
  refine Ct.ofH (cc := cL_duplicate) (maxL := 4) (ret := (some .int)) (by decide) rfl (Nat.le_of_ble_eq_true rfl) ?_
  intro p9 e9 s9 m9 w9 t9 k9 B htab9
  show Z p9 l e9 _ s9 m9 _ w9 t9 k9 _ G 4 0 [(0, .ref x), (1, .int a), (2, .ref o)] [] Φ sz 0 0
  have hX0 := hXC
  obtain ⟨xp, xb, pp, pt, he9, hE0, h810, h950, hTC, hTT, hb9⟩ := hXC
  have hSQ0 := hSQ
  obtain ⟨hSd, qp, hQ0⟩ := hSQ0
  have hQ : QbR G x qn qL qd qp Φ := hQ0
  have hqn9 : qn ≤ 12 := hQ.le
  replace he9 : xp - xb = e := he9
  have hE9 : Φ (x + 80) = some (e80 x (nI tm) (nI r) (nI w) aq xp xb ob sm un) := hE0
  have h819 : Φ (x + 81) = some (o_ 6 [.ref (x + 82), .int (nI n)]) := h810
  have h959 : Φ (x + 95) = some (o_ 6 [.ref (x + 96), .int (nI nT)]) := h950
  have hb8 : tm ≤ 1000000 ∧ 1 ≤ r ∧ r ≤ 1024 ∧ w < 2147483648 := hb9
  have hn9 : n ≤ 12 := TbR.le hTC
  have hnT9 : nT ≤ 24 := TbR.le hTT
  refine z_aload_n B dL_duplicate_0 rfl 2 rfl ?_
  refine z_iconst (v := 0) B dL_duplicate_1 rfl ?_
  refine z_aload_n B dL_duplicate_2 rfl 0 rfl ?_
  refine z_iload_n B dL_duplicate_3 rfl 1 rfl ?_
  have h0 : Φ x = some (o_ 13 [.ref (x + 1), .ref (x + 3), .ref (x + 24), .ref (x + 46), .ref (x + 74), .ref (x + 80), .ref (x + 132), .ref (x + 121)]) := in0 (k := 0) hI rfl
  refine zb_callC (As := [.int a]) (rest := [.int 0, .ref o]) B (s_X11_duplicateX G l hl9 Φ sz x ca qn qL qd qp a hx hI hQ) (cwV 1 B.1.2.2.2.2 gL_duplicate_X11_duplicate rfl rfl rfl (by decide +kernel) ⟨Nat.le_of_ble_eq_true rfl, Nat.le_of_ble_eq_true rfl⟩) h0 rfl rfl rfl rfl (Nat.le_of_ble_eq_true rfl) dL_duplicate_4 ⟨Nat.le_of_ble_eq_true rfl, Nat.le_of_ble_eq_true rfl⟩ (fun v1 Φ1 sz1 st1 hp1 hs1 => ?_) (fun E9 hE9_ => ?_)
  · obtain ⟨⟨u1, n9_, L9_, d9_, hu1, rfl, hd1, hQ1⟩, hz1, hI1, hF1⟩ := hp1
    obtain ⟨rfl, hb1, he1⟩ := du_enQ hqn9 hd1
    have hS8 : SQ G x c sn (n9_, L9_, d9_) Φ1 := ⟨hSd.mv (fun j hj => hF1 _ (fun j9 q9 hj9 => by replace hj9 : 46 ≤ j9 ∧ j9 < 74 := hj9; omega)), _, hQ1⟩
    subst sz1
    replace hs1 : st1 = [.int (duB qn), .int 0, .ref o] := hs1
    subst st1
    have hc1_ : Φ1 o = some (al_ G 1 fo) := (Fr.at hF1 (fun j hj => by replace hj : 46 ≤ j ∧ j < 74 := hj; omega) ho).trans hc
    refine z_if_eq (tgt := 14) B dL_duplicate_7 rfl (fun c_1 => ?_) (fun c_1 => ?_)
    · refine z_lconst (v := 0) B dL_duplicate_14 rfl ?_
      refine z_last B hc1_ hno (vin rfl) dL_duplicate_15 (fun Φ2 hΦ2 => ?_)
      refine z_goto (tgt := 22) B dL_duplicate_16 rfl ?_
      refine z_iconst (v := 0) B dL_duplicate_22 rfl ?_
      exact z_ret_i B dL_duplicate_23 ⟨⟨_, _, _, rfl, fset_at hΦ2, SQ_fl0 hS8 ho hΦ2, Or.inr ⟨u1, hu1, rfl, he1⟩, Or.inl ⟨InQ_i hu1 hqn9, trivial, rfl, (updL_at.trans (b2l_0 c_1))⟩⟩, In.out hI1 ho hΦ2, ⟨_, fset_at hΦ2⟩, fun b9 h9 h8 => (fset_fr hΦ2 h8).trans (hF1 b9 (fun j9 q9 hj => h9 j9 hj q9))⟩
    · refine z_lconst (v := 1) B dL_duplicate_10 rfl ?_
      refine z_goto (tgt := 15) B dL_duplicate_11 rfl ?_
      refine z_last B hc1_ hno (vin rfl) dL_duplicate_15 (fun Φ2 hΦ2 => ?_)
      refine z_goto (tgt := 22) B dL_duplicate_16 rfl ?_
      refine z_iconst (v := 0) B dL_duplicate_22 rfl ?_
      exact z_ret_i B dL_duplicate_23 ⟨⟨_, _, _, rfl, fset_at hΦ2, SQ_fl0 hS8 ho hΦ2, Or.inr ⟨u1, hu1, rfl, he1⟩, Or.inl ⟨InQ_i hu1 hqn9, trivial, rfl, (updL_at.trans (b2l_1 hb1 c_1))⟩⟩, In.out hI1 ho hΦ2, ⟨_, fset_at hΦ2⟩, fun b9 h9 h8 => (fset_fr hΦ2 h8).trans (hF1 b9 (fun j9 q9 hj => h9 j9 hj q9))⟩
  · obtain rfl : E9 = xIO := List.mem_singleton.mp hE9_
    refine ⟨19, ⟨[], ⟨0, 16, 19, 29⟩, [], htab9.trans rfl, (fun z9 hz9 => absurd hz9 List.not_mem_nil), by decide, by decide, by decide +kernel, by decide, rfl⟩, fun q9 sz9 Φ9 hP9 => ?_⟩
    refine z_astore_n (lv' := [(3, .ref q9), (0, .ref x), (1, .int a), (2, .ref o)]) B dL_duplicate_19 rfl (Nat.le_of_ble_eq_true rfl) rfl ?_
    refine z_iconst (v := 1) B dL_duplicate_20 rfl ?_
    exact z_ret_i B dL_duplicate_21 ⟨⟨_, fo, _, rfl, (Fr.at0 hP9.2.2).trans hc, SQ.eq hSQ (fun j _ _ => Fr.at0 hP9.2.2), Or.inl ⟨hP9.1, rfl⟩, Or.inr (Or.inl ⟨hP9.1, rfl⟩)⟩, In.mono hP9.2.1 (by omega), ⟨_, (Fr.at0 hP9.2.2).trans hc⟩, fun b9 _ _ => Fr.at0 hP9.2.2⟩

set_option maxHeartbeats 4000000 in
set_option maxRecDepth 100000 in
theorem w_exchange (G : EnvG) (l : Launch) (hl9 : l.stackTraces = false) (Φ : Hm) (sz x ca : Nat) (tm r w : Nat) (aq e : Int32) (ob sm un : Int64) (n : Nat) (Fs : Nat → Fl) (nT : Nat) (Ft : Nat → Fl) (sn : SN) (qn : Nat) (qL : Nat → Nat) (qd : Int32) (t s : Nat) (c : Cf) (a : Int32) (b : Int32) (o : Nat) (fo : Nat → Int64) (hx : G.2.2.2 ≤ x) (hno : G.2.2.2 ≤ o) (ho : ∀ j, j < 149 → o ≠ x + j) (hI : In G x ca Φ) (hc : Φ o = some (al_ G 1 fo)) (hXC : XC G x (tm, r, w, aq, e, ob, sm, un, (n, Fs), (nT, Ft)) Φ) (hSQ : SQ G x c sn (qn, qL, qd) Φ) (hcA : CfA G x t s c Φ) (hg : CfG c) (had9 : aq = 0 ∨ aq = 1) : Ct G l yL_exchange wsL_exchange ({ frames := 8, cells := 2, slots := 12, locals := 124 }) 2 12 [.ref x, .int a, .int b, .ref o] Φ sz (fun v Φ1 sz1 => (∃ (k9 : Int32) (fo9 : Nat → Int64) (q8 : QN), v = some (.int k9) ∧ Φ1 o = some (al_ G 1 fo9) ∧ SQ G x c sn q8 Φ1 ∧ ExR a b (qn, qL, qd) q8 ∧ AnsR (InQ qn a ∧ InQ qn b) True (if a = b then (0 : Int32) else 1).toInt64 k9 (fo9 0)) ∧ WpL G x (ca) (fun j9 => j9 = 47) o Φ Φ1) := by
  refine Ct.ofH (cc := cL_exchange) (maxL := 5) (ret := (some .int)) (by decide) rfl (Nat.le_of_ble_eq_true rfl) ?_
  intro p9 e9 s9 m9 w9 t9 k9 B htab9
  show Z p9 l e9 _ s9 m9 _ w9 t9 k9 _ G 5 0 [(0, .ref x), (1, .int a), (2, .int b), (3, .ref o)] [] Φ sz 0 0
  have hX0 := hXC
  obtain ⟨xp, xb, pp, pt, he9, hE0, h810, h950, hTC, hTT, hb9⟩ := hXC
  have hSQ0 := hSQ
  obtain ⟨hSd, qp, hQ0⟩ := hSQ0
  have hQ : QbR G x qn qL qd qp Φ := hQ0
  have hqn9 : qn ≤ 12 := hQ.le
  replace he9 : xp - xb = e := he9
  have hE9 : Φ (x + 80) = some (e80 x (nI tm) (nI r) (nI w) aq xp xb ob sm un) := hE0
  have h819 : Φ (x + 81) = some (o_ 6 [.ref (x + 82), .int (nI n)]) := h810
  have h959 : Φ (x + 95) = some (o_ 6 [.ref (x + 96), .int (nI nT)]) := h950
  have hb8 : tm ≤ 1000000 ∧ 1 ≤ r ∧ r ≤ 1024 ∧ w < 2147483648 := hb9
  have hn9 : n ≤ 12 := TbR.le hTC
  have hnT9 : nT ≤ 24 := TbR.le hTT
  refine z_aload_n B dL_exchange_0 rfl 3 rfl ?_
  refine z_iconst (v := 0) B dL_exchange_1 rfl ?_
  refine z_aload_n B dL_exchange_2 rfl 0 rfl ?_
  refine z_iload_n B dL_exchange_3 rfl 1 rfl ?_
  refine z_iload_n B dL_exchange_4 rfl 2 rfl ?_
  have h0 : Φ x = some (o_ 13 [.ref (x + 1), .ref (x + 3), .ref (x + 24), .ref (x + 46), .ref (x + 74), .ref (x + 80), .ref (x + 132), .ref (x + 121)]) := in0 (k := 0) hI rfl
  refine zb_callC (As := [.int a, .int b]) (rest := [.int 0, .ref o]) B (s_X11_exchangeX G l hl9 Φ sz x ca qn qL qd qp a b hx hI hQ) (cwV 2 B.1.2.2.2.2 gL_exchange_X11_exchange rfl rfl rfl (by decide +kernel) ⟨Nat.le_of_ble_eq_true rfl, Nat.le_of_ble_eq_true rfl⟩) h0 rfl rfl rfl rfl (Nat.le_of_ble_eq_true rfl) dL_exchange_5 ⟨Nat.le_of_ble_eq_true rfl, Nat.le_of_ble_eq_true rfl⟩ (fun v1 Φ1 sz1 st1 hp1 hs1 => ?_) (fun E9 hE9_ => ?_)
  · obtain ⟨⟨u1, u2, hu1, hu2, rfl, rfl, hd1⟩, hz1, hI1, hF1⟩ := hp1
    obtain ⟨rfl, hb1, hd2⟩ := ex_val hqn9 hu1 hu2 hd1
    have hS8 : SQ G x c sn (qn, exQ qn qL u1 u2, qd) Φ1 := by
      refine ⟨hSd.mv (fun j hj => hF1 _ (fun j9 q9 hj9 => by replace hj9 : j9 = 47 := hj9; omega)), ?_⟩
      rcases hd2 with ⟨e1, hQ1⟩ | ⟨e1, hQ1⟩
      · exact ⟨_, by unfold exQ; rw [if_pos e1]; exact hQ1⟩
      · exact ⟨_, by unfold exQ; rw [if_neg e1]; exact hQ1⟩
    subst sz1
    replace hs1 : st1 = [.int (if nI u1 = nI u2 then (0 : Int32) else 1), .int 0, .ref o] := hs1
    subst st1
    have hc1_ : Φ1 o = some (al_ G 1 fo) := (Fr.at hF1 (fun j hj => by replace hj : j = 47 := hj; omega) ho).trans hc
    refine z_if_eq (tgt := 15) B dL_exchange_8 rfl (fun c_1 => ?_) (fun c_1 => ?_)
    · refine z_lconst (v := 0) B dL_exchange_15 rfl ?_
      refine z_last B hc1_ hno (vin rfl) dL_exchange_16 (fun Φ2 hΦ2 => ?_)
      refine z_goto (tgt := 24) B dL_exchange_17 rfl ?_
      refine z_iconst (v := 0) B dL_exchange_24 rfl ?_
      exact z_ret_i B dL_exchange_25 ⟨⟨_, _, _, rfl, fset_at hΦ2, SQ_fl0 hS8 ho hΦ2, Or.inr ⟨u1, u2, hu1, hu2, rfl, rfl, rfl⟩, Or.inl ⟨⟨InQ_i hu1 hqn9, InQ_i hu2 hqn9⟩, trivial, rfl, (updL_at.trans (b2l_0 c_1))⟩⟩, In.out hI1 ho hΦ2, ⟨_, fset_at hΦ2⟩, fun b9 h9 h8 => (fset_fr hΦ2 h8).trans (hF1 b9 (fun j9 q9 hj => h9 j9 hj q9))⟩
    · refine z_lconst (v := 1) B dL_exchange_11 rfl ?_
      refine z_goto (tgt := 16) B dL_exchange_12 rfl ?_
      refine z_last B hc1_ hno (vin rfl) dL_exchange_16 (fun Φ2 hΦ2 => ?_)
      refine z_goto (tgt := 24) B dL_exchange_17 rfl ?_
      refine z_iconst (v := 0) B dL_exchange_24 rfl ?_
      exact z_ret_i B dL_exchange_25 ⟨⟨_, _, _, rfl, fset_at hΦ2, SQ_fl0 hS8 ho hΦ2, Or.inr ⟨u1, u2, hu1, hu2, rfl, rfl, rfl⟩, Or.inl ⟨⟨InQ_i hu1 hqn9, InQ_i hu2 hqn9⟩, trivial, rfl, (updL_at.trans (b2l_1 hb1 c_1))⟩⟩, In.out hI1 ho hΦ2, ⟨_, fset_at hΦ2⟩, fun b9 h9 h8 => (fset_fr hΦ2 h8).trans (hF1 b9 (fun j9 q9 hj => h9 j9 hj q9))⟩
  · obtain rfl : E9 = xIO := List.mem_singleton.mp hE9_
    refine ⟨20, ⟨[], ⟨0, 17, 20, 29⟩, [], htab9.trans rfl, (fun z9 hz9 => absurd hz9 List.not_mem_nil), by decide, by decide, by decide +kernel, by decide, rfl⟩, fun q9 sz9 Φ9 hP9 => ?_⟩
    refine z_astore (lv' := [(4, .ref q9), (0, .ref x), (1, .int a), (2, .int b), (3, .ref o)]) B dL_exchange_20 (Nat.le_of_ble_eq_true rfl) rfl ?_
    refine z_iconst (v := 1) B dL_exchange_22 rfl ?_
    exact z_ret_i B dL_exchange_23 ⟨⟨_, fo, _, rfl, (Fr.at0 hP9.2.2).trans hc, SQ.eq hSQ (fun j _ _ => Fr.at0 hP9.2.2), Or.inl ⟨hP9.1, rfl⟩, Or.inr (Or.inl ⟨hP9.1, rfl⟩)⟩, In.mono hP9.2.1 (by omega), ⟨_, (Fr.at0 hP9.2.2).trans hc⟩, fun b9 _ _ => Fr.at0 hP9.2.2⟩

set_option maxHeartbeats 4000000 in
set_option maxRecDepth 100000 in
theorem w_templateAge (G : EnvG) (l : Launch) (hl9 : l.stackTraces = false) (Φ : Hm) (sz x ca : Nat) (a : Int32) (o : Nat) (fo : Nat → Int64) (hx : G.2.2.2 ≤ x) (hno : G.2.2.2 ≤ o) (ho : ∀ j, j < 149 → o ≠ x + j) (hI : In G x ca Φ) (hc : Φ o = some (al_ G 1 fo))  : Ct G l yL_templateAge wsL_templateAge ({ frames := 7, cells := 1, slots := 6, locals := 102 }) 1 6 [.ref x, .int a, .ref o] Φ sz (fun v Φ1 sz1 => (∃ r : Int32, v = some (.int r)) ∧ WpL G x (ca) (fun j9 => False) o Φ Φ1) := by
  refine Ct.ofH (cc := cL_templateAge) (maxL := 4) (ret := (some .int)) (by decide) rfl (Nat.le_of_ble_eq_true rfl) ?_
  intro p9 e9 s9 m9 w9 t9 k9 B htab9
  show Z p9 l e9 _ s9 m9 _ w9 t9 k9 _ G 4 0 [(0, .ref x), (1, .int a), (2, .ref o)] [] Φ sz 0 0
  refine z_aload_n B dL_templateAge_0 rfl 2 rfl ?_
  refine z_iconst (v := 0) B dL_templateAge_1 rfl ?_
  refine z_aload_n B dL_templateAge_2 rfl 0 rfl ?_
  refine z_iload_n B dL_templateAge_3 rfl 1 rfl ?_
  have h0 : Φ x = some (o_ 13 [.ref (x + 1), .ref (x + 3), .ref (x + 24), .ref (x + 46), .ref (x + 74), .ref (x + 80), .ref (x + 132), .ref (x + 121)]) := in0 (k := 0) hI rfl
  refine zb_callC (As := [.int a]) (rest := [.int 0, .ref o]) B (s_X11_templateAge G l hl9 Φ sz x ca a hx hI ) (cwV 1 B.1.2.2.2.2 gL_templateAge_X11_templateAge rfl rfl rfl (by decide +kernel) ⟨Nat.le_of_ble_eq_true rfl, Nat.le_of_ble_eq_true rfl⟩) h0 rfl rfl rfl rfl (Nat.le_of_ble_eq_true rfl) dL_templateAge_4 ⟨Nat.le_of_ble_eq_true rfl, Nat.le_of_ble_eq_true rfl⟩ (fun v1 Φ1 sz1 st1 hp1 hs1 => ?_) (fun E9 hE9 => ?_)
  · obtain ⟨⟨r1, rfl⟩, hz1, hI1, hF1⟩ := hp1
    subst sz1
    replace hs1 : st1 = [.int r1, .int 0, .ref o] := hs1
    subst st1
    have hc1 : Φ1 o = some (al_ G 1 fo) := (Fr.at hF1 (fun j hj => (show False from hj).elim) ho).trans hc
    refine z_i2l (v := (r1).toInt64) B dL_templateAge_7 rfl ?_
    refine z_last B hc1 hno (vin rfl) dL_templateAge_8 (fun Φ2 hΦ2 => ?_)
    refine z_goto (tgt := 15) B dL_templateAge_9 rfl ?_
    refine z_iconst (v := 0) B dL_templateAge_15 rfl ?_
    exact z_ret_i B dL_templateAge_16 ⟨⟨_, rfl⟩, In.out hI1 ho hΦ2, ⟨_, fset_at hΦ2⟩, fun b9 h9 h8 => (fset_fr hΦ2 h8).trans (hF1 b9 (fun j9 q9 hj => h9 j9 hj q9))⟩
  · obtain rfl : E9 = xIA := List.mem_singleton.mp hE9
    refine ⟨12, ⟨[], ⟨0, 9, 12, 13⟩, [], htab9.trans rfl, (fun z9 hz9 => absurd hz9 List.not_mem_nil), by decide, by decide, by decide +kernel, by decide, rfl⟩, fun q9 sz9 Φ9 hP9 => ?_⟩
    refine z_astore_n (lv' := [(3, .ref q9), (0, .ref x), (1, .int a), (2, .ref o)]) B dL_templateAge_12 rfl (Nat.le_of_ble_eq_true rfl) rfl ?_
    refine z_iconst (v := 1) B dL_templateAge_13 rfl ?_
    exact z_ret_i B dL_templateAge_14 ⟨⟨_, rfl⟩, In.mono hP9.1 (by omega), ⟨_, (Fr.at0 hP9.2).trans hc⟩, fun b9 _ _ => Fr.at0 hP9.2⟩

set_option maxHeartbeats 4000000 in
set_option maxRecDepth 100000 in
theorem w_counter (G : EnvG) (l : Launch) (hl9 : l.stackTraces = false) (Φ : Hm) (sz x ca : Nat) (a : Int32) (o : Nat) (fo : Nat → Int64) (hx : G.2.2.2 ≤ x) (hno : G.2.2.2 ≤ o) (ho : ∀ j, j < 149 → o ≠ x + j) (hI : In G x ca Φ) (hc : Φ o = some (al_ G 1 fo))  : Ct G l yL_counter wsL_counter ({ frames := 7, cells := 1, slots := 6, locals := 102 }) 1 6 [.ref x, .int a, .ref o] Φ sz (fun v Φ1 sz1 => (∃ r : Int32, v = some (.int r)) ∧ WpL G x (ca) (fun j9 => False) o Φ Φ1) := by
  refine Ct.ofH (cc := cL_counter) (maxL := 4) (ret := (some .int)) (by decide) rfl (Nat.le_of_ble_eq_true rfl) ?_
  intro p9 e9 s9 m9 w9 t9 k9 B htab9
  show Z p9 l e9 _ s9 m9 _ w9 t9 k9 _ G 4 0 [(0, .ref x), (1, .int a), (2, .ref o)] [] Φ sz 0 0
  refine z_aload_n B dL_counter_0 rfl 2 rfl ?_
  refine z_iconst (v := 0) B dL_counter_1 rfl ?_
  refine z_aload_n B dL_counter_2 rfl 0 rfl ?_
  refine z_iload_n B dL_counter_3 rfl 1 rfl ?_
  have h0 : Φ x = some (o_ 13 [.ref (x + 1), .ref (x + 3), .ref (x + 24), .ref (x + 46), .ref (x + 74), .ref (x + 80), .ref (x + 132), .ref (x + 121)]) := in0 (k := 0) hI rfl
  refine zb_callC (As := [.int a]) (rest := [.int 0, .ref o]) B (s_X11_counter G l hl9 Φ sz x ca a hx hI ) (cwV 1 B.1.2.2.2.2 gL_counter_X11_counter rfl rfl rfl (by decide +kernel) ⟨Nat.le_of_ble_eq_true rfl, Nat.le_of_ble_eq_true rfl⟩) h0 rfl rfl rfl rfl (Nat.le_of_ble_eq_true rfl) dL_counter_4 ⟨Nat.le_of_ble_eq_true rfl, Nat.le_of_ble_eq_true rfl⟩ (fun v1 Φ1 sz1 st1 hp1 hs1 => ?_) (fun E9 hE9 => ?_)
  · obtain ⟨⟨r1, rfl⟩, hz1, hI1, hF1⟩ := hp1
    subst sz1
    replace hs1 : st1 = [.long r1, .int 0, .ref o] := hs1
    subst st1
    have hc1 : Φ1 o = some (al_ G 1 fo) := (Fr.at hF1 (fun j hj => (show False from hj).elim) ho).trans hc
    refine z_last B hc1 hno (vin rfl) dL_counter_7 (fun Φ2 hΦ2 => ?_)
    refine z_goto (tgt := 14) B dL_counter_8 rfl ?_
    refine z_iconst (v := 0) B dL_counter_14 rfl ?_
    exact z_ret_i B dL_counter_15 ⟨⟨_, rfl⟩, In.out hI1 ho hΦ2, ⟨_, fset_at hΦ2⟩, fun b9 h9 h8 => (fset_fr hΦ2 h8).trans (hF1 b9 (fun j9 q9 hj => h9 j9 hj q9))⟩
  · obtain rfl : E9 = xIA := List.mem_singleton.mp hE9
    refine ⟨11, ⟨[], ⟨0, 8, 11, 13⟩, [], htab9.trans rfl, (fun z9 hz9 => absurd hz9 List.not_mem_nil), by decide, by decide, by decide +kernel, by decide, rfl⟩, fun q9 sz9 Φ9 hP9 => ?_⟩
    refine z_astore_n (lv' := [(3, .ref q9), (0, .ref x), (1, .int a), (2, .ref o)]) B dL_counter_11 rfl (Nat.le_of_ble_eq_true rfl) rfl ?_
    refine z_iconst (v := 1) B dL_counter_12 rfl ?_
    exact z_ret_i B dL_counter_13 ⟨⟨_, rfl⟩, In.mono hP9.1 (by omega), ⟨_, (Fr.at0 hP9.2).trans hc⟩, fun b9 _ _ => Fr.at0 hP9.2⟩

set_option maxHeartbeats 4000000 in
set_option maxRecDepth 100000 in
theorem w_lossRate (G : EnvG) (l : Launch) (hl9 : l.stackTraces = false) (Φ : Hm) (sz x ca : Nat)  (o : Nat) (fo : Nat → UInt64) (hx : G.2.2.2 ≤ x) (hno : G.2.2.2 ≤ o) (ho : ∀ j, j < 149 → o ≠ x + j) (hI : In G x ca Φ) (hc : Φ o = some (ad_ G 1 fo))  : Ct G l yL_lossRate wsL_lossRate ({ frames := 7, cells := 1, slots := 6, locals := 105 }) 1 6 [.ref x, .ref o] Φ sz (fun v Φ1 sz1 => (∃ r : Int32, v = some (.int r)) ∧ WpD G x (ca) (fun j9 => False) o Φ Φ1) := by
  refine Ct.ofH (cc := cL_lossRate) (maxL := 3) (ret := (some .int)) (by decide) rfl (Nat.le_of_ble_eq_true rfl) ?_
  intro p9 e9 s9 m9 w9 t9 k9 B htab9
  show Z p9 l e9 _ s9 m9 _ w9 t9 k9 _ G 3 0 [(0, .ref x), (1, .ref o)] [] Φ sz 0 0
  refine z_aload_n B dL_lossRate_0 rfl 1 rfl ?_
  refine z_iconst (v := 0) B dL_lossRate_1 rfl ?_
  refine z_aload_n B dL_lossRate_2 rfl 0 rfl ?_
  have h0 : Φ x = some (o_ 13 [.ref (x + 1), .ref (x + 3), .ref (x + 24), .ref (x + 46), .ref (x + 74), .ref (x + 80), .ref (x + 132), .ref (x + 121)]) := in0 (k := 0) hI rfl
  refine zb_callC (As := []) (rest := [.int 0, .ref o]) B (s_X11_lossRate G l hl9 Φ sz x ca  hx hI ) (cwV 0 B.1.2.2.2.2 gL_lossRate_X11_lossRate rfl rfl rfl (by decide +kernel) ⟨Nat.le_of_ble_eq_true rfl, Nat.le_of_ble_eq_true rfl⟩) h0 rfl rfl rfl rfl (Nat.le_of_ble_eq_true rfl) dL_lossRate_3 ⟨Nat.le_of_ble_eq_true rfl, Nat.le_of_ble_eq_true rfl⟩ (fun v1 Φ1 sz1 st1 hp1 hs1 => ?_) (fun E9 hE9 => ?_)
  · obtain ⟨⟨r1, rfl, hb1⟩, hz1, hI1, hF1⟩ := hp1
    subst sz1
    replace hs1 : st1 = [.double r1, .int 0, .ref o] := hs1
    subst st1
    have hc1 : Φ1 o = some (ad_ G 1 fo) := (Fr.at hF1 (fun j hj => (show False from hj).elim) ho).trans hc
    refine z_dast B hc1 hno (vin rfl) dL_lossRate_6 (fun Φ2 hΦ2 => ?_)
    refine z_goto (tgt := 13) B dL_lossRate_7 rfl ?_
    refine z_iconst (v := 0) B dL_lossRate_13 rfl ?_
    exact z_ret_i B dL_lossRate_14 ⟨⟨_, rfl⟩, In.out hI1 ho hΦ2, ⟨_, fset_at hΦ2⟩, fun b9 h9 h8 => (fset_fr hΦ2 h8).trans (hF1 b9 (fun j9 q9 hj => h9 j9 hj q9))⟩
  · obtain rfl : E9 = xAE := List.mem_singleton.mp hE9
    refine ⟨10, ⟨[], ⟨0, 7, 10, 82⟩, [], htab9.trans rfl, (fun z9 hz9 => absurd hz9 List.not_mem_nil), by decide, by decide, by decide +kernel, by decide, rfl⟩, fun q9 sz9 Φ9 hP9 => ?_⟩
    refine z_astore_n (lv' := [(2, .ref q9), (0, .ref x), (1, .ref o)]) B dL_lossRate_10 rfl (Nat.le_of_ble_eq_true rfl) rfl ?_
    refine z_iconst (v := 1) B dL_lossRate_11 rfl ?_
    exact z_ret_i B dL_lossRate_12 ⟨⟨_, rfl⟩, In.mono hP9.1 (by omega), ⟨_, (Fr.at0 hP9.2).trans hc⟩, fun b9 _ _ => Fr.at0 hP9.2⟩

set_option maxHeartbeats 4000000 in
set_option maxRecDepth 100000 in
theorem w_key (G : EnvG) (l : Launch) (hl9 : l.stackTraces = false) (Φ : Hm) (sz x ca : Nat) (a : Int32) (b : Int32) (o : Nat) (fo : Nat → Int64) (hx : G.2.2.2 ≤ x) (hno : G.2.2.2 ≤ o) (ho : ∀ j, j < 149 → o ≠ x + j) (hI : In G x ca Φ) (hc : Φ o = some (al_ G 1 fo))  : Ct G l yL_key wsL_key ({ frames := 8, cells := 2, slots := 12, locals := 124 }) 2 12 [.ref x, .int a, .int b, .ref o] Φ sz (fun v Φ1 sz1 => (∃ r : Int32, v = some (.int r)) ∧ WpL G x (ca) (fun j9 => False) o Φ Φ1) := by
  refine Ct.ofH (cc := cL_key) (maxL := 5) (ret := (some .int)) (by decide) rfl (Nat.le_of_ble_eq_true rfl) ?_
  intro p9 e9 s9 m9 w9 t9 k9 B htab9
  show Z p9 l e9 _ s9 m9 _ w9 t9 k9 _ G 5 0 [(0, .ref x), (1, .int a), (2, .int b), (3, .ref o)] [] Φ sz 0 0
  refine z_aload_n B dL_key_0 rfl 3 rfl ?_
  refine z_iconst (v := 0) B dL_key_1 rfl ?_
  refine z_aload_n B dL_key_2 rfl 0 rfl ?_
  refine z_iload_n B dL_key_3 rfl 1 rfl ?_
  refine z_iload_n B dL_key_4 rfl 2 rfl ?_
  have h0 : Φ x = some (o_ 13 [.ref (x + 1), .ref (x + 3), .ref (x + 24), .ref (x + 46), .ref (x + 74), .ref (x + 80), .ref (x + 132), .ref (x + 121)]) := in0 (k := 0) hI rfl
  refine zb_callC (As := [.int a, .int b]) (rest := [.int 0, .ref o]) B (s_X11_key G l hl9 Φ sz x ca a b hx hI ) (cwV 2 B.1.2.2.2.2 gL_key_X11_key rfl rfl rfl (by decide +kernel) ⟨Nat.le_of_ble_eq_true rfl, Nat.le_of_ble_eq_true rfl⟩) h0 rfl rfl rfl rfl (Nat.le_of_ble_eq_true rfl) dL_key_5 ⟨Nat.le_of_ble_eq_true rfl, Nat.le_of_ble_eq_true rfl⟩ (fun v1 Φ1 sz1 st1 hp1 hs1 => ?_) (fun E9 hE9 => ?_)
  · obtain ⟨⟨r1, rfl⟩, hz1, hI1, hF1⟩ := hp1
    subst sz1
    replace hs1 : st1 = [.int r1, .int 0, .ref o] := hs1
    subst st1
    have hc1 : Φ1 o = some (al_ G 1 fo) := (Fr.at hF1 (fun j hj => (show False from hj).elim) ho).trans hc
    refine z_i2l (v := (r1).toInt64) B dL_key_8 rfl ?_
    refine z_last B hc1 hno (vin rfl) dL_key_9 (fun Φ2 hΦ2 => ?_)
    refine z_goto (tgt := 21) B dL_key_10 rfl ?_
    refine z_iconst (v := 0) B dL_key_21 rfl ?_
    exact z_ret_i B dL_key_22 ⟨⟨_, rfl⟩, In.out hI1 ho hΦ2, ⟨_, fset_at hΦ2⟩, fun b9 h9 h8 => (fset_fr hΦ2 h8).trans (hF1 b9 (fun j9 q9 hj => h9 j9 hj q9))⟩
  · rcases List.mem_cons.mp hE9 with h9 | h9
    · subst h9
      refine ⟨13, ⟨[], ⟨0, 10, 13, 29⟩, [⟨0, 10, 17, 13⟩], htab9.trans rfl, (fun z9 hz9 => absurd hz9 List.not_mem_nil), by decide, by decide, by decide +kernel, by decide, rfl⟩, fun q9 sz9 Φ9 hP9 => ?_⟩
      refine z_astore (lv' := [(4, .ref q9), (0, .ref x), (1, .int a), (2, .int b), (3, .ref o)]) B dL_key_13 (Nat.le_of_ble_eq_true rfl) rfl ?_
      refine z_iconst (v := 1) B dL_key_15 rfl ?_
      exact z_ret_i B dL_key_16 ⟨⟨_, rfl⟩, In.mono hP9.1 (by omega), ⟨_, (Fr.at0 hP9.2).trans hc⟩, fun b9 _ _ => Fr.at0 hP9.2⟩
    · obtain rfl := List.mem_singleton.mp h9
      refine ⟨17, ⟨[⟨0, 10, 13, 29⟩], ⟨0, 10, 17, 13⟩, [], htab9.trans rfl, (fun z9 hz9 => by obtain rfl := List.mem_singleton.mp hz9; exact Or.inr ⟨by decide, xIO, by decide +kernel, by decide⟩), by decide, by decide, by decide +kernel, by decide, rfl⟩, fun q9 sz9 Φ9 hP9 => ?_⟩
      refine z_astore (lv' := [(4, .ref q9), (0, .ref x), (1, .int a), (2, .int b), (3, .ref o)]) B dL_key_17 (Nat.le_of_ble_eq_true rfl) rfl ?_
      refine z_iconst (v := 2) B dL_key_19 rfl ?_
      exact z_ret_i B dL_key_20 ⟨⟨_, rfl⟩, In.mono hP9.1 (by omega), ⟨_, (Fr.at0 hP9.2).trans hc⟩, fun b9 _ _ => Fr.at0 hP9.2⟩

set_option maxHeartbeats 4000000 in
set_option maxRecDepth 100000 in
theorem w_raw (G : EnvG) (l : Launch) (hl9 : l.stackTraces = false) (Φ : Hm) (sz x ca : Nat) (a : Int32) (b : Int32) (o : Nat) (fo : Nat → Int64) (hx : G.2.2.2 ≤ x) (hno : G.2.2.2 ≤ o) (ho : ∀ j, j < 149 → o ≠ x + j) (hI : In G x ca Φ) (hc : Φ o = some (al_ G 1 fo))  : Ct G l yL_raw wsL_raw ({ frames := 8, cells := 2, slots := 12, locals := 124 }) 2 12 [.ref x, .int a, .int b, .ref o] Φ sz (fun v Φ1 sz1 => (∃ r : Int32, v = some (.int r)) ∧ WpL G x (ca) (fun j9 => False) o Φ Φ1) := by
  refine Ct.ofH (cc := cL_raw) (maxL := 5) (ret := (some .int)) (by decide) rfl (Nat.le_of_ble_eq_true rfl) ?_
  intro p9 e9 s9 m9 w9 t9 k9 B htab9
  show Z p9 l e9 _ s9 m9 _ w9 t9 k9 _ G 5 0 [(0, .ref x), (1, .int a), (2, .int b), (3, .ref o)] [] Φ sz 0 0
  refine z_aload_n B dL_raw_0 rfl 3 rfl ?_
  refine z_iconst (v := 0) B dL_raw_1 rfl ?_
  refine z_aload_n B dL_raw_2 rfl 0 rfl ?_
  refine z_iload_n B dL_raw_3 rfl 1 rfl ?_
  refine z_iload_n B dL_raw_4 rfl 2 rfl ?_
  have h0 : Φ x = some (o_ 13 [.ref (x + 1), .ref (x + 3), .ref (x + 24), .ref (x + 46), .ref (x + 74), .ref (x + 80), .ref (x + 132), .ref (x + 121)]) := in0 (k := 0) hI rfl
  refine zb_callC (As := [.int a, .int b]) (rest := [.int 0, .ref o]) B (s_X11_raw G l hl9 Φ sz x ca a b hx hI ) (cwV 2 B.1.2.2.2.2 gL_raw_X11_raw rfl rfl rfl (by decide +kernel) ⟨Nat.le_of_ble_eq_true rfl, Nat.le_of_ble_eq_true rfl⟩) h0 rfl rfl rfl rfl (Nat.le_of_ble_eq_true rfl) dL_raw_5 ⟨Nat.le_of_ble_eq_true rfl, Nat.le_of_ble_eq_true rfl⟩ (fun v1 Φ1 sz1 st1 hp1 hs1 => ?_) (fun E9 hE9 => ?_)
  · obtain ⟨⟨r1, rfl⟩, hz1, hI1, hF1⟩ := hp1
    subst sz1
    replace hs1 : st1 = [.long r1, .int 0, .ref o] := hs1
    subst st1
    have hc1 : Φ1 o = some (al_ G 1 fo) := (Fr.at hF1 (fun j hj => (show False from hj).elim) ho).trans hc
    refine z_last B hc1 hno (vin rfl) dL_raw_8 (fun Φ2 hΦ2 => ?_)
    refine z_goto (tgt := 20) B dL_raw_9 rfl ?_
    refine z_iconst (v := 0) B dL_raw_20 rfl ?_
    exact z_ret_i B dL_raw_21 ⟨⟨_, rfl⟩, In.out hI1 ho hΦ2, ⟨_, fset_at hΦ2⟩, fun b9 h9 h8 => (fset_fr hΦ2 h8).trans (hF1 b9 (fun j9 q9 hj => h9 j9 hj q9))⟩
  · rcases List.mem_cons.mp hE9 with h9 | h9
    · subst h9
      refine ⟨12, ⟨[], ⟨0, 9, 12, 29⟩, [⟨0, 9, 16, 13⟩], htab9.trans rfl, (fun z9 hz9 => absurd hz9 List.not_mem_nil), by decide, by decide, by decide +kernel, by decide, rfl⟩, fun q9 sz9 Φ9 hP9 => ?_⟩
      refine z_astore (lv' := [(4, .ref q9), (0, .ref x), (1, .int a), (2, .int b), (3, .ref o)]) B dL_raw_12 (Nat.le_of_ble_eq_true rfl) rfl ?_
      refine z_iconst (v := 1) B dL_raw_14 rfl ?_
      exact z_ret_i B dL_raw_15 ⟨⟨_, rfl⟩, In.mono hP9.1 (by omega), ⟨_, (Fr.at0 hP9.2).trans hc⟩, fun b9 _ _ => Fr.at0 hP9.2⟩
    · obtain rfl := List.mem_singleton.mp h9
      refine ⟨16, ⟨[⟨0, 9, 12, 29⟩], ⟨0, 9, 16, 13⟩, [], htab9.trans rfl, (fun z9 hz9 => by obtain rfl := List.mem_singleton.mp hz9; exact Or.inr ⟨by decide, xIO, by decide +kernel, by decide⟩), by decide, by decide, by decide +kernel, by decide, rfl⟩, fun q9 sz9 Φ9 hP9 => ?_⟩
      refine z_astore (lv' := [(4, .ref q9), (0, .ref x), (1, .int a), (2, .int b), (3, .ref o)]) B dL_raw_16 (Nat.le_of_ble_eq_true rfl) rfl ?_
      refine z_iconst (v := 2) B dL_raw_18 rfl ?_
      exact z_ret_i B dL_raw_19 ⟨⟨_, rfl⟩, In.mono hP9.1 (by omega), ⟨_, (Fr.at0 hP9.2).trans hc⟩, fun b9 _ _ => Fr.at0 hP9.2⟩

set_option maxHeartbeats 4000000 in
set_option maxRecDepth 100000 in
theorem w_estimate (G : EnvG) (l : Launch) (hl9 : l.stackTraces = false) (Φ : Hm) (sz x ca : Nat) (a : Int32) (b : Int32) (o : Nat) (fo : Nat → Int64) (hx : G.2.2.2 ≤ x) (hno : G.2.2.2 ≤ o) (ho : ∀ j, j < 149 → o ≠ x + j) (hI : In G x ca Φ) (hc : Φ o = some (al_ G 1 fo))  : Ct G l yL_estimate wsL_estimate ({ frames := 8, cells := 2, slots := 12, locals := 124 }) 2 12 [.ref x, .int a, .int b, .ref o] Φ sz (fun v Φ1 sz1 => (∃ r : Int32, v = some (.int r)) ∧ WpL G x (ca) (fun j9 => False) o Φ Φ1) := by
  refine Ct.ofH (cc := cL_estimate) (maxL := 5) (ret := (some .int)) (by decide) rfl (Nat.le_of_ble_eq_true rfl) ?_
  intro p9 e9 s9 m9 w9 t9 k9 B htab9
  show Z p9 l e9 _ s9 m9 _ w9 t9 k9 _ G 5 0 [(0, .ref x), (1, .int a), (2, .int b), (3, .ref o)] [] Φ sz 0 0
  refine z_aload_n B dL_estimate_0 rfl 3 rfl ?_
  refine z_iconst (v := 0) B dL_estimate_1 rfl ?_
  refine z_aload_n B dL_estimate_2 rfl 0 rfl ?_
  refine z_iload_n B dL_estimate_3 rfl 1 rfl ?_
  refine z_iload_n B dL_estimate_4 rfl 2 rfl ?_
  have h0 : Φ x = some (o_ 13 [.ref (x + 1), .ref (x + 3), .ref (x + 24), .ref (x + 46), .ref (x + 74), .ref (x + 80), .ref (x + 132), .ref (x + 121)]) := in0 (k := 0) hI rfl
  refine zb_callC (As := [.int a, .int b]) (rest := [.int 0, .ref o]) B (s_X11_estimate G l hl9 Φ sz x ca a b hx hI ) (cwV 2 B.1.2.2.2.2 gL_estimate_X11_estimate rfl rfl rfl (by decide +kernel) ⟨Nat.le_of_ble_eq_true rfl, Nat.le_of_ble_eq_true rfl⟩) h0 rfl rfl rfl rfl (Nat.le_of_ble_eq_true rfl) dL_estimate_5 ⟨Nat.le_of_ble_eq_true rfl, Nat.le_of_ble_eq_true rfl⟩ (fun v1 Φ1 sz1 st1 hp1 hs1 => ?_) (fun E9 hE9 => ?_)
  · obtain ⟨⟨r1, rfl⟩, hz1, hI1, hF1⟩ := hp1
    subst sz1
    replace hs1 : st1 = [.long r1, .int 0, .ref o] := hs1
    subst st1
    have hc1 : Φ1 o = some (al_ G 1 fo) := (Fr.at hF1 (fun j hj => (show False from hj).elim) ho).trans hc
    refine z_last B hc1 hno (vin rfl) dL_estimate_8 (fun Φ2 hΦ2 => ?_)
    refine z_goto (tgt := 20) B dL_estimate_9 rfl ?_
    refine z_iconst (v := 0) B dL_estimate_20 rfl ?_
    exact z_ret_i B dL_estimate_21 ⟨⟨_, rfl⟩, In.out hI1 ho hΦ2, ⟨_, fset_at hΦ2⟩, fun b9 h9 h8 => (fset_fr hΦ2 h8).trans (hF1 b9 (fun j9 q9 hj => h9 j9 hj q9))⟩
  · rcases List.mem_cons.mp hE9 with h9 | h9
    · subst h9
      refine ⟨12, ⟨[], ⟨0, 9, 12, 29⟩, [⟨0, 9, 16, 13⟩], htab9.trans rfl, (fun z9 hz9 => absurd hz9 List.not_mem_nil), by decide, by decide, by decide +kernel, by decide, rfl⟩, fun q9 sz9 Φ9 hP9 => ?_⟩
      refine z_astore (lv' := [(4, .ref q9), (0, .ref x), (1, .int a), (2, .int b), (3, .ref o)]) B dL_estimate_12 (Nat.le_of_ble_eq_true rfl) rfl ?_
      refine z_iconst (v := 1) B dL_estimate_14 rfl ?_
      exact z_ret_i B dL_estimate_15 ⟨⟨_, rfl⟩, In.mono hP9.1 (by omega), ⟨_, (Fr.at0 hP9.2).trans hc⟩, fun b9 _ _ => Fr.at0 hP9.2⟩
    · obtain rfl := List.mem_singleton.mp h9
      refine ⟨16, ⟨[⟨0, 9, 12, 29⟩], ⟨0, 9, 16, 13⟩, [], htab9.trans rfl, (fun z9 hz9 => by obtain rfl := List.mem_singleton.mp hz9; exact Or.inr ⟨by decide, xIO, by decide +kernel, by decide⟩), by decide, by decide, by decide +kernel, by decide, rfl⟩, fun q9 sz9 Φ9 hP9 => ?_⟩
      refine z_astore (lv' := [(4, .ref q9), (0, .ref x), (1, .int a), (2, .int b), (3, .ref o)]) B dL_estimate_16 (Nat.le_of_ble_eq_true rfl) rfl ?_
      refine z_iconst (v := 2) B dL_estimate_18 rfl ?_
      exact z_ret_i B dL_estimate_19 ⟨⟨_, rfl⟩, In.mono hP9.1 (by omega), ⟨_, (Fr.at0 hP9.2).trans hc⟩, fun b9 _ _ => Fr.at0 hP9.2⟩

set_option maxHeartbeats 4000000 in
set_option maxRecDepth 100000 in
theorem w_lower (G : EnvG) (l : Launch) (hl9 : l.stackTraces = false) (Φ : Hm) (sz x ca : Nat) (a : Int32) (b : Int32) (o : Nat) (fo : Nat → UInt64) (hx : G.2.2.2 ≤ x) (hno : G.2.2.2 ≤ o) (ho : ∀ j, j < 149 → o ≠ x + j) (hI : In G x ca Φ) (hc : Φ o = some (ad_ G 1 fo))  : Ct G l yL_lower wsL_lower ({ frames := 8, cells := 2, slots := 12, locals := 124 }) 2 12 [.ref x, .int a, .int b, .ref o] Φ sz (fun v Φ1 sz1 => (∃ r : Int32, v = some (.int r)) ∧ WpD G x (ca) (fun j9 => False) o Φ Φ1) := by
  refine Ct.ofH (cc := cL_lower) (maxL := 5) (ret := (some .int)) (by decide) rfl (Nat.le_of_ble_eq_true rfl) ?_
  intro p9 e9 s9 m9 w9 t9 k9 B htab9
  show Z p9 l e9 _ s9 m9 _ w9 t9 k9 _ G 5 0 [(0, .ref x), (1, .int a), (2, .int b), (3, .ref o)] [] Φ sz 0 0
  refine z_aload_n B dL_lower_0 rfl 3 rfl ?_
  refine z_iconst (v := 0) B dL_lower_1 rfl ?_
  refine z_aload_n B dL_lower_2 rfl 0 rfl ?_
  refine z_iload_n B dL_lower_3 rfl 1 rfl ?_
  refine z_iload_n B dL_lower_4 rfl 2 rfl ?_
  have h0 : Φ x = some (o_ 13 [.ref (x + 1), .ref (x + 3), .ref (x + 24), .ref (x + 46), .ref (x + 74), .ref (x + 80), .ref (x + 132), .ref (x + 121)]) := in0 (k := 0) hI rfl
  refine zb_callC (As := [.int a, .int b]) (rest := [.int 0, .ref o]) B (s_X11_lower G l hl9 Φ sz x ca a b hx hI ) (cwV 2 B.1.2.2.2.2 gL_lower_X11_lower rfl rfl rfl (by decide +kernel) ⟨Nat.le_of_ble_eq_true rfl, Nat.le_of_ble_eq_true rfl⟩) h0 rfl rfl rfl rfl (Nat.le_of_ble_eq_true rfl) dL_lower_5 ⟨Nat.le_of_ble_eq_true rfl, Nat.le_of_ble_eq_true rfl⟩ (fun v1 Φ1 sz1 st1 hp1 hs1 => ?_) (fun E9 hE9 => ?_)
  · obtain ⟨⟨r1, rfl, hb1⟩, hz1, hI1, hF1⟩ := hp1
    subst sz1
    replace hs1 : st1 = [.double r1, .int 0, .ref o] := hs1
    subst st1
    have hc1 : Φ1 o = some (ad_ G 1 fo) := (Fr.at hF1 (fun j hj => (show False from hj).elim) ho).trans hc
    refine z_dast B hc1 hno (vin rfl) dL_lower_8 (fun Φ2 hΦ2 => ?_)
    refine z_goto (tgt := 20) B dL_lower_9 rfl ?_
    refine z_iconst (v := 0) B dL_lower_20 rfl ?_
    exact z_ret_i B dL_lower_21 ⟨⟨_, rfl⟩, In.out hI1 ho hΦ2, ⟨_, fset_at hΦ2⟩, fun b9 h9 h8 => (fset_fr hΦ2 h8).trans (hF1 b9 (fun j9 q9 hj => h9 j9 hj q9))⟩
  · rcases List.mem_cons.mp hE9 with h9 | h9
    · subst h9
      refine ⟨12, ⟨[], ⟨0, 9, 12, 29⟩, [⟨0, 9, 16, 13⟩], htab9.trans rfl, (fun z9 hz9 => absurd hz9 List.not_mem_nil), by decide, by decide, by decide +kernel, by decide, rfl⟩, fun q9 sz9 Φ9 hP9 => ?_⟩
      refine z_astore (lv' := [(4, .ref q9), (0, .ref x), (1, .int a), (2, .int b), (3, .ref o)]) B dL_lower_12 (Nat.le_of_ble_eq_true rfl) rfl ?_
      refine z_iconst (v := 1) B dL_lower_14 rfl ?_
      exact z_ret_i B dL_lower_15 ⟨⟨_, rfl⟩, In.mono hP9.1 (by omega), ⟨_, (Fr.at0 hP9.2).trans hc⟩, fun b9 _ _ => Fr.at0 hP9.2⟩
    · obtain rfl := List.mem_singleton.mp h9
      refine ⟨16, ⟨[⟨0, 9, 12, 29⟩], ⟨0, 9, 16, 13⟩, [], htab9.trans rfl, (fun z9 hz9 => by obtain rfl := List.mem_singleton.mp hz9; exact Or.inr ⟨by decide, xIO, by decide +kernel, by decide⟩), by decide, by decide, by decide +kernel, by decide, rfl⟩, fun q9 sz9 Φ9 hP9 => ?_⟩
      refine z_astore (lv' := [(4, .ref q9), (0, .ref x), (1, .int a), (2, .int b), (3, .ref o)]) B dL_lower_16 (Nat.le_of_ble_eq_true rfl) rfl ?_
      refine z_iconst (v := 2) B dL_lower_18 rfl ?_
      exact z_ret_i B dL_lower_19 ⟨⟨_, rfl⟩, In.mono hP9.1 (by omega), ⟨_, (Fr.at0 hP9.2).trans hc⟩, fun b9 _ _ => Fr.at0 hP9.2⟩

set_option maxHeartbeats 4000000 in
set_option maxRecDepth 100000 in
theorem w_upper (G : EnvG) (l : Launch) (hl9 : l.stackTraces = false) (Φ : Hm) (sz x ca : Nat) (a : Int32) (b : Int32) (o : Nat) (fo : Nat → UInt64) (hx : G.2.2.2 ≤ x) (hno : G.2.2.2 ≤ o) (ho : ∀ j, j < 149 → o ≠ x + j) (hI : In G x ca Φ) (hc : Φ o = some (ad_ G 1 fo))  : Ct G l yL_upper wsL_upper ({ frames := 8, cells := 2, slots := 12, locals := 124 }) 2 12 [.ref x, .int a, .int b, .ref o] Φ sz (fun v Φ1 sz1 => (∃ r : Int32, v = some (.int r)) ∧ WpD G x (ca) (fun j9 => False) o Φ Φ1) := by
  refine Ct.ofH (cc := cL_upper) (maxL := 5) (ret := (some .int)) (by decide) rfl (Nat.le_of_ble_eq_true rfl) ?_
  intro p9 e9 s9 m9 w9 t9 k9 B htab9
  show Z p9 l e9 _ s9 m9 _ w9 t9 k9 _ G 5 0 [(0, .ref x), (1, .int a), (2, .int b), (3, .ref o)] [] Φ sz 0 0
  refine z_aload_n B dL_upper_0 rfl 3 rfl ?_
  refine z_iconst (v := 0) B dL_upper_1 rfl ?_
  refine z_aload_n B dL_upper_2 rfl 0 rfl ?_
  refine z_iload_n B dL_upper_3 rfl 1 rfl ?_
  refine z_iload_n B dL_upper_4 rfl 2 rfl ?_
  have h0 : Φ x = some (o_ 13 [.ref (x + 1), .ref (x + 3), .ref (x + 24), .ref (x + 46), .ref (x + 74), .ref (x + 80), .ref (x + 132), .ref (x + 121)]) := in0 (k := 0) hI rfl
  refine zb_callC (As := [.int a, .int b]) (rest := [.int 0, .ref o]) B (s_X11_upper G l hl9 Φ sz x ca a b hx hI ) (cwV 2 B.1.2.2.2.2 gL_upper_X11_upper rfl rfl rfl (by decide +kernel) ⟨Nat.le_of_ble_eq_true rfl, Nat.le_of_ble_eq_true rfl⟩) h0 rfl rfl rfl rfl (Nat.le_of_ble_eq_true rfl) dL_upper_5 ⟨Nat.le_of_ble_eq_true rfl, Nat.le_of_ble_eq_true rfl⟩ (fun v1 Φ1 sz1 st1 hp1 hs1 => ?_) (fun E9 hE9 => ?_)
  · obtain ⟨⟨r1, rfl, hb1⟩, hz1, hI1, hF1⟩ := hp1
    subst sz1
    replace hs1 : st1 = [.double r1, .int 0, .ref o] := hs1
    subst st1
    have hc1 : Φ1 o = some (ad_ G 1 fo) := (Fr.at hF1 (fun j hj => (show False from hj).elim) ho).trans hc
    refine z_dast B hc1 hno (vin rfl) dL_upper_8 (fun Φ2 hΦ2 => ?_)
    refine z_goto (tgt := 20) B dL_upper_9 rfl ?_
    refine z_iconst (v := 0) B dL_upper_20 rfl ?_
    exact z_ret_i B dL_upper_21 ⟨⟨_, rfl⟩, In.out hI1 ho hΦ2, ⟨_, fset_at hΦ2⟩, fun b9 h9 h8 => (fset_fr hΦ2 h8).trans (hF1 b9 (fun j9 q9 hj => h9 j9 hj q9))⟩
  · rcases List.mem_cons.mp hE9 with h9 | h9
    · subst h9
      refine ⟨12, ⟨[], ⟨0, 9, 12, 29⟩, [⟨0, 9, 16, 13⟩], htab9.trans rfl, (fun z9 hz9 => absurd hz9 List.not_mem_nil), by decide, by decide, by decide +kernel, by decide, rfl⟩, fun q9 sz9 Φ9 hP9 => ?_⟩
      refine z_astore (lv' := [(4, .ref q9), (0, .ref x), (1, .int a), (2, .int b), (3, .ref o)]) B dL_upper_12 (Nat.le_of_ble_eq_true rfl) rfl ?_
      refine z_iconst (v := 1) B dL_upper_14 rfl ?_
      exact z_ret_i B dL_upper_15 ⟨⟨_, rfl⟩, In.mono hP9.1 (by omega), ⟨_, (Fr.at0 hP9.2).trans hc⟩, fun b9 _ _ => Fr.at0 hP9.2⟩
    · obtain rfl := List.mem_singleton.mp h9
      refine ⟨16, ⟨[⟨0, 9, 12, 29⟩], ⟨0, 9, 16, 13⟩, [], htab9.trans rfl, (fun z9 hz9 => by obtain rfl := List.mem_singleton.mp hz9; exact Or.inr ⟨by decide, xIO, by decide +kernel, by decide⟩), by decide, by decide, by decide +kernel, by decide, rfl⟩, fun q9 sz9 Φ9 hP9 => ?_⟩
      refine z_astore (lv' := [(4, .ref q9), (0, .ref x), (1, .int a), (2, .int b), (3, .ref o)]) B dL_upper_16 (Nat.le_of_ble_eq_true rfl) rfl ?_
      refine z_iconst (v := 2) B dL_upper_18 rfl ?_
      exact z_ret_i B dL_upper_19 ⟨⟨_, rfl⟩, In.mono hP9.1 (by omega), ⟨_, (Fr.at0 hP9.2).trans hc⟩, fun b9 _ _ => Fr.at0 hP9.2⟩

set_option maxHeartbeats 4000000 in
set_option maxRecDepth 100000 in
theorem w_truth (G : EnvG) (l : Launch) (hl9 : l.stackTraces = false) (Φ : Hm) (sz x ca : Nat) (tm r w : Nat) (aq e : Int32) (ob sm un : Int64) (n : Nat) (Fs : Nat → Fl) (nT : Nat) (Ft : Nat → Fl) (t s : Nat) (c : Cf) (a : Int32) (b : Int32) (d : Int32) (f : Int32) (g : Int32) (o : Nat) (fo : Nat → Int64) (hx : G.2.2.2 ≤ x) (hno : G.2.2.2 ≤ o) (ho : ∀ j, j < 149 → o ≠ x + j) (hI : In G x ca Φ) (hc : Φ o = some (al_ G 1 fo)) (hXC : XC G x (tm, r, w, aq, e, ob, sm, un, (n, Fs), (nT, Ft)) Φ) (hcA : CfA G x t s c Φ) (hg : CfG c) (had9 : aq = 0 ∨ aq = 1) : Ct G l yL_truth wsL_truth ({ frames := 8, cells := 1, slots := 6, locals := 126 }) 1 6 [.ref x, .int a, .int b, .int d, .int f, .int g, .ref o] Φ sz (fun v Φ1 sz1 => (∃ (k9 : Int32) (fo9 : Nat → Int64), v = some (.int k9) ∧ Φ1 o = some (al_ G 1 fo9) ∧ AnsR (g = 0 ∨ g = 1) (True) (trU a b d f g (nT, Ft)) k9 (fo9 0)) ∧ WpL G x (ca) (fun j9 => False) o Φ Φ1) := by
  refine Ct.ofH (cc := cL_truth) (maxL := 8) (ret := (some .int)) (by decide) rfl (Nat.le_of_ble_eq_true rfl) ?_
  intro p9 e9 s9 m9 w9 t9 k9 B htab9
  show Z p9 l e9 _ s9 m9 _ w9 t9 k9 _ G 8 0 [(0, .ref x), (1, .int a), (2, .int b), (3, .int d), (4, .int f), (5, .int g), (6, .ref o)] [] Φ sz 0 0
  have hX0 := hXC
  obtain ⟨xp, xb, pp, pt, he9, hE0, h810, h950, hTC, hTT, hb9⟩ := hXC
  replace he9 : xp - xb = e := he9
  have hE9 : Φ (x + 80) = some (o_ 4 [.ref (x + 3), .ref (x + 74), .ref (x + 81), .ref (x + 95), .int (nI tm), .int (nI r), .int (nI w), .int aq, .int xp, .int xb, .long ob, .long sm, .long (un.1)]) := hE0
  have h819 : Φ (x + 81) = some (o_ 6 [.ref (x + 82), .int (nI n)]) := h810
  have h959 : Φ (x + 95) = some (o_ 6 [.ref (x + 96), .int (nI nT)]) := h950
  have hb8 : tm ≤ 1000000 ∧ 1 ≤ r ∧ r ≤ 1024 ∧ w < 2147483648 := hb9
  have hn9 : n ≤ 12 := TbR.le hTC
  have hnT9 : nT ≤ 24 := TbR.le hTT
  refine z_aload B dL_truth_0 6 rfl ?_
  refine z_iconst (v := 0) B dL_truth_2 rfl ?_
  refine z_aload_n B dL_truth_3 rfl 0 rfl ?_
  refine z_iload_n B dL_truth_4 rfl 1 rfl ?_
  refine z_iload_n B dL_truth_5 rfl 2 rfl ?_
  refine z_iload_n B dL_truth_6 rfl 3 rfl ?_
  refine z_iload B dL_truth_7 4 rfl ?_
  refine z_iload B dL_truth_9 5 rfl ?_
  have h0 : Φ x = some (o_ 13 [.ref (x + 1), .ref (x + 3), .ref (x + 24), .ref (x + 46), .ref (x + 74), .ref (x + 80), .ref (x + 132), .ref (x + 121)]) := in0 (k := 0) hI rfl
  refine zb_callC (As := [.int a, .int b, .int d, .int f, .int g]) (rest := [.int 0, .ref o]) B (s_X11_truthX G l hl9 Φ sz x ca tm r w aq xp xb ob sm un nT Ft pt a b d f g hx hI hE9 h959 hTT hnT9) (cwV 5 B.1.2.2.2.2 gL_truth_X11_truth rfl rfl rfl (by decide +kernel) ⟨Nat.le_of_ble_eq_true rfl, Nat.le_of_ble_eq_true rfl⟩) h0 rfl rfl rfl rfl (Nat.le_of_ble_eq_true rfl) dL_truth_11 ⟨Nat.le_of_ble_eq_true rfl, Nat.le_of_ble_eq_true rfl⟩ (fun v1 Φ1 sz1 st1 hp1 hs1 => ?_) (fun E9 hE9_ => ?_)
  · obtain ⟨⟨rfl, hv2⟩, hz1, hI1, hF1⟩ := hp1
    subst sz1
    replace hs1 : st1 = [.long (trU a b d f g (nT, Ft)), .int 0, .ref o] := hs1
    subst st1
    have hc1_ : Φ1 o = some (al_ G 1 fo) := (Fr.at hF1 (fun j hj => (show False from hj).elim) ho).trans hc
    refine z_last B hc1_ hno (vin rfl) dL_truth_14 (fun Φ2 hΦ2 => ?_)
    refine z_goto (tgt := 22) B dL_truth_15 rfl ?_
    refine z_iconst (v := 0) B dL_truth_22 rfl ?_
    exact z_ret_i B dL_truth_23 ⟨⟨_, _, rfl, fset_at hΦ2, Or.inl ⟨hv2, trivial, rfl, updL_at⟩⟩, In.out hI1 ho hΦ2, ⟨_, fset_at hΦ2⟩, fun b9 h9 h8 => (fset_fr hΦ2 h8).trans (hF1 b9 (fun j9 q9 hj => h9 j9 hj q9))⟩
  · obtain rfl : E9 = xIA := List.mem_singleton.mp hE9_
    refine ⟨18, ⟨[], ⟨0, 15, 18, 13⟩, [], htab9.trans rfl, (fun z9 hz9 => absurd hz9 List.not_mem_nil), by decide, by decide, by decide +kernel, by decide, rfl⟩, fun q9 sz9 Φ9 hP9 => ?_⟩
    refine z_astore (lv' := [(7, .ref q9), (0, .ref x), (1, .int a), (2, .int b), (3, .int d), (4, .int f), (5, .int g), (6, .ref o)]) B dL_truth_18 (Nat.le_of_ble_eq_true rfl) rfl ?_
    refine z_iconst (v := 1) B dL_truth_20 rfl ?_
    exact z_ret_i B dL_truth_21 ⟨⟨_, fo, rfl, (Fr.at0 hP9.2.2).trans hc, Or.inr (Or.inl ⟨hP9.1, rfl⟩)⟩, In.mono hP9.2.1 (by omega), ⟨_, (Fr.at0 hP9.2.2).trans hc⟩, fun b9 _ _ => Fr.at0 hP9.2.2⟩

set_option maxHeartbeats 4000000 in
set_option maxRecDepth 100000 in
theorem w_covered (G : EnvG) (l : Launch) (hl9 : l.stackTraces = false) (Φ : Hm) (sz x ca : Nat) (a : Int32) (o : Nat) (fo : Nat → Int64) (hx : G.2.2.2 ≤ x) (hno : G.2.2.2 ≤ o) (ho : ∀ j, j < 149 → o ≠ x + j) (hI : In G x ca Φ) (hc : Φ o = some (al_ G 1 fo))  : Ct G l yL_covered wsL_covered ({ frames := 8, cells := 1, slots := 6, locals := 127 }) 1 6 [.ref x, .int a, .ref o] Φ sz (fun v Φ1 sz1 => (∃ r : Int32, v = some (.int r)) ∧ WpL G x (ca) (fun j9 => False) o Φ Φ1) := by
  refine Ct.ofH (cc := cL_covered) (maxL := 4) (ret := (some .int)) (by decide) rfl (Nat.le_of_ble_eq_true rfl) ?_
  intro p9 e9 s9 m9 w9 t9 k9 B htab9
  show Z p9 l e9 _ s9 m9 _ w9 t9 k9 _ G 4 0 [(0, .ref x), (1, .int a), (2, .ref o)] [] Φ sz 0 0
  refine z_aload_n B dL_covered_0 rfl 2 rfl ?_
  refine z_iconst (v := 0) B dL_covered_1 rfl ?_
  refine z_aload_n B dL_covered_2 rfl 0 rfl ?_
  refine z_iload_n B dL_covered_3 rfl 1 rfl ?_
  have h0 : Φ x = some (o_ 13 [.ref (x + 1), .ref (x + 3), .ref (x + 24), .ref (x + 46), .ref (x + 74), .ref (x + 80), .ref (x + 132), .ref (x + 121)]) := in0 (k := 0) hI rfl
  refine zb_callC (As := [.int a]) (rest := [.int 0, .ref o]) B (s_X11_covered G l hl9 Φ sz x ca a hx hI ) (cwV 1 B.1.2.2.2.2 gL_covered_X11_covered rfl rfl rfl (by decide +kernel) ⟨Nat.le_of_ble_eq_true rfl, Nat.le_of_ble_eq_true rfl⟩) h0 rfl rfl rfl rfl (Nat.le_of_ble_eq_true rfl) dL_covered_4 ⟨Nat.le_of_ble_eq_true rfl, Nat.le_of_ble_eq_true rfl⟩ (fun v1 Φ1 sz1 st1 hp1 hs1 => ?_) (fun E9 hE9 => ?_)
  · obtain ⟨⟨r1, rfl⟩, hz1, hI1, hF1⟩ := hp1
    subst sz1
    replace hs1 : st1 = [.int r1, .int 0, .ref o] := hs1
    subst st1
    have hc1 : Φ1 o = some (al_ G 1 fo) := (Fr.at hF1 (fun j hj => (show False from hj).elim) ho).trans hc
    refine z_i2l (v := (r1).toInt64) B dL_covered_7 rfl ?_
    refine z_last B hc1 hno (vin rfl) dL_covered_8 (fun Φ2 hΦ2 => ?_)
    refine z_goto (tgt := 15) B dL_covered_9 rfl ?_
    refine z_iconst (v := 0) B dL_covered_15 rfl ?_
    exact z_ret_i B dL_covered_16 ⟨⟨_, rfl⟩, In.out hI1 ho hΦ2, ⟨_, fset_at hΦ2⟩, fun b9 h9 h8 => (fset_fr hΦ2 h8).trans (hF1 b9 (fun j9 q9 hj => h9 j9 hj q9))⟩
  · obtain rfl : E9 = xIA := List.mem_singleton.mp hE9
    refine ⟨12, ⟨[], ⟨0, 9, 12, 13⟩, [], htab9.trans rfl, (fun z9 hz9 => absurd hz9 List.not_mem_nil), by decide, by decide, by decide +kernel, by decide, rfl⟩, fun q9 sz9 Φ9 hP9 => ?_⟩
    refine z_astore_n (lv' := [(3, .ref q9), (0, .ref x), (1, .int a), (2, .ref o)]) B dL_covered_12 rfl (Nat.le_of_ble_eq_true rfl) rfl ?_
    refine z_iconst (v := 1) B dL_covered_13 rfl ?_
    exact z_ret_i B dL_covered_14 ⟨⟨_, rfl⟩, In.mono hP9.1 (by omega), ⟨_, (Fr.at0 hP9.2).trans hc⟩, fun b9 _ _ => Fr.at0 hP9.2⟩

set_option maxHeartbeats 4000000 in
set_option maxRecDepth 100000 in
theorem w_totalEstimate (G : EnvG) (l : Launch) (hl9 : l.stackTraces = false) (Φ : Hm) (sz x ca : Nat) (a : Int32) (o : Nat) (fo : Nat → Int64) (hx : G.2.2.2 ≤ x) (hno : G.2.2.2 ≤ o) (ho : ∀ j, j < 149 → o ≠ x + j) (hI : In G x ca Φ) (hc : Φ o = some (al_ G 1 fo))  : Ct G l yL_totalEstimate wsL_totalEstimate ({ frames := 8, cells := 1, slots := 6, locals := 122 }) 1 6 [.ref x, .int a, .ref o] Φ sz (fun v Φ1 sz1 => (∃ r : Int32, v = some (.int r)) ∧ WpL G x (ca) (fun j9 => False) o Φ Φ1) := by
  refine Ct.ofH (cc := cL_totalEstimate) (maxL := 4) (ret := (some .int)) (by decide) rfl (Nat.le_of_ble_eq_true rfl) ?_
  intro p9 e9 s9 m9 w9 t9 k9 B htab9
  show Z p9 l e9 _ s9 m9 _ w9 t9 k9 _ G 4 0 [(0, .ref x), (1, .int a), (2, .ref o)] [] Φ sz 0 0
  refine z_aload_n B dL_totalEstimate_0 rfl 2 rfl ?_
  refine z_iconst (v := 0) B dL_totalEstimate_1 rfl ?_
  refine z_aload_n B dL_totalEstimate_2 rfl 0 rfl ?_
  refine z_iload_n B dL_totalEstimate_3 rfl 1 rfl ?_
  have h0 : Φ x = some (o_ 13 [.ref (x + 1), .ref (x + 3), .ref (x + 24), .ref (x + 46), .ref (x + 74), .ref (x + 80), .ref (x + 132), .ref (x + 121)]) := in0 (k := 0) hI rfl
  refine zb_callC (As := [.int a]) (rest := [.int 0, .ref o]) B (s_X11_totalEstimate G l hl9 Φ sz x ca a hx hI ) (cwV 1 B.1.2.2.2.2 gL_totalEstimate_X11_totalEstimate rfl rfl rfl (by decide +kernel) ⟨Nat.le_of_ble_eq_true rfl, Nat.le_of_ble_eq_true rfl⟩) h0 rfl rfl rfl rfl (Nat.le_of_ble_eq_true rfl) dL_totalEstimate_4 ⟨Nat.le_of_ble_eq_true rfl, Nat.le_of_ble_eq_true rfl⟩ (fun v1 Φ1 sz1 st1 hp1 hs1 => ?_) (fun E9 hE9 => ?_)
  · obtain ⟨⟨r1, rfl⟩, hz1, hI1, hF1⟩ := hp1
    subst sz1
    replace hs1 : st1 = [.long r1, .int 0, .ref o] := hs1
    subst st1
    have hc1 : Φ1 o = some (al_ G 1 fo) := (Fr.at hF1 (fun j hj => (show False from hj).elim) ho).trans hc
    refine z_last B hc1 hno (vin rfl) dL_totalEstimate_7 (fun Φ2 hΦ2 => ?_)
    refine z_goto (tgt := 14) B dL_totalEstimate_8 rfl ?_
    refine z_iconst (v := 0) B dL_totalEstimate_14 rfl ?_
    exact z_ret_i B dL_totalEstimate_15 ⟨⟨_, rfl⟩, In.out hI1 ho hΦ2, ⟨_, fset_at hΦ2⟩, fun b9 h9 h8 => (fset_fr hΦ2 h8).trans (hF1 b9 (fun j9 q9 hj => h9 j9 hj q9))⟩
  · obtain rfl : E9 = xIA := List.mem_singleton.mp hE9
    refine ⟨11, ⟨[], ⟨0, 8, 11, 13⟩, [], htab9.trans rfl, (fun z9 hz9 => absurd hz9 List.not_mem_nil), by decide, by decide, by decide +kernel, by decide, rfl⟩, fun q9 sz9 Φ9 hP9 => ?_⟩
    refine z_astore_n (lv' := [(3, .ref q9), (0, .ref x), (1, .int a), (2, .ref o)]) B dL_totalEstimate_11 rfl (Nat.le_of_ble_eq_true rfl) rfl ?_
    refine z_iconst (v := 1) B dL_totalEstimate_12 rfl ?_
    exact z_ret_i B dL_totalEstimate_13 ⟨⟨_, rfl⟩, In.mono hP9.1 (by omega), ⟨_, (Fr.at0 hP9.2).trans hc⟩, fun b9 _ _ => Fr.at0 hP9.2⟩

set_option maxHeartbeats 4000000 in
set_option maxRecDepth 100000 in
theorem w_totalMargin (G : EnvG) (l : Launch) (hl9 : l.stackTraces = false) (Φ : Hm) (sz x ca : Nat) (a : Int32) (o : Nat) (fo : Nat → UInt64) (hx : G.2.2.2 ≤ x) (hno : G.2.2.2 ≤ o) (ho : ∀ j, j < 149 → o ≠ x + j) (hI : In G x ca Φ) (hc : Φ o = some (ad_ G 1 fo))  : Ct G l yL_totalMargin wsL_totalMargin ({ frames := 8, cells := 1, slots := 6, locals := 122 }) 1 6 [.ref x, .int a, .ref o] Φ sz (fun v Φ1 sz1 => (∃ r : Int32, v = some (.int r)) ∧ WpD G x (ca) (fun j9 => False) o Φ Φ1) := by
  refine Ct.ofH (cc := cL_totalMargin) (maxL := 4) (ret := (some .int)) (by decide) rfl (Nat.le_of_ble_eq_true rfl) ?_
  intro p9 e9 s9 m9 w9 t9 k9 B htab9
  show Z p9 l e9 _ s9 m9 _ w9 t9 k9 _ G 4 0 [(0, .ref x), (1, .int a), (2, .ref o)] [] Φ sz 0 0
  refine z_aload_n B dL_totalMargin_0 rfl 2 rfl ?_
  refine z_iconst (v := 0) B dL_totalMargin_1 rfl ?_
  refine z_aload_n B dL_totalMargin_2 rfl 0 rfl ?_
  refine z_iload_n B dL_totalMargin_3 rfl 1 rfl ?_
  have h0 : Φ x = some (o_ 13 [.ref (x + 1), .ref (x + 3), .ref (x + 24), .ref (x + 46), .ref (x + 74), .ref (x + 80), .ref (x + 132), .ref (x + 121)]) := in0 (k := 0) hI rfl
  refine zb_callC (As := [.int a]) (rest := [.int 0, .ref o]) B (s_X11_totalMargin G l hl9 Φ sz x ca a hx hI ) (cwV 1 B.1.2.2.2.2 gL_totalMargin_X11_totalMargin rfl rfl rfl (by decide +kernel) ⟨Nat.le_of_ble_eq_true rfl, Nat.le_of_ble_eq_true rfl⟩) h0 rfl rfl rfl rfl (Nat.le_of_ble_eq_true rfl) dL_totalMargin_4 ⟨Nat.le_of_ble_eq_true rfl, Nat.le_of_ble_eq_true rfl⟩ (fun v1 Φ1 sz1 st1 hp1 hs1 => ?_) (fun E9 hE9 => ?_)
  · obtain ⟨⟨r1, rfl, hb1⟩, hz1, hI1, hF1⟩ := hp1
    subst sz1
    replace hs1 : st1 = [.double r1, .int 0, .ref o] := hs1
    subst st1
    have hc1 : Φ1 o = some (ad_ G 1 fo) := (Fr.at hF1 (fun j hj => (show False from hj).elim) ho).trans hc
    refine z_dast B hc1 hno (vin rfl) dL_totalMargin_7 (fun Φ2 hΦ2 => ?_)
    refine z_goto (tgt := 14) B dL_totalMargin_8 rfl ?_
    refine z_iconst (v := 0) B dL_totalMargin_14 rfl ?_
    exact z_ret_i B dL_totalMargin_15 ⟨⟨_, rfl⟩, In.out hI1 ho hΦ2, ⟨_, fset_at hΦ2⟩, fun b9 h9 h8 => (fset_fr hΦ2 h8).trans (hF1 b9 (fun j9 q9 hj => h9 j9 hj q9))⟩
  · obtain rfl : E9 = xIA := List.mem_singleton.mp hE9
    refine ⟨11, ⟨[], ⟨0, 8, 11, 13⟩, [], htab9.trans rfl, (fun z9 hz9 => absurd hz9 List.not_mem_nil), by decide, by decide, by decide +kernel, by decide, rfl⟩, fun q9 sz9 Φ9 hP9 => ?_⟩
    refine z_astore_n (lv' := [(3, .ref q9), (0, .ref x), (1, .int a), (2, .ref o)]) B dL_totalMargin_11 rfl (Nat.le_of_ble_eq_true rfl) rfl ?_
    refine z_iconst (v := 1) B dL_totalMargin_12 rfl ?_
    exact z_ret_i B dL_totalMargin_13 ⟨⟨_, rfl⟩, In.mono hP9.1 (by omega), ⟨_, (Fr.at0 hP9.2).trans hc⟩, fun b9 _ _ => Fr.at0 hP9.2⟩

set_option maxHeartbeats 4000000 in
set_option maxRecDepth 100000 in
theorem w_ranked (G : EnvG) (l : Launch) (hl9 : l.stackTraces = false) (Φ : Hm) (sz x ca : Nat) (a : Int32) (b : Int32) (o : Nat) (fo : Nat → Int64) (hx : G.2.2.2 ≤ x) (hno : G.2.2.2 ≤ o) (ho : ∀ j, j < 149 → o ≠ x + j) (hI : In G x ca Φ) (hc : Φ o = some (al_ G 1 fo))  : Ct G l yL_ranked wsL_ranked ({ frames := 8, cells := 1, slots := 6, locals := 123 }) 1 6 [.ref x, .int a, .int b, .ref o] Φ sz (fun v Φ1 sz1 => (∃ r : Int32, v = some (.int r)) ∧ WpL G x (ca) (fun j9 => False) o Φ Φ1) := by
  refine Ct.ofH (cc := cL_ranked) (maxL := 5) (ret := (some .int)) (by decide) rfl (Nat.le_of_ble_eq_true rfl) ?_
  intro p9 e9 s9 m9 w9 t9 k9 B htab9
  show Z p9 l e9 _ s9 m9 _ w9 t9 k9 _ G 5 0 [(0, .ref x), (1, .int a), (2, .int b), (3, .ref o)] [] Φ sz 0 0
  refine z_aload_n B dL_ranked_0 rfl 3 rfl ?_
  refine z_iconst (v := 0) B dL_ranked_1 rfl ?_
  refine z_aload_n B dL_ranked_2 rfl 0 rfl ?_
  refine z_iload_n B dL_ranked_3 rfl 1 rfl ?_
  refine z_iload_n B dL_ranked_4 rfl 2 rfl ?_
  have h0 : Φ x = some (o_ 13 [.ref (x + 1), .ref (x + 3), .ref (x + 24), .ref (x + 46), .ref (x + 74), .ref (x + 80), .ref (x + 132), .ref (x + 121)]) := in0 (k := 0) hI rfl
  refine zb_callC (As := [.int a, .int b]) (rest := [.int 0, .ref o]) B (s_X11_ranked G l hl9 Φ sz x ca a b hx hI ) (cwV 2 B.1.2.2.2.2 gL_ranked_X11_ranked rfl rfl rfl (by decide +kernel) ⟨Nat.le_of_ble_eq_true rfl, Nat.le_of_ble_eq_true rfl⟩) h0 rfl rfl rfl rfl (Nat.le_of_ble_eq_true rfl) dL_ranked_5 ⟨Nat.le_of_ble_eq_true rfl, Nat.le_of_ble_eq_true rfl⟩ (fun v1 Φ1 sz1 st1 hp1 hs1 => ?_) (fun E9 hE9 => ?_)
  · obtain ⟨⟨r1, rfl⟩, hz1, hI1, hF1⟩ := hp1
    subst sz1
    replace hs1 : st1 = [.int r1, .int 0, .ref o] := hs1
    subst st1
    have hc1 : Φ1 o = some (al_ G 1 fo) := (Fr.at hF1 (fun j hj => (show False from hj).elim) ho).trans hc
    refine z_i2l (v := (r1).toInt64) B dL_ranked_8 rfl ?_
    refine z_last B hc1 hno (vin rfl) dL_ranked_9 (fun Φ2 hΦ2 => ?_)
    refine z_goto (tgt := 17) B dL_ranked_10 rfl ?_
    refine z_iconst (v := 0) B dL_ranked_17 rfl ?_
    exact z_ret_i B dL_ranked_18 ⟨⟨_, rfl⟩, In.out hI1 ho hΦ2, ⟨_, fset_at hΦ2⟩, fun b9 h9 h8 => (fset_fr hΦ2 h8).trans (hF1 b9 (fun j9 q9 hj => h9 j9 hj q9))⟩
  · obtain rfl : E9 = xIA := List.mem_singleton.mp hE9
    refine ⟨13, ⟨[], ⟨0, 10, 13, 13⟩, [], htab9.trans rfl, (fun z9 hz9 => absurd hz9 List.not_mem_nil), by decide, by decide, by decide +kernel, by decide, rfl⟩, fun q9 sz9 Φ9 hP9 => ?_⟩
    refine z_astore (lv' := [(4, .ref q9), (0, .ref x), (1, .int a), (2, .int b), (3, .ref o)]) B dL_ranked_13 (Nat.le_of_ble_eq_true rfl) rfl ?_
    refine z_iconst (v := 1) B dL_ranked_15 rfl ?_
    exact z_ret_i B dL_ranked_16 ⟨⟨_, rfl⟩, In.mono hP9.1 (by omega), ⟨_, (Fr.at0 hP9.2).trans hc⟩, fun b9 _ _ => Fr.at0 hP9.2⟩

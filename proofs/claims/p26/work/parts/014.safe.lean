set_option maxRecDepth 20000 in
theorem ggX8_sendPending_X8_beginMessage : GoodIn wsX8_sendPending wsX8_beginMessage := goodIn_ca ((goodIn_ca (goodIn_ca (goodIn_ca (goodIn_ca (goodIn_ca (goodIn_r _ [11, 12, 13, 14, 15, 16, 17, 18, 19, 20, 21, 22, 23, 24, 25, 26, 27, 28, 29, 30, 31, 32, 33, 34, 35, 36, 10, 37, 5, 38, 39, 40, 41, 42, 43, 44, 45, 3, 46, 47, 48, 49, 50, 51, 52, 53, 54, 55, 56, 57, 58, 59, 60, 61, 62, 63, 64, 65, 66, 67, 68, 69, 70, 71, 72, 73, 74, 75, 76] rfl (by decide +kernel)) (goodIn_sub (fun _ h => List.mem_cons_of_mem _ (List.mem_append_left _ (List.mem_append_left _ (List.mem_append_left _ (List.mem_append_left _ (List.mem_append_left _ (List.mem_append_right _ h))))))) gw_wsX80)) (goodIn_sub (fun _ h => List.mem_cons_of_mem _ (List.mem_append_left _ (List.mem_append_left _ (List.mem_append_right _ h)))) gw_wsX70)) (goodIn_sub (fun _ h => List.mem_cons_of_mem _ (List.mem_append_left _ (List.mem_append_left _ (List.mem_append_left _ (List.mem_append_right _ h))))) gw_wsX50)) (goodIn_sub (fun _ h => List.mem_cons_of_mem _ (List.mem_append_left _ (List.mem_append_left _ (List.mem_append_left _ (List.mem_append_left _ (List.mem_append_right _ h)))))) gw_wsX100)) (goodIn_sub (fun _ h => List.mem_cons_of_mem _ (List.mem_append_left _ (List.mem_append_right _ h))) gw_wsX10))) (goodIn_sub (fun _ h => List.mem_cons_of_mem _ (List.mem_append_right _ h)) (all_fg _))
set_option maxRecDepth 20000 in
theorem gX8_sendPending_X8_beginMessage : GoodIn wsX8_sendPending (wsV RX8 110 RX8 yX8_beginMessage wsX8_beginMessage) := goodIn_app (goodIn_m (mem_cA (List.mem_cons_of_mem _ (List.mem_append_left _ (List.mem_append_left _ (List.mem_append_left _ (List.mem_append_left _ (List.mem_append_left _ (List.mem_append_left _ (List.mem_append_left _ (List.mem_of_getElem? (i := 6) rfl))))))))) (mem_cA (List.mem_cons_of_mem _ (List.mem_append_left _ (List.mem_append_left _ (List.mem_append_left _ (List.mem_append_left _ (List.mem_append_left _ (List.mem_append_left _ (List.mem_append_left _ (List.mem_of_getElem? (i := 7) rfl))))))))) (mem_cA (List.mem_cons_of_mem _ (List.mem_append_left _ (List.mem_append_left _ (List.mem_append_left _ (List.mem_append_left _ (List.mem_append_left _ (List.mem_append_left _ (List.mem_append_left _ (List.mem_of_getElem? (i := 8) rfl))))))))) (mem_cA (List.mem_cons_of_mem _ (List.mem_append_left _ (List.mem_append_left _ (List.mem_append_left _ (List.mem_append_left _ (List.mem_append_left _ (List.mem_append_left _ (List.mem_append_left _ (List.mem_of_getElem? (i := 9) rfl))))))))) mem_cZ)))) (by decide +kernel)) ggX8_sendPending_X8_beginMessage
set_option maxRecDepth 20000 in
theorem ggX8_sendPending_X1_effective : GoodIn wsX8_sendPending wsX1_effective := (goodIn_ca (goodIn_r _ [51, 52] rfl (by decide +kernel)) (goodIn_sub (fun _ h => List.mem_cons_of_mem _ (List.mem_append_left _ (List.mem_append_right _ h))) gw_wsX10))
set_option maxRecDepth 20000 in
theorem gX8_sendPending_X1_effective : GoodIn wsX8_sendPending (wsV RX8 82 RX1 yX1_effective wsX1_effective) := goodIn_app (goodIn_m (mem_cA (List.mem_cons_of_mem _ (List.mem_append_left _ (List.mem_append_left _ (List.mem_append_left _ (List.mem_append_left _ (List.mem_append_left _ (List.mem_append_left _ (List.mem_append_right _ (List.mem_append_left _ (List.mem_of_getElem? (i := 22) rfl)))))))))) (mem_cA (List.mem_cons_of_mem _ (List.mem_append_left _ (List.mem_append_left _ (List.mem_append_left _ (List.mem_append_left _ (List.mem_append_left _ (List.mem_append_left _ (List.mem_append_right _ (List.mem_append_left _ (List.mem_of_getElem? (i := 23) rfl)))))))))) (mem_cA (List.mem_cons_of_mem _ (List.mem_append_left _ (List.mem_append_left _ (List.mem_append_left _ (List.mem_append_left _ (List.mem_append_left _ (List.mem_append_left _ (List.mem_append_right _ (List.mem_append_right _ (List.mem_append_left _ (List.mem_of_getElem? (i := 0) rfl))))))))))) (mem_cA (List.mem_cons_of_mem _ (List.mem_append_left _ (List.mem_append_left _ (List.mem_append_left _ (List.mem_append_left _ (List.mem_append_left _ (List.mem_append_left _ (List.mem_append_right _ (List.mem_append_right _ (List.mem_append_left _ (List.mem_of_getElem? (i := 1) rfl))))))))))) mem_cZ)))) (by decide +kernel)) ggX8_sendPending_X1_effective
set_option maxRecDepth 20000 in
theorem ggX8_sendPending_X1_get : GoodIn wsX8_sendPending wsX1_get := goodIn_ca ((goodIn_ca (goodIn_r _ [56, 57] rfl (by decide +kernel)) (goodIn_sub (fun _ h => List.mem_cons_of_mem _ (List.mem_append_left _ (List.mem_append_right _ h))) gw_wsX10))) (goodIn_sub (fun _ h => List.mem_cons_of_mem _ (List.mem_append_right _ h)) (all_fg _))
set_option maxRecDepth 20000 in
theorem gX8_sendPending_X1_get : GoodIn wsX8_sendPending (wsV RX8 88 RX1 yX1_get wsX1_get) := goodIn_app (goodIn_m (mem_cA (List.mem_cons_of_mem _ (List.mem_append_left _ (List.mem_append_left _ (List.mem_append_left _ (List.mem_append_left _ (List.mem_append_left _ (List.mem_append_left _ (List.mem_append_right _ (List.mem_append_right _ (List.mem_append_left _ (List.mem_of_getElem? (i := 4) rfl))))))))))) (mem_cA (List.mem_cons_of_mem _ (List.mem_append_left _ (List.mem_append_left _ (List.mem_append_left _ (List.mem_append_left _ (List.mem_append_left _ (List.mem_append_left _ (List.mem_append_right _ (List.mem_append_right _ (List.mem_append_left _ (List.mem_of_getElem? (i := 5) rfl))))))))))) (mem_cA (List.mem_cons_of_mem _ (List.mem_append_left _ (List.mem_append_left _ (List.mem_append_left _ (List.mem_append_left _ (List.mem_append_left _ (List.mem_append_left _ (List.mem_append_right _ (List.mem_append_right _ (List.mem_append_left _ (List.mem_of_getElem? (i := 6) rfl))))))))))) (mem_cA (List.mem_cons_of_mem _ (List.mem_append_left _ (List.mem_append_left _ (List.mem_append_left _ (List.mem_append_left _ (List.mem_append_left _ (List.mem_append_left _ (List.mem_append_right _ (List.mem_append_right _ (List.mem_append_left _ (List.mem_of_getElem? (i := 1) rfl))))))))))) mem_cZ)))) (by decide +kernel)) ggX8_sendPending_X1_get
set_option maxRecDepth 20000 in
theorem ggX8_sendPending_X8_endMessage : GoodIn wsX8_sendPending wsX8_endMessage := goodIn_ca ((goodIn_ca (goodIn_ca (goodIn_ca (goodIn_r _ [80, 5, 12, 40, 81, 14, 73, 74, 75, 30, 76, 32, 33, 82, 83, 84, 18, 85, 20, 86] rfl (by decide +kernel)) (goodIn_sub (fun _ h => List.mem_cons_of_mem _ (List.mem_append_left _ (List.mem_append_left _ (List.mem_append_left _ (List.mem_append_right _ h))))) gw_wsX50)) (goodIn_sub (fun _ h => List.mem_cons_of_mem _ (List.mem_append_left _ (List.mem_append_left _ (List.mem_append_left _ (List.mem_append_left _ (List.mem_append_left _ (List.mem_append_right _ h))))))) gw_wsX80)) (goodIn_sub (fun _ h => List.mem_cons_of_mem _ (List.mem_append_left _ (List.mem_append_left _ (List.mem_append_right _ h)))) gw_wsX70))) (goodIn_sub (fun _ h => List.mem_cons_of_mem _ (List.mem_append_right _ h)) (all_fg _))
set_option maxRecDepth 20000 in
theorem gX8_sendPending_X8_endMessage : GoodIn wsX8_sendPending (wsV RX8 117 RX8 yX8_endMessage wsX8_endMessage) := goodIn_app (goodIn_m (mem_cA (List.mem_cons_of_mem _ (List.mem_append_left _ (List.mem_append_left _ (List.mem_append_left _ (List.mem_append_left _ (List.mem_append_left _ (List.mem_append_left _ (List.mem_append_right _ (List.mem_append_right _ (List.mem_append_right _ (List.mem_append_left _ (List.mem_of_getElem? (i := 4) rfl)))))))))))) (mem_cA (List.mem_cons_of_mem _ (List.mem_append_left _ (List.mem_append_left _ (List.mem_append_left _ (List.mem_append_left _ (List.mem_append_left _ (List.mem_append_left _ (List.mem_append_right _ (List.mem_append_right _ (List.mem_append_right _ (List.mem_append_left _ (List.mem_of_getElem? (i := 5) rfl)))))))))))) (mem_cA (List.mem_cons_of_mem _ (List.mem_append_left _ (List.mem_append_left _ (List.mem_append_left _ (List.mem_append_left _ (List.mem_append_left _ (List.mem_append_left _ (List.mem_append_right _ (List.mem_append_right _ (List.mem_append_right _ (List.mem_append_left _ (List.mem_of_getElem? (i := 6) rfl)))))))))))) (mem_cA (List.mem_cons_of_mem _ (List.mem_append_left _ (List.mem_append_left _ (List.mem_append_left _ (List.mem_append_left _ (List.mem_append_left _ (List.mem_append_left _ (List.mem_append_left _ (List.mem_of_getElem? (i := 9) rfl))))))))) mem_cZ)))) (by decide +kernel)) ggX8_sendPending_X8_endMessage
set_option maxRecDepth 20000 in
theorem ggX8_sendPending_X5_put : GoodIn wsX8_sendPending wsX5_put := goodIn_ca ((goodIn_ca (goodIn_r _ [31, 32, 33] rfl (by decide +kernel)) (goodIn_sub (fun _ h => List.mem_cons_of_mem _ (List.mem_append_left _ (List.mem_append_left _ (List.mem_append_left _ (List.mem_append_right _ h))))) gw_wsX50))) (goodIn_sub (fun _ h => List.mem_cons_of_mem _ (List.mem_append_right _ h)) (all_fg _))
set_option maxRecDepth 20000 in
theorem gX8_sendPending_X5_put : GoodIn wsX8_sendPending (wsV RX8 106 RX5 yX5_put wsX5_put) := goodIn_app (goodIn_m (mem_cA (List.mem_cons_of_mem _ (List.mem_append_left _ (List.mem_append_left _ (List.mem_append_left _ (List.mem_append_left _ (List.mem_append_left _ (List.mem_append_left _ (List.mem_append_right _ (List.mem_append_left _ (List.mem_of_getElem? (i := 2) rfl)))))))))) (mem_cA (List.mem_cons_of_mem _ (List.mem_append_left _ (List.mem_append_left _ (List.mem_append_left _ (List.mem_append_left _ (List.mem_append_left _ (List.mem_append_left _ (List.mem_append_right _ (List.mem_append_left _ (List.mem_of_getElem? (i := 3) rfl)))))))))) (mem_cA (List.mem_cons_of_mem _ (List.mem_append_left _ (List.mem_append_left _ (List.mem_append_left _ (List.mem_append_left _ (List.mem_append_left _ (List.mem_append_left _ (List.mem_append_right _ (List.mem_append_left _ (List.mem_of_getElem? (i := 4) rfl)))))))))) (mem_cA (List.mem_cons_of_mem _ (List.mem_append_left _ (List.mem_append_left _ (List.mem_append_left _ (List.mem_append_left _ (List.mem_append_left _ (List.mem_append_left _ (List.mem_append_right _ (List.mem_append_left _ (List.mem_of_getElem? (i := 5) rfl)))))))))) mem_cZ)))) (by decide +kernel)) ggX8_sendPending_X5_put
set_option maxRecDepth 20000 in
theorem ggX8_sendPending_X5_putFrom : GoodIn wsX8_sendPending wsX5_putFrom := (goodIn_ca (goodIn_r _ [90, 33, 32, 91, 92, 93, 94, 95, 96, 97, 98] rfl (by decide +kernel)) (goodIn_sub (fun _ h => List.mem_cons_of_mem _ (List.mem_append_left _ (List.mem_append_left _ (List.mem_append_left _ (List.mem_append_right _ h))))) gw_wsX50))
set_option maxRecDepth 20000 in
theorem gX8_sendPending_X5_putFrom : GoodIn wsX8_sendPending (wsV RX8 121 RX5 yX5_putFrom wsX5_putFrom) := goodIn_app (goodIn_m (mem_cA (List.mem_cons_of_mem _ (List.mem_append_left _ (List.mem_append_left _ (List.mem_append_left _ (List.mem_append_left _ (List.mem_append_left _ (List.mem_append_left _ (List.mem_append_right _ (List.mem_append_right _ (List.mem_append_right _ (List.mem_append_left _ (List.mem_of_getElem? (i := 14) rfl)))))))))))) (mem_cA (List.mem_cons_of_mem _ (List.mem_append_left _ (List.mem_append_left _ (List.mem_append_left _ (List.mem_append_left _ (List.mem_append_left _ (List.mem_append_left _ (List.mem_append_right _ (List.mem_append_right _ (List.mem_append_right _ (List.mem_append_left _ (List.mem_of_getElem? (i := 15) rfl)))))))))))) (mem_cA (List.mem_cons_of_mem _ (List.mem_append_left _ (List.mem_append_left _ (List.mem_append_left _ (List.mem_append_left _ (List.mem_append_left _ (List.mem_append_left _ (List.mem_append_right _ (List.mem_append_right _ (List.mem_append_right _ (List.mem_append_left _ (List.mem_of_getElem? (i := 16) rfl)))))))))))) (mem_cA (List.mem_cons_of_mem _ (List.mem_append_left _ (List.mem_append_left _ (List.mem_append_left _ (List.mem_append_left _ (List.mem_append_left _ (List.mem_append_left _ (List.mem_append_right _ (List.mem_append_left _ (List.mem_of_getElem? (i := 5) rfl)))))))))) mem_cZ)))) (by decide +kernel)) ggX8_sendPending_X5_putFrom
set_option maxRecDepth 20000 in
theorem ggX8_sendPending_X5_putAt : GoodIn wsX8_sendPending wsX5_putAt := goodIn_ca ((goodIn_ca (goodIn_r _ [76, 32, 33] rfl (by decide +kernel)) (goodIn_sub (fun _ h => List.mem_cons_of_mem _ (List.mem_append_left _ (List.mem_append_left _ (List.mem_append_left _ (List.mem_append_right _ h))))) gw_wsX50))) (goodIn_sub (fun _ h => List.mem_cons_of_mem _ (List.mem_append_right _ h)) (all_fg _))
set_option maxRecDepth 20000 in
theorem gX8_sendPending_X5_putAt : GoodIn wsX8_sendPending (wsV RX8 125 RX5 yX5_putAt wsX5_putAt) := goodIn_app (goodIn_m (mem_cA (List.mem_cons_of_mem _ (List.mem_append_left _ (List.mem_append_left _ (List.mem_append_left _ (List.mem_append_left _ (List.mem_append_left _ (List.mem_append_left _ (List.mem_append_right _ (List.mem_append_right _ (List.mem_append_right _ (List.mem_append_left _ (List.mem_of_getElem? (i := 0) rfl)))))))))))) (mem_cA (List.mem_cons_of_mem _ (List.mem_append_left _ (List.mem_append_left _ (List.mem_append_left _ (List.mem_append_left _ (List.mem_append_left _ (List.mem_append_left _ (List.mem_append_right _ (List.mem_append_right _ (List.mem_append_right _ (List.mem_append_left _ (List.mem_of_getElem? (i := 1) rfl)))))))))))) (mem_cA (List.mem_cons_of_mem _ (List.mem_append_left _ (List.mem_append_left _ (List.mem_append_left _ (List.mem_append_left _ (List.mem_append_left _ (List.mem_append_left _ (List.mem_append_right _ (List.mem_append_right _ (List.mem_append_right _ (List.mem_append_left _ (List.mem_of_getElem? (i := 2) rfl)))))))))))) (mem_cA (List.mem_cons_of_mem _ (List.mem_append_left _ (List.mem_append_left _ (List.mem_append_left _ (List.mem_append_left _ (List.mem_append_left _ (List.mem_append_left _ (List.mem_append_right _ (List.mem_append_left _ (List.mem_of_getElem? (i := 5) rfl)))))))))) mem_cZ)))) (by decide +kernel)) ggX8_sendPending_X5_putAt
set_option maxRecDepth 20000 in
theorem ggX8_sendPending_X8_emptyPending : GoodIn wsX8_sendPending wsX8_emptyPending := (goodIn_ca (goodIn_ca (goodIn_r _ [102, 6, 5, 1] rfl (by decide +kernel)) (goodIn_sub (fun _ h => List.mem_cons_of_mem _ (List.mem_append_left _ (List.mem_append_left _ (List.mem_append_left _ (List.mem_append_left _ (List.mem_append_left _ (List.mem_append_right _ h))))))) gw_wsX80)) (goodIn_sub (fun _ h => List.mem_cons_of_mem _ (List.mem_append_left _ (List.mem_append_left _ (List.mem_append_left _ (List.mem_append_right _ h))))) gw_wsX50))
set_option maxRecDepth 20000 in
theorem gX8_sendPending_X8_emptyPending : GoodIn wsX8_sendPending (wsV RX8 55 RX8 yX8_emptyPending wsX8_emptyPending) := goodIn_app (goodIn_m (mem_cA (List.mem_cons_of_mem _ (List.mem_append_left _ (List.mem_append_left _ (List.mem_append_left _ (List.mem_append_left _ (List.mem_append_left _ (List.mem_append_left _ (List.mem_append_right _ (List.mem_append_right _ (List.mem_append_right _ (List.mem_append_right _ (List.mem_of_getElem? (i := 2) rfl)))))))))))) (mem_cA (List.mem_cons_of_mem _ (List.mem_append_left _ (List.mem_append_left _ (List.mem_append_left _ (List.mem_append_left _ (List.mem_append_left _ (List.mem_append_left _ (List.mem_append_right _ (List.mem_append_right _ (List.mem_append_right _ (List.mem_append_right _ (List.mem_of_getElem? (i := 3) rfl)))))))))))) (mem_cA (List.mem_cons_of_mem _ (List.mem_append_left _ (List.mem_append_left _ (List.mem_append_left _ (List.mem_append_left _ (List.mem_append_left _ (List.mem_append_left _ (List.mem_append_right _ (List.mem_append_right _ (List.mem_append_right _ (List.mem_append_right _ (List.mem_of_getElem? (i := 4) rfl)))))))))))) (mem_cA (List.mem_cons_of_mem _ (List.mem_append_left _ (List.mem_append_left _ (List.mem_append_left _ (List.mem_append_left _ (List.mem_append_left _ (List.mem_append_left _ (List.mem_append_left _ (List.mem_of_getElem? (i := 9) rfl))))))))) mem_cZ)))) (by decide +kernel)) ggX8_sendPending_X8_emptyPending
theorem dX8_sendPending_0 : decode cX8_sendPending 0 = .ok (.aload_n 0, 1) := by decide +kernel
theorem dX8_sendPending_1 : decode cX8_sendPending 1 = .ok (.getfield 24, 3) := by decide +kernel
theorem dX8_sendPending_4 : decode cX8_sendPending 4 = .ok (.ifCond .ne 4, 3) := by decide +kernel
theorem dX8_sendPending_7 : decode cX8_sendPending 7 = .ok (.return_, 1) := by decide +kernel
theorem dX8_sendPending_8 : decode cX8_sendPending 8 = .ok (.aload_n 0, 1) := by decide +kernel
theorem dX8_sendPending_9 : decode cX8_sendPending 9 = .ok (.iload_n 1, 1) := by decide +kernel
theorem dX8_sendPending_10 : decode cX8_sendPending 10 = .ok (.invokevirtual 110, 3) := by decide +kernel
theorem dX8_sendPending_13 : decode cX8_sendPending 13 = .ok (.astore_n 2, 1) := by decide +kernel
theorem dX8_sendPending_14 : decode cX8_sendPending 14 = .ok (.iconst 0, 1) := by decide +kernel
theorem dX8_sendPending_15 : decode cX8_sendPending 15 = .ok (.istore_n 3, 1) := by decide +kernel
theorem dX8_sendPending_16 : decode cX8_sendPending 16 = .ok (.iconst (-1), 1) := by decide +kernel
theorem dX8_sendPending_17 : decode cX8_sendPending 17 = .ok (.istore 4, 2) := by decide +kernel
theorem dX8_sendPending_19 : decode cX8_sendPending 19 = .ok (.iconst 0, 1) := by decide +kernel
theorem dX8_sendPending_20 : decode cX8_sendPending 20 = .ok (.istore 5, 2) := by decide +kernel
theorem dX8_sendPending_22 : decode cX8_sendPending 22 = .ok (.iconst 0, 1) := by decide +kernel
theorem dX8_sendPending_23 : decode cX8_sendPending 23 = .ok (.istore 6, 2) := by decide +kernel
theorem dX8_sendPending_25 : decode cX8_sendPending 25 = .ok (.iconst 0, 1) := by decide +kernel
theorem dX8_sendPending_26 : decode cX8_sendPending 26 = .ok (.istore 7, 2) := by decide +kernel
theorem dX8_sendPending_28 : decode cX8_sendPending 28 = .ok (.iload 7, 2) := by decide +kernel
theorem dX8_sendPending_30 : decode cX8_sendPending 30 = .ok (.aload_n 0, 1) := by decide +kernel
theorem dX8_sendPending_31 : decode cX8_sendPending 31 = .ok (.getfield 24, 3) := by decide +kernel
theorem dX8_sendPending_34 : decode cX8_sendPending 34 = .ok (.if_icmp .ge 170, 3) := by decide +kernel
theorem dX8_sendPending_37 : decode cX8_sendPending 37 = .ok (.iload 7, 2) := by decide +kernel
theorem dX8_sendPending_39 : decode cX8_sendPending 39 = .ok (.aload_n 0, 1) := by decide +kernel
theorem dX8_sendPending_40 : decode cX8_sendPending 40 = .ok (.getfield 20, 3) := by decide +kernel
theorem dX8_sendPending_43 : decode cX8_sendPending 43 = .ok (.arraylength, 1) := by decide +kernel
theorem dX8_sendPending_44 : decode cX8_sendPending 44 = .ok (.if_icmp .ge 160, 3) := by decide +kernel
theorem dX8_sendPending_47 : decode cX8_sendPending 47 = .ok (.aload_n 0, 1) := by decide +kernel
theorem dX8_sendPending_48 : decode cX8_sendPending 48 = .ok (.getfield 20, 3) := by decide +kernel
theorem dX8_sendPending_51 : decode cX8_sendPending 51 = .ok (.iload 7, 2) := by decide +kernel
theorem dX8_sendPending_53 : decode cX8_sendPending 53 = .ok (.iaload, 1) := by decide +kernel
theorem dX8_sendPending_54 : decode cX8_sendPending 54 = .ok (.istore 8, 2) := by decide +kernel
theorem dX8_sendPending_56 : decode cX8_sendPending 56 = .ok (.aload_n 0, 1) := by decide +kernel
theorem dX8_sendPending_57 : decode cX8_sendPending 57 = .ok (.getfield 44, 3) := by decide +kernel
theorem dX8_sendPending_60 : decode cX8_sendPending 60 = .ok (.iload 8, 2) := by decide +kernel
theorem dX8_sendPending_62 : decode cX8_sendPending 62 = .ok (.invokevirtual 82, 3) := by decide +kernel
theorem dX8_sendPending_65 : decode cX8_sendPending 65 = .ok (.getfield 114, 3) := by decide +kernel
theorem dX8_sendPending_68 : decode cX8_sendPending 68 = .ok (.istore 9, 2) := by decide +kernel
theorem dX8_sendPending_70 : decode cX8_sendPending 70 = .ok (.iload 8, 2) := by decide +kernel
theorem dX8_sendPending_72 : decode cX8_sendPending 72 = .ok (.iload 4, 2) := by decide +kernel
theorem dX8_sendPending_74 : decode cX8_sendPending 74 = .ok (.if_icmp .ne 8, 3) := by decide +kernel
theorem dX8_sendPending_77 : decode cX8_sendPending 77 = .ok (.iload 9, 2) := by decide +kernel
theorem dX8_sendPending_79 : decode cX8_sendPending 79 = .ok (.goto 7, 3) := by decide +kernel
theorem dX8_sendPending_82 : decode cX8_sendPending 82 = .ok (.iload 9, 2) := by decide +kernel
theorem dX8_sendPending_84 : decode cX8_sendPending 84 = .ok (.iconst 4, 1) := by decide +kernel
theorem dX8_sendPending_85 : decode cX8_sendPending 85 = .ok (.iadd, 1) := by decide +kernel
theorem dX8_sendPending_86 : decode cX8_sendPending 86 = .ok (.istore 10, 2) := by decide +kernel
theorem dX8_sendPending_88 : decode cX8_sendPending 88 = .ok (.aload_n 2, 1) := by decide +kernel
theorem dX8_sendPending_89 : decode cX8_sendPending 89 = .ok (.getfield 61, 3) := by decide +kernel
theorem dX8_sendPending_92 : decode cX8_sendPending 92 = .ok (.iload 10, 2) := by decide +kernel
theorem dX8_sendPending_94 : decode cX8_sendPending 94 = .ok (.iadd, 1) := by decide +kernel
theorem dX8_sendPending_95 : decode cX8_sendPending 95 = .ok (.aload_n 0, 1) := by decide +kernel
theorem dX8_sendPending_96 : decode cX8_sendPending 96 = .ok (.getfield 44, 3) := by decide +kernel
theorem dX8_sendPending_99 : decode cX8_sendPending 99 = .ok (.bipush 7, 2) := by decide +kernel
theorem dX8_sendPending_101 : decode cX8_sendPending 101 = .ok (.invokevirtual 88, 3) := by decide +kernel
theorem dX8_sendPending_104 : decode cX8_sendPending 104 = .ok (.if_icmp .le 20, 3) := by decide +kernel
theorem dX8_sendPending_107 : decode cX8_sendPending 107 = .ok (.aload_n 0, 1) := by decide +kernel
theorem dX8_sendPending_108 : decode cX8_sendPending 108 = .ok (.aload_n 2, 1) := by decide +kernel
theorem dX8_sendPending_109 : decode cX8_sendPending 109 = .ok (.iload_n 3, 1) := by decide +kernel
theorem dX8_sendPending_110 : decode cX8_sendPending 110 = .ok (.invokevirtual 117, 3) := by decide +kernel
theorem dX8_sendPending_113 : decode cX8_sendPending 113 = .ok (.aload_n 0, 1) := by decide +kernel
theorem dX8_sendPending_114 : decode cX8_sendPending 114 = .ok (.iload_n 1, 1) := by decide +kernel
theorem dX8_sendPending_115 : decode cX8_sendPending 115 = .ok (.invokevirtual 110, 3) := by decide +kernel
theorem dX8_sendPending_118 : decode cX8_sendPending 118 = .ok (.astore_n 2, 1) := by decide +kernel
theorem dX8_sendPending_119 : decode cX8_sendPending 119 = .ok (.iconst 0, 1) := by decide +kernel
theorem dX8_sendPending_120 : decode cX8_sendPending 120 = .ok (.istore_n 3, 1) := by decide +kernel
theorem dX8_sendPending_121 : decode cX8_sendPending 121 = .ok (.iconst (-1), 1) := by decide +kernel
theorem dX8_sendPending_122 : decode cX8_sendPending 122 = .ok (.istore 4, 2) := by decide +kernel
theorem dX8_sendPending_124 : decode cX8_sendPending 124 = .ok (.iload 8, 2) := by decide +kernel
theorem dX8_sendPending_126 : decode cX8_sendPending 126 = .ok (.iload 4, 2) := by decide +kernel
theorem dX8_sendPending_128 : decode cX8_sendPending 128 = .ok (.if_icmp .eq 31, 3) := by decide +kernel
theorem dX8_sendPending_131 : decode cX8_sendPending 131 = .ok (.iload 8, 2) := by decide +kernel
theorem dX8_sendPending_133 : decode cX8_sendPending 133 = .ok (.istore 4, 2) := by decide +kernel
theorem dX8_sendPending_135 : decode cX8_sendPending 135 = .ok (.aload_n 2, 1) := by decide +kernel
theorem dX8_sendPending_136 : decode cX8_sendPending 136 = .ok (.getfield 61, 3) := by decide +kernel
theorem dX8_sendPending_139 : decode cX8_sendPending 139 = .ok (.istore 5, 2) := by decide +kernel
theorem dX8_sendPending_141 : decode cX8_sendPending 141 = .ok (.aload_n 2, 1) := by decide +kernel
theorem dX8_sendPending_142 : decode cX8_sendPending 142 = .ok (.sipush 256, 3) := by decide +kernel
theorem dX8_sendPending_145 : decode cX8_sendPending 145 = .ok (.iload 8, 2) := by decide +kernel
theorem dX8_sendPending_147 : decode cX8_sendPending 147 = .ok (.iadd, 1) := by decide +kernel
theorem dX8_sendPending_148 : decode cX8_sendPending 148 = .ok (.i2l, 1) := by decide +kernel
theorem dX8_sendPending_149 : decode cX8_sendPending 149 = .ok (.iconst 2, 1) := by decide +kernel
theorem dX8_sendPending_150 : decode cX8_sendPending 150 = .ok (.invokevirtual 106, 3) := by decide +kernel
theorem dX8_sendPending_153 : decode cX8_sendPending 153 = .ok (.aload_n 2, 1) := by decide +kernel
theorem dX8_sendPending_154 : decode cX8_sendPending 154 = .ok (.lconst 0, 1) := by decide +kernel
theorem dX8_sendPending_155 : decode cX8_sendPending 155 = .ok (.iconst 2, 1) := by decide +kernel
theorem dX8_sendPending_156 : decode cX8_sendPending 156 = .ok (.invokevirtual 106, 3) := by decide +kernel
theorem dX8_sendPending_159 : decode cX8_sendPending 159 = .ok (.aload_n 2, 1) := by decide +kernel
theorem dX8_sendPending_160 : decode cX8_sendPending 160 = .ok (.aload_n 0, 1) := by decide +kernel
theorem dX8_sendPending_161 : decode cX8_sendPending 161 = .ok (.getfield 14, 3) := by decide +kernel
theorem dX8_sendPending_164 : decode cX8_sendPending 164 = .ok (.iload 6, 2) := by decide +kernel
theorem dX8_sendPending_166 : decode cX8_sendPending 166 = .ok (.iload 9, 2) := by decide +kernel
theorem dX8_sendPending_168 : decode cX8_sendPending 168 = .ok (.invokevirtual 121, 3) := by decide +kernel
theorem dX8_sendPending_171 : decode cX8_sendPending 171 = .ok (.aload_n 2, 1) := by decide +kernel
theorem dX8_sendPending_172 : decode cX8_sendPending 172 = .ok (.iload 5, 2) := by decide +kernel
theorem dX8_sendPending_174 : decode cX8_sendPending 174 = .ok (.iconst 2, 1) := by decide +kernel
theorem dX8_sendPending_175 : decode cX8_sendPending 175 = .ok (.iadd, 1) := by decide +kernel
theorem dX8_sendPending_176 : decode cX8_sendPending 176 = .ok (.aload_n 2, 1) := by decide +kernel
theorem dX8_sendPending_177 : decode cX8_sendPending 177 = .ok (.getfield 61, 3) := by decide +kernel
theorem dX8_sendPending_180 : decode cX8_sendPending 180 = .ok (.iload 5, 2) := by decide +kernel
theorem dX8_sendPending_182 : decode cX8_sendPending 182 = .ok (.isub, 1) := by decide +kernel
theorem dX8_sendPending_183 : decode cX8_sendPending 183 = .ok (.i2l, 1) := by decide +kernel
theorem dX8_sendPending_184 : decode cX8_sendPending 184 = .ok (.iconst 2, 1) := by decide +kernel
theorem dX8_sendPending_185 : decode cX8_sendPending 185 = .ok (.invokevirtual 125, 3) := by decide +kernel
theorem dX8_sendPending_188 : decode cX8_sendPending 188 = .ok (.iload 6, 2) := by decide +kernel
theorem dX8_sendPending_190 : decode cX8_sendPending 190 = .ok (.iload 9, 2) := by decide +kernel
theorem dX8_sendPending_192 : decode cX8_sendPending 192 = .ok (.iadd, 1) := by decide +kernel
theorem dX8_sendPending_193 : decode cX8_sendPending 193 = .ok (.istore 6, 2) := by decide +kernel
theorem dX8_sendPending_195 : decode cX8_sendPending 195 = .ok (.iinc 3 1, 3) := by decide +kernel
theorem dX8_sendPending_198 : decode cX8_sendPending 198 = .ok (.iinc 7 1, 3) := by decide +kernel
theorem dX8_sendPending_201 : decode cX8_sendPending 201 = .ok (.goto (-173), 3) := by decide +kernel
theorem dX8_sendPending_204 : decode cX8_sendPending 204 = .ok (.aload_n 0, 1) := by decide +kernel
theorem dX8_sendPending_205 : decode cX8_sendPending 205 = .ok (.aload_n 2, 1) := by decide +kernel
theorem dX8_sendPending_206 : decode cX8_sendPending 206 = .ok (.iload_n 3, 1) := by decide +kernel
theorem dX8_sendPending_207 : decode cX8_sendPending 207 = .ok (.invokevirtual 117, 3) := by decide +kernel
theorem dX8_sendPending_210 : decode cX8_sendPending 210 = .ok (.aload_n 0, 1) := by decide +kernel
theorem dX8_sendPending_211 : decode cX8_sendPending 211 = .ok (.invokevirtual 55, 3) := by decide +kernel
theorem dX8_sendPending_214 : decode cX8_sendPending 214 = .ok (.return_, 1) := by decide +kernel
set_option maxHeartbeats 4000000 in
set_option maxRecDepth 100000 in
theorem s_X8_sendPending (G : EnvG) (l : Launch) (Φ : Hm) (sz x ca : Nat) (a : Int32) (hx : G.2.2.2 ≤ x) (hI : In G x ca Φ)  : Ct G l yX8_sendPending wsX8_sendPending ({ frames := 4, cells := 0, slots := 0, locals := 95 }) 0 0 [.ref (x + 74), .int a] Φ sz (fun v Φ1 sz1 => (v = none) ∧ sz1 = sz ∧ In G x (ca) Φ1 ∧ Fr x (fun j9 => 46 ≤ j9 ∧ j9 < 80) Φ Φ1) := by
  refine Ct.of (cc := cX8_sendPending) (maxL := 11) (ret := none) (by decide) rfl (Nat.le_of_ble_eq_true rfl) ?_
  intro p9 e9 s9 m9 w9 t9 k9 B
  show Z p9 l e9 _ s9 m9 _ w9 t9 k9 _ G 11 0 [(0, .ref (x + 74)), (1, .int a)] [] Φ sz 0 0
  refine z_aload_n B dX8_sendPending_0 rfl 0 rfl ?_
  obtain ⟨n_1, v_1, v_2, v_3, h_1, b_1⟩ := in13 (k := 74) hI rfl
  have h_2 : Φ (x + 74) = some (o_ 10 [.ref (x + 3), .ref (x + 46), .ref (x + 75), .ref (x + 77), .int (nI n_1), .ref (x + 78), .ref (x + 79), .int v_1, .long v_2, .int v_3]) := h_1
  refine z_get (ref := "FlowExporter$Sender") (C := RX8) (T := TX8) (N := 10) (ci := 10) (v := .int (nI n_1)) B hu_X8_sendPending_X8 rfl 4 (Nat.le_of_ble_eq_true rfl) hv_X8_sendPending_24 rfl h_2 rfl dX8_sendPending_1 ?_
  refine z_if_ne (tgt := 8) B dX8_sendPending_4 rfl (fun c_1 => ?_) (fun c_1 => ?_)
  · have e_1 : ¬ (n_1 = 0) := fun h9 => c_1 ((nI_eq (a := n_1) (b := 0) (by omega) (by omega)).mpr h9)
    refine z_aload_n B dX8_sendPending_8 rfl 0 rfl ?_
    refine z_iload_n B dX8_sendPending_9 rfl 1 rfl ?_
    refine z_callV (As := [.int a]) (rest := []) B (s_X8_beginMessage G l Φ sz x (ca) a hx hI ) (cwV 1 B.1.2.2.2.2 gX8_sendPending_X8_beginMessage rfl rfl rfl (by decide +kernel) ⟨Nat.le_of_ble_eq_true rfl, Nat.le_of_ble_eq_true rfl⟩) h_2 rfl rfl rfl rfl (Nat.le_of_ble_eq_true rfl) dX8_sendPending_10 ⟨Nat.le_of_ble_eq_true rfl, Nat.le_of_ble_eq_true rfl⟩ (fun r_1 Φ1 sz1 st1 hp1 hs1 => ?_)
    obtain ⟨⟨m_1, hm_1, rfl⟩, hq1, hI1, hF1⟩ := hp1
    subst sz1
    replace hs1 : st1 = [.ref (x + (48 + 2 * m_1))] := hs1
    subst st1
    replace hI1 : In G x (ca) Φ1 := hI1
    replace hm_1 : m_1 < 13 := hm_1
    refine z_astore_n (lv' := [(2, .ref (x + (48 + 2 * m_1))), (0, .ref (x + 74)), (1, .int a)]) B dX8_sendPending_13 rfl (Nat.le_of_ble_eq_true rfl) rfl ?_
    refine z_iconst (v := 0) B dX8_sendPending_14 rfl ?_
    refine z_istore_n (lv' := [(3, .int 0), (2, .ref (x + (48 + 2 * m_1))), (0, .ref (x + 74)), (1, .int a)]) B dX8_sendPending_15 rfl (Nat.le_of_ble_eq_true rfl) rfl ?_
    refine z_iconst (v := (-1)) B dX8_sendPending_16 rfl ?_
    refine z_istore (lv' := [(4, .int (-1)), (3, .int 0), (2, .ref (x + (48 + 2 * m_1))), (0, .ref (x + 74)), (1, .int a)]) B dX8_sendPending_17 (Nat.le_of_ble_eq_true rfl) rfl ?_
    refine z_iconst (v := 0) B dX8_sendPending_19 rfl ?_
    refine z_istore (lv' := [(5, .int 0), (4, .int (-1)), (3, .int 0), (2, .ref (x + (48 + 2 * m_1))), (0, .ref (x + 74)), (1, .int a)]) B dX8_sendPending_20 (Nat.le_of_ble_eq_true rfl) rfl ?_
    refine z_iconst (v := 0) B dX8_sendPending_22 rfl ?_
    refine z_istore (lv' := [(6, .int 0), (5, .int 0), (4, .int (-1)), (3, .int 0), (2, .ref (x + (48 + 2 * m_1))), (0, .ref (x + 74)), (1, .int a)]) B dX8_sendPending_23 (Nat.le_of_ble_eq_true rfl) rfl ?_
    refine z_iconst (v := 0) B dX8_sendPending_25 rfl ?_
    refine z_istore (lv' := [(7, .int 0), (6, .int 0), (5, .int 0), (4, .int (-1)), (3, .int 0), (2, .ref (x + (48 + 2 * m_1))), (0, .ref (x + 74)), (1, .int a)]) B dX8_sendPending_26 (Nat.le_of_ble_eq_true rfl) rfl ?_
    refine z_lv [0, 1, 2, 3, 4, 5, 6, 7] rfl ?_
    refine z_loop (α := Nat × Int32 × Int32 × Int32 × Int32 × Nat) (fun (a9 : Nat × Int32 × Int32 × Int32 × Int32 × Nat) Φi => In G x (ca) Φi ∧ Fr x (fun j9 => 46 ≤ j9 ∧ j9 < 80) Φ1 Φi ∧ (a9.1 ≤ 12) ∧ (a9.2.2.2.2.2 < 13) ∧ True) (fun a9 => [(7, .int (nI (a9.1))), (6, .int a9.2.1), (5, .int a9.2.2.1), (4, .int a9.2.2.2.1), (3, .int a9.2.2.2.2.1), (2, .ref (x + (48 + 2 * (a9.2.2.2.2.2)))), (0, .ref (x + 74)), (1, .int a)]) (fun a9 => 12 - a9.1) ?_ (0, 0, 0, (-1), 0, m_1) ⟨hI1, fun _ _ => rfl, (show 0 ≤ 12 by omega), (show m_1 < 13 by omega), trivial⟩
    rintro ⟨i_1, i_2, i_3, i_4, i_5, i_6⟩ Φl1 ⟨hI2, hF2, b_3, b_4, -⟩ ih1
    replace hI2 : In G x (ca) Φl1 := hI2
    replace b_3 : i_1 ≤ 12 := b_3
    replace b_4 : i_6 < 13 := b_4
    show Z p9 l e9 _ s9 m9 _ w9 t9 k9 _ G 11 28 [(7, .int (nI i_1)), (6, .int i_2), (5, .int i_3), (4, .int i_4), (3, .int i_5), (2, .ref (x + (48 + 2 * i_6))), (0, .ref (x + 74)), (1, .int a)] [] Φl1 _ _ _
    refine z_iload B dX8_sendPending_28 0 rfl ?_
    refine z_aload_n B dX8_sendPending_30 rfl 6 rfl ?_
    obtain ⟨n_2, v_4, v_5, v_6, h_3, b_5⟩ := in13 (k := 74) hI2 rfl
    have h_4 : Φl1 (x + 74) = some (o_ 10 [.ref (x + 3), .ref (x + 46), .ref (x + 75), .ref (x + 77), .int (nI n_2), .ref (x + 78), .ref (x + 79), .int v_4, .long v_5, .int v_6]) := h_3
    refine z_get (ref := "FlowExporter$Sender") (C := RX8) (T := TX8) (N := 10) (ci := 10) (v := .int (nI n_2)) B hu_X8_sendPending_X8 rfl 4 (Nat.le_of_ble_eq_true rfl) hv_X8_sendPending_24 rfl h_4 rfl dX8_sendPending_31 ?_
    refine z_icmp_ge (tgt := 204) B dX8_sendPending_34 rfl (fun c_2 => ?_) (fun c_2 => ?_)
    · have e_2 : n_2 ≤ i_1 := (nI_leI (a := n_2) (b := i_1) (by omega) (by omega)).mp c_2
      refine z_aload_n B dX8_sendPending_204 rfl 6 rfl ?_
      refine z_aload_n B dX8_sendPending_205 rfl 5 rfl ?_
      refine z_iload_n B dX8_sendPending_206 rfl 4 rfl ?_
      refine z_callV (As := [.ref (x + (48 + 2 * i_6)), .int i_5]) (rest := []) B (s_X8_endMessage G l Φl1 sz x (ca) (48 + 2 * i_6) i_5 hx hI2 (kd_q (show i_6 < 13 by omega)) (show 48 ≤ (48 + 2 * i_6) by omega) (show (48 + 2 * i_6) < 73 by omega)) (cwV 2 B.1.2.2.2.2 gX8_sendPending_X8_endMessage rfl rfl rfl (by decide +kernel) ⟨Nat.le_of_ble_eq_true rfl, Nat.le_of_ble_eq_true rfl⟩) h_4 rfl rfl rfl rfl (Nat.le_of_ble_eq_true rfl) dX8_sendPending_207 ⟨Nat.le_of_ble_eq_true rfl, Nat.le_of_ble_eq_true rfl⟩ (fun r_2 Φ2 sz2 st2 hp2 hs2 => ?_)
      obtain ⟨rfl, hq2, hI3, hF3⟩ := hp2
      subst sz2
      replace hs2 : st2 = [] := hs2
      subst st2
      replace hI3 : In G x (ca) Φ2 := hI3
      refine z_aload_n B dX8_sendPending_210 rfl 6 rfl ?_
      obtain ⟨n_3, v_7, v_8, v_9, h_5, b_6⟩ := in13 (k := 74) hI3 rfl
      have h_6 : Φ2 (x + 74) = some (o_ 10 [.ref (x + 3), .ref (x + 46), .ref (x + 75), .ref (x + 77), .int (nI n_3), .ref (x + 78), .ref (x + 79), .int v_7, .long v_8, .int v_9]) := h_5
      refine z_callV (As := []) (rest := []) B (s_X8_emptyPending G l Φ2 sz x (ca)  hx hI3 ) (cwV 0 B.1.2.2.2.2 gX8_sendPending_X8_emptyPending rfl rfl rfl (by decide +kernel) ⟨Nat.le_of_ble_eq_true rfl, Nat.le_of_ble_eq_true rfl⟩) h_6 rfl rfl rfl rfl (Nat.le_of_ble_eq_true rfl) dX8_sendPending_211 ⟨Nat.le_of_ble_eq_true rfl, Nat.le_of_ble_eq_true rfl⟩ (fun r_3 Φ3 sz3 st3 hp3 hs3 => ?_)
      obtain ⟨rfl, hq3, hI4, hF4⟩ := hp3
      subst sz3
      replace hs3 : st3 = [] := hs3
      subst st3
      replace hI4 : In G x (ca) Φ3 := hI4
      exact z_ret_v B dX8_sendPending_214 ⟨rfl, rfl, hI4, (fun b9 h9 => ((hF4 b9 (fun j9 h8 h7 => h9 j9 h8 (fq_176 j9 h7))).trans ((hF3 b9 h9).trans ((hF2 b9 h9).trans ((hF1 b9 (fun j9 h8 h7 => h9 j9 h8 (fq_175 j9 h7))).trans rfl)))))⟩
    · have e_3 : ¬ (n_2 ≤ i_1) := fun h9 => c_2 ((nI_leI (a := n_2) (b := i_1) (by omega) (by omega)).mpr h9)
      refine z_iload B dX8_sendPending_37 0 rfl ?_
      refine z_aload_n B dX8_sendPending_39 rfl 6 rfl ?_
      refine z_get (ref := "FlowExporter$Sender") (C := RX8) (T := TX8) (N := 10) (ci := 10) (v := .ref (x + 77)) B hu_X8_sendPending_X8 rfl 3 (Nat.le_of_ble_eq_true rfl) hv_X8_sendPending_20 rfl h_4 rfl dX8_sendPending_40 ?_
      obtain ⟨f_1, h_7⟩ := in14 (k := 77) hI2 rfl
      have h_8 : Φl1 (x + 77) = some (ai_ G 12 f_1) := h_7
      refine z_alen (t := 0) (v := 12) B rfl h_8 rfl dX8_sendPending_43 ?_
      refine z_icmp_ge (tgt := 204) B dX8_sendPending_44 rfl (fun c_3 => ?_) (fun c_3 => ?_)
      · have e_4 : 12 ≤ i_1 := (nI_leI (a := 12) (b := i_1) (by omega) (by omega)).mp c_3
        refine z_aload_n B dX8_sendPending_204 rfl 6 rfl ?_
        refine z_aload_n B dX8_sendPending_205 rfl 5 rfl ?_
        refine z_iload_n B dX8_sendPending_206 rfl 4 rfl ?_
        refine z_callV (As := [.ref (x + (48 + 2 * i_6)), .int i_5]) (rest := []) B (s_X8_endMessage G l Φl1 sz x (ca) (48 + 2 * i_6) i_5 hx hI2 (kd_q (show i_6 < 13 by omega)) (show 48 ≤ (48 + 2 * i_6) by omega) (show (48 + 2 * i_6) < 73 by omega)) (cwV 2 B.1.2.2.2.2 gX8_sendPending_X8_endMessage rfl rfl rfl (by decide +kernel) ⟨Nat.le_of_ble_eq_true rfl, Nat.le_of_ble_eq_true rfl⟩) h_4 rfl rfl rfl rfl (Nat.le_of_ble_eq_true rfl) dX8_sendPending_207 ⟨Nat.le_of_ble_eq_true rfl, Nat.le_of_ble_eq_true rfl⟩ (fun r_4 Φ4 sz4 st4 hp4 hs4 => ?_)
        obtain ⟨rfl, hq4, hI5, hF5⟩ := hp4
        subst sz4
        replace hs4 : st4 = [] := hs4
        subst st4
        replace hI5 : In G x (ca) Φ4 := hI5
        refine z_aload_n B dX8_sendPending_210 rfl 6 rfl ?_
        obtain ⟨n_4, v_10, v_11, v_12, h_9, b_7⟩ := in13 (k := 74) hI5 rfl
        have h_10 : Φ4 (x + 74) = some (o_ 10 [.ref (x + 3), .ref (x + 46), .ref (x + 75), .ref (x + 77), .int (nI n_4), .ref (x + 78), .ref (x + 79), .int v_10, .long v_11, .int v_12]) := h_9
        refine z_callV (As := []) (rest := []) B (s_X8_emptyPending G l Φ4 sz x (ca)  hx hI5 ) (cwV 0 B.1.2.2.2.2 gX8_sendPending_X8_emptyPending rfl rfl rfl (by decide +kernel) ⟨Nat.le_of_ble_eq_true rfl, Nat.le_of_ble_eq_true rfl⟩) h_10 rfl rfl rfl rfl (Nat.le_of_ble_eq_true rfl) dX8_sendPending_211 ⟨Nat.le_of_ble_eq_true rfl, Nat.le_of_ble_eq_true rfl⟩ (fun r_5 Φ5 sz5 st5 hp5 hs5 => ?_)
        obtain ⟨rfl, hq5, hI6, hF6⟩ := hp5
        subst sz5
        replace hs5 : st5 = [] := hs5
        subst st5
        replace hI6 : In G x (ca) Φ5 := hI6
        exact z_ret_v B dX8_sendPending_214 ⟨rfl, rfl, hI6, (fun b9 h9 => ((hF6 b9 (fun j9 h8 h7 => h9 j9 h8 (fq_176 j9 h7))).trans ((hF5 b9 h9).trans ((hF2 b9 h9).trans ((hF1 b9 (fun j9 h8 h7 => h9 j9 h8 (fq_175 j9 h7))).trans rfl)))))⟩
      · have e_5 : ¬ (12 ≤ i_1) := fun h9 => c_3 ((nI_leI (a := 12) (b := i_1) (by omega) (by omega)).mpr h9)
        refine z_aload_n B dX8_sendPending_47 rfl 6 rfl ?_
        refine z_get (ref := "FlowExporter$Sender") (C := RX8) (T := TX8) (N := 10) (ci := 10) (v := .ref (x + 77)) B hu_X8_sendPending_X8 rfl 3 (Nat.le_of_ble_eq_true rfl) hv_X8_sendPending_20 rfl h_4 rfl dX8_sendPending_48 ?_
        refine z_iload B dX8_sendPending_51 0 rfl ?_
        refine z_iald B h_8 (vp_in_nI (by omega) (by omega)) dX8_sendPending_53 ?_
        refine z_fi (fun v_13 => ?_)
        refine z_istore (lv' := [(8, .int v_13), (7, .int (nI i_1)), (6, .int i_2), (5, .int i_3), (4, .int i_4), (3, .int i_5), (2, .ref (x + (48 + 2 * i_6))), (0, .ref (x + 74)), (1, .int a)]) B dX8_sendPending_54 (Nat.le_of_ble_eq_true rfl) rfl ?_
        refine z_aload_n B dX8_sendPending_56 rfl 7 rfl ?_
        refine z_get (ref := "FlowExporter$Sender") (C := RX8) (T := TX8) (N := 10) (ci := 10) (v := .ref (x + 3)) B hu_X8_sendPending_X8 rfl 0 (Nat.le_of_ble_eq_true rfl) hv_X8_sendPending_44 rfl h_4 rfl dX8_sendPending_57 ?_
        refine z_iload B dX8_sendPending_60 0 rfl ?_
        obtain ⟨v_14, v_15, h_11⟩ := in3 (k := 3) hI2 rfl
        have h_12 : Φl1 (x + 3) = some (o_ 3 [.ref (x + 4), .ref (x + 5), .ref (x + 6), .ref (x + 7), .int v_14, .int v_15]) := h_11
        refine z_callV (As := [.int v_13]) (rest := []) B (s_X1_effective G l Φl1 sz x (ca) 3 v_13 hx hI2 rfl) (cwV 1 B.1.2.2.2.2 gX8_sendPending_X1_effective rfl rfl rfl (by decide +kernel) ⟨Nat.le_of_ble_eq_true rfl, Nat.le_of_ble_eq_true rfl⟩) h_12 rfl rfl rfl rfl (Nat.le_of_ble_eq_true rfl) dX8_sendPending_62 ⟨Nat.le_of_ble_eq_true rfl, Nat.le_of_ble_eq_true rfl⟩ (fun r_6 Φ6 sz6 st6 hp6 hs6 => ?_)
        obtain ⟨⟨m_2, hm_2, rfl⟩, hq6, hI7, hF7⟩ := hp6
        subst sz6
        replace hs6 : st6 = [.ref (x + (3 + 7 + 4 * m_2))] := hs6
        subst st6
        replace hI7 : In G x (ca) Φ6 := hI7
        replace hm_2 : m_2 < 4 := hm_2
        obtain ⟨n_5, v_16, v_17, h_13, b_8⟩ := in8 (k := 3 + 7 + 4 * m_2) hI7 (kd_e (kd_s rfl).2.2.2 hm_2)
        have h_14 : Φ6 (x + (3 + 7 + 4 * m_2)) = some (o_ 12 [.ref (x + (3 + 7 + 4 * m_2 + 1)), .int (nI n_5), .int v_16, .int v_17]) := h_13
        refine z_get (ref := "FlowExporter$Template") (C := RX10) (T := TX10) (N := 4) (ci := 12) (v := .int v_17) B hu_X8_sendPending_X10 rfl 3 (Nat.le_of_ble_eq_true rfl) hv_X8_sendPending_114 rfl h_14 rfl dX8_sendPending_65 ?_
        refine z_istore (lv' := [(9, .int v_17), (8, .int v_13), (7, .int (nI i_1)), (6, .int i_2), (5, .int i_3), (4, .int i_4), (3, .int i_5), (2, .ref (x + (48 + 2 * i_6))), (0, .ref (x + 74)), (1, .int a)]) B dX8_sendPending_68 (Nat.le_of_ble_eq_true rfl) rfl ?_
        refine z_iload B dX8_sendPending_70 1 rfl ?_
        refine z_iload B dX8_sendPending_72 5 rfl ?_
        refine z_icmp_ne (tgt := 82) B dX8_sendPending_74 rfl (fun c_4 => ?_) (fun c_4 => ?_)
        · refine z_iload B dX8_sendPending_82 0 rfl ?_
          refine z_iconst (v := 4) B dX8_sendPending_84 rfl ?_
          refine z_iadd B dX8_sendPending_85 ?_
          refine z_fi (fun v_18 => ?_)
          refine z_istore (lv' := [(10, .int v_18), (9, .int v_17), (8, .int v_13), (7, .int (nI i_1)), (6, .int i_2), (5, .int i_3), (4, .int i_4), (3, .int i_5), (2, .ref (x + (48 + 2 * i_6))), (0, .ref (x + 74)), (1, .int a)]) B dX8_sendPending_86 (Nat.le_of_ble_eq_true rfl) rfl ?_
          refine z_aload_n B dX8_sendPending_88 rfl 8 rfl ?_
          obtain ⟨n_6, h_15, b_9⟩ := in1 (k := 48 + 2 * i_6) hI7 (kd_q (show i_6 < 13 by omega))
          replace b_9 : n_6 ≤ cap (48 + 2 * i_6) := b_9
          have b_10 := cap_le (48 + 2 * i_6)
          have h_16 : Φ6 (x + (48 + 2 * i_6)) = some (o_ 7 [.ref (x + (48 + 2 * i_6 + 1)), .int (nI n_6)]) := h_15
          refine z_get (ref := "FlowExporter$Message") (C := RX5) (T := TX5) (N := 2) (ci := 7) (v := .int (nI n_6)) B hu_X8_sendPending_X5 rfl 1 (Nat.le_of_ble_eq_true rfl) hv_X8_sendPending_61 rfl h_16 rfl dX8_sendPending_89 ?_
          refine z_iload B dX8_sendPending_92 0 rfl ?_
          refine z_iadd B dX8_sendPending_94 ?_
          refine z_fi (fun v_19 => ?_)
          refine z_aload_n B dX8_sendPending_95 rfl 9 rfl ?_
          have h_17 : Φ6 (x + 74) = some (o_ 10 [.ref (x + 3), .ref (x + 46), .ref (x + 75), .ref (x + 77), .int (nI n_2), .ref (x + 78), .ref (x + 79), .int v_4, .long v_5, .int v_6]) := ((hF7 (x + 74) (fun j9 h8 h7 => (show False from h7).elim)).trans h_4)
          refine z_get (ref := "FlowExporter$Sender") (C := RX8) (T := TX8) (N := 10) (ci := 10) (v := .ref (x + 3)) B hu_X8_sendPending_X8 rfl 0 (Nat.le_of_ble_eq_true rfl) hv_X8_sendPending_44 rfl h_17 rfl dX8_sendPending_96 ?_
          refine z_bipush (v := 7) B dX8_sendPending_99 rfl ?_
          have h_18 : Φ6 (x + 3) = some (o_ 3 [.ref (x + 4), .ref (x + 5), .ref (x + 6), .ref (x + 7), .int v_14, .int v_15]) := ((hF7 (x + 3) (fun j9 h8 h7 => (show False from h7).elim)).trans h_12)
          refine z_callV (As := [.int 7]) (rest := [.int v_19]) B (s_X1_get G l Φ6 sz x (ca) 3 7 hx hI7 rfl) (cwV 1 B.1.2.2.2.2 gX8_sendPending_X1_get rfl rfl rfl (by decide +kernel) ⟨Nat.le_of_ble_eq_true rfl, Nat.le_of_ble_eq_true rfl⟩) h_18 rfl rfl rfl rfl (Nat.le_of_ble_eq_true rfl) dX8_sendPending_101 ⟨Nat.le_of_ble_eq_true rfl, Nat.le_of_ble_eq_true rfl⟩ (fun r_7 Φ7 sz7 st7 hp7 hs7 => ?_)
          obtain ⟨⟨n_7, rfl, b_11⟩, hq7, hI8, hF8⟩ := hp7
          subst sz7
          replace hs7 : st7 = [.int (nI n_7), .int v_19] := hs7
          subst st7
          replace hI8 : In G x (ca) Φ7 := hI8
          replace b_11 : n_7 < 2 ^ 31 := b_11
          refine z_icmp_le (tgt := 124) B dX8_sendPending_104 rfl (fun c_5 => ?_) (fun c_5 => ?_)
          · refine z_iload B dX8_sendPending_124 2 rfl ?_
            refine z_iload B dX8_sendPending_126 6 rfl ?_
            refine z_icmp_eq (tgt := 159) B dX8_sendPending_128 rfl (fun c_6 => ?_) (fun c_6 => ?_)
            · refine z_aload_n B dX8_sendPending_159 rfl 8 rfl ?_
              refine z_aload_n B dX8_sendPending_160 rfl 9 rfl ?_
              have h_19 : Φ7 (x + 74) = some (o_ 10 [.ref (x + 3), .ref (x + 46), .ref (x + 75), .ref (x + 77), .int (nI n_2), .ref (x + 78), .ref (x + 79), .int v_4, .long v_5, .int v_6]) := ((hF8 (x + 74) (fun j9 h8 h7 => (show False from h7).elim)).trans h_17)
              refine z_get (ref := "FlowExporter$Sender") (C := RX8) (T := TX8) (N := 10) (ci := 10) (v := .ref (x + 75)) B hu_X8_sendPending_X8 rfl 2 (Nat.le_of_ble_eq_true rfl) hv_X8_sendPending_14 rfl h_19 rfl dX8_sendPending_161 ?_
              refine z_iload B dX8_sendPending_164 4 rfl ?_
              refine z_iload B dX8_sendPending_166 1 rfl ?_
              have h_20 : Φ7 (x + (48 + 2 * i_6)) = some (o_ 7 [.ref (x + (48 + 2 * i_6 + 1)), .int (nI n_6)]) := ((hF8 (x + (48 + 2 * i_6)) (fun j9 h8 h7 => (show False from h7).elim)).trans h_16)
              refine z_callV (As := [.ref (x + 75), .int i_2, .int v_17]) (rest := []) B (s_X5_putFrom G l Φ7 sz x (ca) (48 + 2 * i_6) 75 i_2 v_17 hx hI8 (kd_q (show i_6 < 13 by omega)) rfl) (cwV 3 B.1.2.2.2.2 gX8_sendPending_X5_putFrom rfl rfl rfl (by decide +kernel) ⟨Nat.le_of_ble_eq_true rfl, Nat.le_of_ble_eq_true rfl⟩) h_20 rfl rfl rfl rfl (Nat.le_of_ble_eq_true rfl) dX8_sendPending_168 ⟨Nat.le_of_ble_eq_true rfl, Nat.le_of_ble_eq_true rfl⟩ (fun r_8 Φ8 sz8 st8 hp8 hs8 => ?_)
              obtain ⟨rfl, hq8, hI9, hF9⟩ := hp8
              subst sz8
              replace hs8 : st8 = [] := hs8
              subst st8
              replace hI9 : In G x (ca) Φ8 := hI9
              refine z_aload_n B dX8_sendPending_171 rfl 8 rfl ?_
              refine z_iload B dX8_sendPending_172 5 rfl ?_
              refine z_iconst (v := 2) B dX8_sendPending_174 rfl ?_
              refine z_iadd B dX8_sendPending_175 ?_
              refine z_fi (fun v_20 => ?_)
              refine z_aload_n B dX8_sendPending_176 rfl 8 rfl ?_
              obtain ⟨n_8, h_21, b_12⟩ := in1 (k := 48 + 2 * i_6) hI9 (kd_q (show i_6 < 13 by omega))
              replace b_12 : n_8 ≤ cap (48 + 2 * i_6) := b_12
              have b_13 := cap_le (48 + 2 * i_6)
              have h_22 : Φ8 (x + (48 + 2 * i_6)) = some (o_ 7 [.ref (x + (48 + 2 * i_6 + 1)), .int (nI n_8)]) := h_21
              refine z_get (ref := "FlowExporter$Message") (C := RX5) (T := TX5) (N := 2) (ci := 7) (v := .int (nI n_8)) B hu_X8_sendPending_X5 rfl 1 (Nat.le_of_ble_eq_true rfl) hv_X8_sendPending_61 rfl h_22 rfl dX8_sendPending_177 ?_
              refine z_iload B dX8_sendPending_180 5 rfl ?_
              refine z_isub B dX8_sendPending_182 ?_
              refine z_fi (fun v_21 => ?_)
              refine z_i2l (v := v_21.toInt64) B dX8_sendPending_183 rfl ?_
              refine z_fl (fun v_22 => ?_)
              refine z_iconst (v := 2) B dX8_sendPending_184 rfl ?_
              refine z_callV (As := [.int v_20, .long v_22, .int 2]) (rest := []) B (s_X5_putAt G l Φ8 sz x (ca) (48 + 2 * i_6) v_20 v_22 2 hx hI9 (kd_q (show i_6 < 13 by omega)) (show 2 ≤ 8 by omega)) (cwV 3 B.1.2.2.2.2 gX8_sendPending_X5_putAt rfl rfl rfl (by decide +kernel) ⟨Nat.le_of_ble_eq_true rfl, Nat.le_of_ble_eq_true rfl⟩) h_22 rfl rfl rfl rfl (Nat.le_of_ble_eq_true rfl) dX8_sendPending_185 ⟨Nat.le_of_ble_eq_true rfl, Nat.le_of_ble_eq_true rfl⟩ (fun r_9 Φ9 sz9 st9 hp9 hs9 => ?_)
              obtain ⟨rfl, hq9, hI10, hF10⟩ := hp9
              subst sz9
              replace hs9 : st9 = [] := hs9
              subst st9
              replace hI10 : In G x (ca) Φ9 := hI10
              refine z_iload B dX8_sendPending_188 4 rfl ?_
              refine z_iload B dX8_sendPending_190 1 rfl ?_
              refine z_iadd B dX8_sendPending_192 ?_
              refine z_fi (fun v_23 => ?_)
              refine z_istore (lv' := [(6, .int v_23), (10, .int v_18), (9, .int v_17), (8, .int v_13), (7, .int (nI i_1)), (5, .int i_3), (4, .int i_4), (3, .int i_5), (2, .ref (x + (48 + 2 * i_6))), (0, .ref (x + 74)), (1, .int a)]) B dX8_sendPending_193 (Nat.le_of_ble_eq_true rfl) rfl ?_
              refine z_iinc (k := 7) (v := i_5 + 1) (lv' := [(3, .int (i_5 + 1)), (6, .int v_23), (10, .int v_18), (9, .int v_17), (8, .int v_13), (7, .int (nI i_1)), (5, .int i_3), (4, .int i_4), (2, .ref (x + (48 + 2 * i_6))), (0, .ref (x + 74)), (1, .int a)]) B dX8_sendPending_195 rfl rfl (Nat.le_of_ble_eq_true rfl) rfl ?_
              refine z_iinc (k := 5) (v := nI (i_1 + 1)) (lv' := [(7, .int (nI (i_1 + 1))), (3, .int (i_5 + 1)), (6, .int v_23), (10, .int v_18), (9, .int v_17), (8, .int v_13), (5, .int i_3), (4, .int i_4), (2, .ref (x + (48 + 2 * i_6))), (0, .ref (x + 74)), (1, .int a)]) B dX8_sendPending_198 rfl (nI_add i_1 1) (Nat.le_of_ble_eq_true rfl) rfl ?_
              refine z_goto (tgt := 28) B dX8_sendPending_201 rfl ?_
              refine z_lv [0, 2, 6, 7, 1, 8, 9, 10] rfl ?_
              exact ih1 (i_1 + 1, v_23, i_3, i_4, i_5 + 1, i_6) Φ9 (show 12 - (i_1 + 1) < 12 - i_1 by omega) ⟨hI10, (fun b9 h9 => ((hF10 b9 (fun j9 h8 h7 => h9 j9 h8 (show 46 ≤ j9 ∧ j9 < 80 by have h6 : j9 = (48 + 2 * i_6) + 1 := h7; omega))).trans ((hF9 b9 (fun j9 h8 h7 => h9 j9 h8 (show 46 ≤ j9 ∧ j9 < 80 by have h6 : j9 = (48 + 2 * i_6) ∨ j9 = (48 + 2 * i_6) + 1 := h7; omega))).trans ((hF8 b9 (fun j9 h8 h7 => (show False from h7).elim)).trans ((hF7 b9 (fun j9 h8 h7 => (show False from h7).elim)).trans ((hF2 b9 h9).trans rfl)))))), (show (i_1 + 1) ≤ 12 by omega), (show i_6 < 13 by omega), trivial⟩
            · refine z_iload B dX8_sendPending_131 2 rfl ?_
              refine z_istore (lv' := [(4, .int v_13), (10, .int v_18), (9, .int v_17), (8, .int v_13), (7, .int (nI i_1)), (6, .int i_2), (5, .int i_3), (3, .int i_5), (2, .ref (x + (48 + 2 * i_6))), (0, .ref (x + 74)), (1, .int a)]) B dX8_sendPending_133 (Nat.le_of_ble_eq_true rfl) rfl ?_
              refine z_aload_n B dX8_sendPending_135 rfl 8 rfl ?_
              have h_23 : Φ7 (x + (48 + 2 * i_6)) = some (o_ 7 [.ref (x + (48 + 2 * i_6 + 1)), .int (nI n_6)]) := ((hF8 (x + (48 + 2 * i_6)) (fun j9 h8 h7 => (show False from h7).elim)).trans h_16)
              refine z_get (ref := "FlowExporter$Message") (C := RX5) (T := TX5) (N := 2) (ci := 7) (v := .int (nI n_6)) B hu_X8_sendPending_X5 rfl 1 (Nat.le_of_ble_eq_true rfl) hv_X8_sendPending_61 rfl h_23 rfl dX8_sendPending_136 ?_
              refine z_istore (lv' := [(5, .int (nI n_6)), (4, .int v_13), (10, .int v_18), (9, .int v_17), (8, .int v_13), (7, .int (nI i_1)), (6, .int i_2), (3, .int i_5), (2, .ref (x + (48 + 2 * i_6))), (0, .ref (x + 74)), (1, .int a)]) B dX8_sendPending_139 (Nat.le_of_ble_eq_true rfl) rfl ?_
              refine z_aload_n B dX8_sendPending_141 rfl 8 rfl ?_
              refine z_sipush (v := 256) B dX8_sendPending_142 rfl ?_
              refine z_iload B dX8_sendPending_145 4 rfl ?_
              refine z_iadd B dX8_sendPending_147 ?_
              refine z_fi (fun v_24 => ?_)
              refine z_i2l (v := v_24.toInt64) B dX8_sendPending_148 rfl ?_
              refine z_fl (fun v_25 => ?_)
              refine z_iconst (v := 2) B dX8_sendPending_149 rfl ?_
              refine z_callV (As := [.long v_25, .int 2]) (rest := []) B (s_X5_put G l Φ7 sz x (ca) (48 + 2 * i_6) v_25 2 hx hI8 (kd_q (show i_6 < 13 by omega)) (show 2 ≤ 8 by omega)) (cwV 2 B.1.2.2.2.2 gX8_sendPending_X5_put rfl rfl rfl (by decide +kernel) ⟨Nat.le_of_ble_eq_true rfl, Nat.le_of_ble_eq_true rfl⟩) h_23 rfl rfl rfl rfl (Nat.le_of_ble_eq_true rfl) dX8_sendPending_150 ⟨Nat.le_of_ble_eq_true rfl, Nat.le_of_ble_eq_true rfl⟩ (fun r_10 Φ10 sz10 st10 hp10 hs10 => ?_)
              obtain ⟨rfl, hq10, hI11, hF11⟩ := hp10
              subst sz10
              replace hs10 : st10 = [] := hs10
              subst st10
              replace hI11 : In G x (ca) Φ10 := hI11
              refine z_aload_n B dX8_sendPending_153 rfl 8 rfl ?_
              refine z_lconst (v := 0) B dX8_sendPending_154 rfl ?_
              refine z_iconst (v := 2) B dX8_sendPending_155 rfl ?_
              obtain ⟨n_9, h_24, b_14⟩ := in1 (k := 48 + 2 * i_6) hI11 (kd_q (show i_6 < 13 by omega))
              replace b_14 : n_9 ≤ cap (48 + 2 * i_6) := b_14
              have b_15 := cap_le (48 + 2 * i_6)
              have h_25 : Φ10 (x + (48 + 2 * i_6)) = some (o_ 7 [.ref (x + (48 + 2 * i_6 + 1)), .int (nI n_9)]) := h_24
              refine z_callV (As := [.long 0, .int 2]) (rest := []) B (s_X5_put G l Φ10 sz x (ca) (48 + 2 * i_6) 0 2 hx hI11 (kd_q (show i_6 < 13 by omega)) (show 2 ≤ 8 by omega)) (cwV 2 B.1.2.2.2.2 gX8_sendPending_X5_put rfl rfl rfl (by decide +kernel) ⟨Nat.le_of_ble_eq_true rfl, Nat.le_of_ble_eq_true rfl⟩) h_25 rfl rfl rfl rfl (Nat.le_of_ble_eq_true rfl) dX8_sendPending_156 ⟨Nat.le_of_ble_eq_true rfl, Nat.le_of_ble_eq_true rfl⟩ (fun r_11 Φ11 sz11 st11 hp11 hs11 => ?_)
              obtain ⟨rfl, hq11, hI12, hF12⟩ := hp11
              subst sz11
              replace hs11 : st11 = [] := hs11
              subst st11
              replace hI12 : In G x (ca) Φ11 := hI12
              refine z_aload_n B dX8_sendPending_159 rfl 8 rfl ?_
              refine z_aload_n B dX8_sendPending_160 rfl 9 rfl ?_
              have h_26 : Φ11 (x + 74) = some (o_ 10 [.ref (x + 3), .ref (x + 46), .ref (x + 75), .ref (x + 77), .int (nI n_2), .ref (x + 78), .ref (x + 79), .int v_4, .long v_5, .int v_6]) := ((hF12 (x + 74) (fun j9 h8 h7 => by have h6 : j9 = (48 + 2 * i_6) ∨ j9 = (48 + 2 * i_6) + 1 := h7; omega)).trans ((hF11 (x + 74) (fun j9 h8 h7 => by have h6 : j9 = (48 + 2 * i_6) ∨ j9 = (48 + 2 * i_6) + 1 := h7; omega)).trans ((hF8 (x + 74) (fun j9 h8 h7 => (show False from h7).elim)).trans h_17)))
              refine z_get (ref := "FlowExporter$Sender") (C := RX8) (T := TX8) (N := 10) (ci := 10) (v := .ref (x + 75)) B hu_X8_sendPending_X8 rfl 2 (Nat.le_of_ble_eq_true rfl) hv_X8_sendPending_14 rfl h_26 rfl dX8_sendPending_161 ?_
              refine z_iload B dX8_sendPending_164 6 rfl ?_
              refine z_iload B dX8_sendPending_166 3 rfl ?_
              obtain ⟨n_10, h_27, b_16⟩ := in1 (k := 48 + 2 * i_6) hI12 (kd_q (show i_6 < 13 by omega))
              replace b_16 : n_10 ≤ cap (48 + 2 * i_6) := b_16
              have b_17 := cap_le (48 + 2 * i_6)
              have h_28 : Φ11 (x + (48 + 2 * i_6)) = some (o_ 7 [.ref (x + (48 + 2 * i_6 + 1)), .int (nI n_10)]) := h_27
              refine z_callV (As := [.ref (x + 75), .int i_2, .int v_17]) (rest := []) B (s_X5_putFrom G l Φ11 sz x (ca) (48 + 2 * i_6) 75 i_2 v_17 hx hI12 (kd_q (show i_6 < 13 by omega)) rfl) (cwV 3 B.1.2.2.2.2 gX8_sendPending_X5_putFrom rfl rfl rfl (by decide +kernel) ⟨Nat.le_of_ble_eq_true rfl, Nat.le_of_ble_eq_true rfl⟩) h_28 rfl rfl rfl rfl (Nat.le_of_ble_eq_true rfl) dX8_sendPending_168 ⟨Nat.le_of_ble_eq_true rfl, Nat.le_of_ble_eq_true rfl⟩ (fun r_12 Φ12 sz12 st12 hp12 hs12 => ?_)
              obtain ⟨rfl, hq12, hI13, hF13⟩ := hp12
              subst sz12
              replace hs12 : st12 = [] := hs12
              subst st12
              replace hI13 : In G x (ca) Φ12 := hI13
              refine z_aload_n B dX8_sendPending_171 rfl 8 rfl ?_
              refine z_iload B dX8_sendPending_172 0 rfl ?_
              refine z_iconst (v := 2) B dX8_sendPending_174 rfl ?_
              refine z_iadd B dX8_sendPending_175 ?_
              refine z_top (st1 := [.int (nI (n_6 + 2)), .ref (x + (48 + 2 * i_6))]) (congrArg (fun w9 : Int32 => ([.int w9, .ref (x + (48 + 2 * i_6))] : List Value)) (nI_add n_6 2)) ?_
              refine z_aload_n B dX8_sendPending_176 rfl 8 rfl ?_
              obtain ⟨n_11, h_29, b_18⟩ := in1 (k := 48 + 2 * i_6) hI13 (kd_q (show i_6 < 13 by omega))
              replace b_18 : n_11 ≤ cap (48 + 2 * i_6) := b_18
              have b_19 := cap_le (48 + 2 * i_6)
              have h_30 : Φ12 (x + (48 + 2 * i_6)) = some (o_ 7 [.ref (x + (48 + 2 * i_6 + 1)), .int (nI n_11)]) := h_29
              refine z_get (ref := "FlowExporter$Message") (C := RX5) (T := TX5) (N := 2) (ci := 7) (v := .int (nI n_11)) B hu_X8_sendPending_X5 rfl 1 (Nat.le_of_ble_eq_true rfl) hv_X8_sendPending_61 rfl h_30 rfl dX8_sendPending_177 ?_
              refine z_iload B dX8_sendPending_180 0 rfl ?_
              refine z_isub B dX8_sendPending_182 ?_
              refine z_fi (fun v_26 => ?_)
              refine z_i2l (v := v_26.toInt64) B dX8_sendPending_183 rfl ?_
              refine z_fl (fun v_27 => ?_)
              refine z_iconst (v := 2) B dX8_sendPending_184 rfl ?_
              refine z_callV (As := [.int (nI (n_6 + 2)), .long v_27, .int 2]) (rest := []) B (s_X5_putAt G l Φ12 sz x (ca) (48 + 2 * i_6) (nI (n_6 + 2)) v_27 2 hx hI13 (kd_q (show i_6 < 13 by omega)) (show 2 ≤ 8 by omega)) (cwV 3 B.1.2.2.2.2 gX8_sendPending_X5_putAt rfl rfl rfl (by decide +kernel) ⟨Nat.le_of_ble_eq_true rfl, Nat.le_of_ble_eq_true rfl⟩) h_30 rfl rfl rfl rfl (Nat.le_of_ble_eq_true rfl) dX8_sendPending_185 ⟨Nat.le_of_ble_eq_true rfl, Nat.le_of_ble_eq_true rfl⟩ (fun r_13 Φ13 sz13 st13 hp13 hs13 => ?_)
              obtain ⟨rfl, hq13, hI14, hF14⟩ := hp13
              subst sz13
              replace hs13 : st13 = [] := hs13
              subst st13
              replace hI14 : In G x (ca) Φ13 := hI14
              refine z_iload B dX8_sendPending_188 6 rfl ?_
              refine z_iload B dX8_sendPending_190 3 rfl ?_
              refine z_iadd B dX8_sendPending_192 ?_
              refine z_fi (fun v_28 => ?_)
              refine z_istore (lv' := [(6, .int v_28), (5, .int (nI n_6)), (4, .int v_13), (10, .int v_18), (9, .int v_17), (8, .int v_13), (7, .int (nI i_1)), (3, .int i_5), (2, .ref (x + (48 + 2 * i_6))), (0, .ref (x + 74)), (1, .int a)]) B dX8_sendPending_193 (Nat.le_of_ble_eq_true rfl) rfl ?_
              refine z_iinc (k := 7) (v := i_5 + 1) (lv' := [(3, .int (i_5 + 1)), (6, .int v_28), (5, .int (nI n_6)), (4, .int v_13), (10, .int v_18), (9, .int v_17), (8, .int v_13), (7, .int (nI i_1)), (2, .ref (x + (48 + 2 * i_6))), (0, .ref (x + 74)), (1, .int a)]) B dX8_sendPending_195 rfl rfl (Nat.le_of_ble_eq_true rfl) rfl ?_
              refine z_iinc (k := 7) (v := nI (i_1 + 1)) (lv' := [(7, .int (nI (i_1 + 1))), (3, .int (i_5 + 1)), (6, .int v_28), (5, .int (nI n_6)), (4, .int v_13), (10, .int v_18), (9, .int v_17), (8, .int v_13), (2, .ref (x + (48 + 2 * i_6))), (0, .ref (x + 74)), (1, .int a)]) B dX8_sendPending_198 rfl (nI_add i_1 1) (Nat.le_of_ble_eq_true rfl) rfl ?_
              refine z_goto (tgt := 28) B dX8_sendPending_201 rfl ?_
              refine z_lv [0, 2, 3, 4, 1, 8, 9, 10] rfl ?_
              exact ih1 (i_1 + 1, v_28, nI n_6, v_13, i_5 + 1, i_6) Φ13 (show 12 - (i_1 + 1) < 12 - i_1 by omega) ⟨hI14, (fun b9 h9 => ((hF14 b9 (fun j9 h8 h7 => h9 j9 h8 (show 46 ≤ j9 ∧ j9 < 80 by have h6 : j9 = (48 + 2 * i_6) + 1 := h7; omega))).trans ((hF13 b9 (fun j9 h8 h7 => h9 j9 h8 (show 46 ≤ j9 ∧ j9 < 80 by have h6 : j9 = (48 + 2 * i_6) ∨ j9 = (48 + 2 * i_6) + 1 := h7; omega))).trans ((hF12 b9 (fun j9 h8 h7 => h9 j9 h8 (show 46 ≤ j9 ∧ j9 < 80 by have h6 : j9 = (48 + 2 * i_6) ∨ j9 = (48 + 2 * i_6) + 1 := h7; omega))).trans ((hF11 b9 (fun j9 h8 h7 => h9 j9 h8 (show 46 ≤ j9 ∧ j9 < 80 by have h6 : j9 = (48 + 2 * i_6) ∨ j9 = (48 + 2 * i_6) + 1 := h7; omega))).trans ((hF8 b9 (fun j9 h8 h7 => (show False from h7).elim)).trans ((hF7 b9 (fun j9 h8 h7 => (show False from h7).elim)).trans ((hF2 b9 h9).trans rfl)))))))), (show (i_1 + 1) ≤ 12 by omega), (show i_6 < 13 by omega), trivial⟩
          · refine z_aload_n B dX8_sendPending_107 rfl 9 rfl ?_
            refine z_aload_n B dX8_sendPending_108 rfl 8 rfl ?_
            refine z_iload_n B dX8_sendPending_109 rfl 7 rfl ?_
            have h_31 : Φ7 (x + 74) = some (o_ 10 [.ref (x + 3), .ref (x + 46), .ref (x + 75), .ref (x + 77), .int (nI n_2), .ref (x + 78), .ref (x + 79), .int v_4, .long v_5, .int v_6]) := ((hF8 (x + 74) (fun j9 h8 h7 => (show False from h7).elim)).trans h_17)
            refine z_callV (As := [.ref (x + (48 + 2 * i_6)), .int i_5]) (rest := []) B (s_X8_endMessage G l Φ7 sz x (ca) (48 + 2 * i_6) i_5 hx hI8 (kd_q (show i_6 < 13 by omega)) (show 48 ≤ (48 + 2 * i_6) by omega) (show (48 + 2 * i_6) < 73 by omega)) (cwV 2 B.1.2.2.2.2 gX8_sendPending_X8_endMessage rfl rfl rfl (by decide +kernel) ⟨Nat.le_of_ble_eq_true rfl, Nat.le_of_ble_eq_true rfl⟩) h_31 rfl rfl rfl rfl (Nat.le_of_ble_eq_true rfl) dX8_sendPending_110 ⟨Nat.le_of_ble_eq_true rfl, Nat.le_of_ble_eq_true rfl⟩ (fun r_14 Φ14 sz14 st14 hp14 hs14 => ?_)
            obtain ⟨rfl, hq14, hI15, hF15⟩ := hp14
            subst sz14
            replace hs14 : st14 = [] := hs14
            subst st14
            replace hI15 : In G x (ca) Φ14 := hI15
            refine z_aload_n B dX8_sendPending_113 rfl 9 rfl ?_
            refine z_iload_n B dX8_sendPending_114 rfl 10 rfl ?_
            obtain ⟨n_12, v_29, v_30, v_31, h_32, b_20⟩ := in13 (k := 74) hI15 rfl
            have h_33 : Φ14 (x + 74) = some (o_ 10 [.ref (x + 3), .ref (x + 46), .ref (x + 75), .ref (x + 77), .int (nI n_12), .ref (x + 78), .ref (x + 79), .int v_29, .long v_30, .int v_31]) := h_32
            refine z_callV (As := [.int a]) (rest := []) B (s_X8_beginMessage G l Φ14 sz x (ca) a hx hI15 ) (cwV 1 B.1.2.2.2.2 gX8_sendPending_X8_beginMessage rfl rfl rfl (by decide +kernel) ⟨Nat.le_of_ble_eq_true rfl, Nat.le_of_ble_eq_true rfl⟩) h_33 rfl rfl rfl rfl (Nat.le_of_ble_eq_true rfl) dX8_sendPending_115 ⟨Nat.le_of_ble_eq_true rfl, Nat.le_of_ble_eq_true rfl⟩ (fun r_15 Φ15 sz15 st15 hp15 hs15 => ?_)
            obtain ⟨⟨m_3, hm_3, rfl⟩, hq15, hI16, hF16⟩ := hp15
            subst sz15
            replace hs15 : st15 = [.ref (x + (48 + 2 * m_3))] := hs15
            subst st15
            replace hI16 : In G x (ca) Φ15 := hI16
            replace hm_3 : m_3 < 13 := hm_3
            refine z_astore_n (lv' := [(2, .ref (x + (48 + 2 * m_3))), (10, .int v_18), (9, .int v_17), (8, .int v_13), (7, .int (nI i_1)), (6, .int i_2), (5, .int i_3), (4, .int i_4), (3, .int i_5), (0, .ref (x + 74)), (1, .int a)]) B dX8_sendPending_118 rfl (Nat.le_of_ble_eq_true rfl) rfl ?_
            refine z_iconst (v := 0) B dX8_sendPending_119 rfl ?_
            refine z_istore_n (lv' := [(3, .int 0), (2, .ref (x + (48 + 2 * m_3))), (10, .int v_18), (9, .int v_17), (8, .int v_13), (7, .int (nI i_1)), (6, .int i_2), (5, .int i_3), (4, .int i_4), (0, .ref (x + 74)), (1, .int a)]) B dX8_sendPending_120 rfl (Nat.le_of_ble_eq_true rfl) rfl ?_
            refine z_iconst (v := (-1)) B dX8_sendPending_121 rfl ?_
            refine z_istore (lv' := [(4, .int (-1)), (3, .int 0), (2, .ref (x + (48 + 2 * m_3))), (10, .int v_18), (9, .int v_17), (8, .int v_13), (7, .int (nI i_1)), (6, .int i_2), (5, .int i_3), (0, .ref (x + 74)), (1, .int a)]) B dX8_sendPending_122 (Nat.le_of_ble_eq_true rfl) rfl ?_
            refine z_iload B dX8_sendPending_124 5 rfl ?_
            refine z_iload B dX8_sendPending_126 0 rfl ?_
            refine z_icmp_eq (tgt := 159) B dX8_sendPending_128 rfl (fun c_7 => ?_) (fun c_7 => ?_)
            · refine z_aload_n B dX8_sendPending_159 rfl 2 rfl ?_
              refine z_aload_n B dX8_sendPending_160 rfl 9 rfl ?_
              obtain ⟨n_13, v_32, v_33, v_34, h_34, b_21⟩ := in13 (k := 74) hI16 rfl
              have h_35 : Φ15 (x + 74) = some (o_ 10 [.ref (x + 3), .ref (x + 46), .ref (x + 75), .ref (x + 77), .int (nI n_13), .ref (x + 78), .ref (x + 79), .int v_32, .long v_33, .int v_34]) := h_34
              refine z_get (ref := "FlowExporter$Sender") (C := RX8) (T := TX8) (N := 10) (ci := 10) (v := .ref (x + 75)) B hu_X8_sendPending_X8 rfl 2 (Nat.le_of_ble_eq_true rfl) hv_X8_sendPending_14 rfl h_35 rfl dX8_sendPending_161 ?_
              refine z_iload B dX8_sendPending_164 7 rfl ?_
              refine z_iload B dX8_sendPending_166 4 rfl ?_
              obtain ⟨n_14, h_36, b_22⟩ := in1 (k := 48 + 2 * m_3) hI16 (kd_q hm_3)
              replace b_22 : n_14 ≤ cap (48 + 2 * m_3) := b_22
              have b_23 := cap_le (48 + 2 * m_3)
              have h_37 : Φ15 (x + (48 + 2 * m_3)) = some (o_ 7 [.ref (x + (48 + 2 * m_3 + 1)), .int (nI n_14)]) := h_36
              refine z_callV (As := [.ref (x + 75), .int i_2, .int v_17]) (rest := []) B (s_X5_putFrom G l Φ15 sz x (ca) (48 + 2 * m_3) 75 i_2 v_17 hx hI16 (kd_q hm_3) rfl) (cwV 3 B.1.2.2.2.2 gX8_sendPending_X5_putFrom rfl rfl rfl (by decide +kernel) ⟨Nat.le_of_ble_eq_true rfl, Nat.le_of_ble_eq_true rfl⟩) h_37 rfl rfl rfl rfl (Nat.le_of_ble_eq_true rfl) dX8_sendPending_168 ⟨Nat.le_of_ble_eq_true rfl, Nat.le_of_ble_eq_true rfl⟩ (fun r_16 Φ16 sz16 st16 hp16 hs16 => ?_)
              obtain ⟨rfl, hq16, hI17, hF17⟩ := hp16
              subst sz16
              replace hs16 : st16 = [] := hs16
              subst st16
              replace hI17 : In G x (ca) Φ16 := hI17
              refine z_aload_n B dX8_sendPending_171 rfl 2 rfl ?_
              refine z_iload B dX8_sendPending_172 8 rfl ?_
              refine z_iconst (v := 2) B dX8_sendPending_174 rfl ?_
              refine z_iadd B dX8_sendPending_175 ?_
              refine z_fi (fun v_35 => ?_)
              refine z_aload_n B dX8_sendPending_176 rfl 2 rfl ?_
              obtain ⟨n_15, h_38, b_24⟩ := in1 (k := 48 + 2 * m_3) hI17 (kd_q hm_3)
              replace b_24 : n_15 ≤ cap (48 + 2 * m_3) := b_24
              have b_25 := cap_le (48 + 2 * m_3)
              have h_39 : Φ16 (x + (48 + 2 * m_3)) = some (o_ 7 [.ref (x + (48 + 2 * m_3 + 1)), .int (nI n_15)]) := h_38
              refine z_get (ref := "FlowExporter$Message") (C := RX5) (T := TX5) (N := 2) (ci := 7) (v := .int (nI n_15)) B hu_X8_sendPending_X5 rfl 1 (Nat.le_of_ble_eq_true rfl) hv_X8_sendPending_61 rfl h_39 rfl dX8_sendPending_177 ?_
              refine z_iload B dX8_sendPending_180 8 rfl ?_
              refine z_isub B dX8_sendPending_182 ?_
              refine z_fi (fun v_36 => ?_)
              refine z_i2l (v := v_36.toInt64) B dX8_sendPending_183 rfl ?_
              refine z_fl (fun v_37 => ?_)
              refine z_iconst (v := 2) B dX8_sendPending_184 rfl ?_
              refine z_callV (As := [.int v_35, .long v_37, .int 2]) (rest := []) B (s_X5_putAt G l Φ16 sz x (ca) (48 + 2 * m_3) v_35 v_37 2 hx hI17 (kd_q hm_3) (show 2 ≤ 8 by omega)) (cwV 3 B.1.2.2.2.2 gX8_sendPending_X5_putAt rfl rfl rfl (by decide +kernel) ⟨Nat.le_of_ble_eq_true rfl, Nat.le_of_ble_eq_true rfl⟩) h_39 rfl rfl rfl rfl (Nat.le_of_ble_eq_true rfl) dX8_sendPending_185 ⟨Nat.le_of_ble_eq_true rfl, Nat.le_of_ble_eq_true rfl⟩ (fun r_17 Φ17 sz17 st17 hp17 hs17 => ?_)
              obtain ⟨rfl, hq17, hI18, hF18⟩ := hp17
              subst sz17
              replace hs17 : st17 = [] := hs17
              subst st17
              replace hI18 : In G x (ca) Φ17 := hI18
              refine z_iload B dX8_sendPending_188 7 rfl ?_
              refine z_iload B dX8_sendPending_190 4 rfl ?_
              refine z_iadd B dX8_sendPending_192 ?_
              refine z_fi (fun v_38 => ?_)
              refine z_istore (lv' := [(6, .int v_38), (4, .int (-1)), (3, .int 0), (2, .ref (x + (48 + 2 * m_3))), (10, .int v_18), (9, .int v_17), (8, .int v_13), (7, .int (nI i_1)), (5, .int i_3), (0, .ref (x + 74)), (1, .int a)]) B dX8_sendPending_193 (Nat.le_of_ble_eq_true rfl) rfl ?_
              refine z_iinc (k := 2) (v := 1) (lv' := [(3, .int 1), (6, .int v_38), (4, .int (-1)), (2, .ref (x + (48 + 2 * m_3))), (10, .int v_18), (9, .int v_17), (8, .int v_13), (7, .int (nI i_1)), (5, .int i_3), (0, .ref (x + 74)), (1, .int a)]) B dX8_sendPending_195 rfl rfl (Nat.le_of_ble_eq_true rfl) rfl ?_
              refine z_iinc (k := 7) (v := nI (i_1 + 1)) (lv' := [(7, .int (nI (i_1 + 1))), (3, .int 1), (6, .int v_38), (4, .int (-1)), (2, .ref (x + (48 + 2 * m_3))), (10, .int v_18), (9, .int v_17), (8, .int v_13), (5, .int i_3), (0, .ref (x + 74)), (1, .int a)]) B dX8_sendPending_198 rfl (nI_add i_1 1) (Nat.le_of_ble_eq_true rfl) rfl ?_
              refine z_goto (tgt := 28) B dX8_sendPending_201 rfl ?_
              refine z_lv [0, 2, 8, 3, 1, 4, 9, 10] rfl ?_
              exact ih1 (i_1 + 1, v_38, i_3, (-1), 1, m_3) Φ17 (show 12 - (i_1 + 1) < 12 - i_1 by omega) ⟨hI18, (fun b9 h9 => ((hF18 b9 (fun j9 h8 h7 => h9 j9 h8 (show 46 ≤ j9 ∧ j9 < 80 by have h6 : j9 = (48 + 2 * m_3) + 1 := h7; omega))).trans ((hF17 b9 (fun j9 h8 h7 => h9 j9 h8 (show 46 ≤ j9 ∧ j9 < 80 by have h6 : j9 = (48 + 2 * m_3) ∨ j9 = (48 + 2 * m_3) + 1 := h7; omega))).trans ((hF16 b9 (fun j9 h8 h7 => h9 j9 h8 (fq_175 j9 h7))).trans ((hF15 b9 h9).trans ((hF8 b9 (fun j9 h8 h7 => (show False from h7).elim)).trans ((hF7 b9 (fun j9 h8 h7 => (show False from h7).elim)).trans ((hF2 b9 h9).trans rfl)))))))), (show (i_1 + 1) ≤ 12 by omega), (show m_3 < 13 by omega), trivial⟩
            · refine z_iload B dX8_sendPending_131 5 rfl ?_
              refine z_istore (lv' := [(4, .int v_13), (3, .int 0), (2, .ref (x + (48 + 2 * m_3))), (10, .int v_18), (9, .int v_17), (8, .int v_13), (7, .int (nI i_1)), (6, .int i_2), (5, .int i_3), (0, .ref (x + 74)), (1, .int a)]) B dX8_sendPending_133 (Nat.le_of_ble_eq_true rfl) rfl ?_
              refine z_aload_n B dX8_sendPending_135 rfl 2 rfl ?_
              obtain ⟨n_16, h_40, b_26⟩ := in1 (k := 48 + 2 * m_3) hI16 (kd_q hm_3)
              replace b_26 : n_16 ≤ cap (48 + 2 * m_3) := b_26
              have b_27 := cap_le (48 + 2 * m_3)
              have h_41 : Φ15 (x + (48 + 2 * m_3)) = some (o_ 7 [.ref (x + (48 + 2 * m_3 + 1)), .int (nI n_16)]) := h_40
              refine z_get (ref := "FlowExporter$Message") (C := RX5) (T := TX5) (N := 2) (ci := 7) (v := .int (nI n_16)) B hu_X8_sendPending_X5 rfl 1 (Nat.le_of_ble_eq_true rfl) hv_X8_sendPending_61 rfl h_41 rfl dX8_sendPending_136 ?_
              refine z_istore (lv' := [(5, .int (nI n_16)), (4, .int v_13), (3, .int 0), (2, .ref (x + (48 + 2 * m_3))), (10, .int v_18), (9, .int v_17), (8, .int v_13), (7, .int (nI i_1)), (6, .int i_2), (0, .ref (x + 74)), (1, .int a)]) B dX8_sendPending_139 (Nat.le_of_ble_eq_true rfl) rfl ?_
              refine z_aload_n B dX8_sendPending_141 rfl 3 rfl ?_
              refine z_sipush (v := 256) B dX8_sendPending_142 rfl ?_
              refine z_iload B dX8_sendPending_145 6 rfl ?_
              refine z_iadd B dX8_sendPending_147 ?_
              refine z_fi (fun v_39 => ?_)
              refine z_i2l (v := v_39.toInt64) B dX8_sendPending_148 rfl ?_
              refine z_fl (fun v_40 => ?_)
              refine z_iconst (v := 2) B dX8_sendPending_149 rfl ?_
              refine z_callV (As := [.long v_40, .int 2]) (rest := []) B (s_X5_put G l Φ15 sz x (ca) (48 + 2 * m_3) v_40 2 hx hI16 (kd_q hm_3) (show 2 ≤ 8 by omega)) (cwV 2 B.1.2.2.2.2 gX8_sendPending_X5_put rfl rfl rfl (by decide +kernel) ⟨Nat.le_of_ble_eq_true rfl, Nat.le_of_ble_eq_true rfl⟩) h_41 rfl rfl rfl rfl (Nat.le_of_ble_eq_true rfl) dX8_sendPending_150 ⟨Nat.le_of_ble_eq_true rfl, Nat.le_of_ble_eq_true rfl⟩ (fun r_18 Φ18 sz18 st18 hp18 hs18 => ?_)
              obtain ⟨rfl, hq18, hI19, hF19⟩ := hp18
              subst sz18
              replace hs18 : st18 = [] := hs18
              subst st18
              replace hI19 : In G x (ca) Φ18 := hI19
              refine z_aload_n B dX8_sendPending_153 rfl 3 rfl ?_
              refine z_lconst (v := 0) B dX8_sendPending_154 rfl ?_
              refine z_iconst (v := 2) B dX8_sendPending_155 rfl ?_
              obtain ⟨n_17, h_42, b_28⟩ := in1 (k := 48 + 2 * m_3) hI19 (kd_q hm_3)
              replace b_28 : n_17 ≤ cap (48 + 2 * m_3) := b_28
              have b_29 := cap_le (48 + 2 * m_3)
              have h_43 : Φ18 (x + (48 + 2 * m_3)) = some (o_ 7 [.ref (x + (48 + 2 * m_3 + 1)), .int (nI n_17)]) := h_42
              refine z_callV (As := [.long 0, .int 2]) (rest := []) B (s_X5_put G l Φ18 sz x (ca) (48 + 2 * m_3) 0 2 hx hI19 (kd_q hm_3) (show 2 ≤ 8 by omega)) (cwV 2 B.1.2.2.2.2 gX8_sendPending_X5_put rfl rfl rfl (by decide +kernel) ⟨Nat.le_of_ble_eq_true rfl, Nat.le_of_ble_eq_true rfl⟩) h_43 rfl rfl rfl rfl (Nat.le_of_ble_eq_true rfl) dX8_sendPending_156 ⟨Nat.le_of_ble_eq_true rfl, Nat.le_of_ble_eq_true rfl⟩ (fun r_19 Φ19 sz19 st19 hp19 hs19 => ?_)
              obtain ⟨rfl, hq19, hI20, hF20⟩ := hp19
              subst sz19
              replace hs19 : st19 = [] := hs19
              subst st19
              replace hI20 : In G x (ca) Φ19 := hI20
              refine z_aload_n B dX8_sendPending_159 rfl 3 rfl ?_
              refine z_aload_n B dX8_sendPending_160 rfl 9 rfl ?_
              obtain ⟨n_18, v_41, v_42, v_43, h_44, b_30⟩ := in13 (k := 74) hI20 rfl
              have h_45 : Φ19 (x + 74) = some (o_ 10 [.ref (x + 3), .ref (x + 46), .ref (x + 75), .ref (x + 77), .int (nI n_18), .ref (x + 78), .ref (x + 79), .int v_41, .long v_42, .int v_43]) := h_44
              refine z_get (ref := "FlowExporter$Sender") (C := RX8) (T := TX8) (N := 10) (ci := 10) (v := .ref (x + 75)) B hu_X8_sendPending_X8 rfl 2 (Nat.le_of_ble_eq_true rfl) hv_X8_sendPending_14 rfl h_45 rfl dX8_sendPending_161 ?_
              refine z_iload B dX8_sendPending_164 8 rfl ?_
              refine z_iload B dX8_sendPending_166 5 rfl ?_
              obtain ⟨n_19, h_46, b_31⟩ := in1 (k := 48 + 2 * m_3) hI20 (kd_q hm_3)
              replace b_31 : n_19 ≤ cap (48 + 2 * m_3) := b_31
              have b_32 := cap_le (48 + 2 * m_3)
              have h_47 : Φ19 (x + (48 + 2 * m_3)) = some (o_ 7 [.ref (x + (48 + 2 * m_3 + 1)), .int (nI n_19)]) := h_46
              refine z_callV (As := [.ref (x + 75), .int i_2, .int v_17]) (rest := []) B (s_X5_putFrom G l Φ19 sz x (ca) (48 + 2 * m_3) 75 i_2 v_17 hx hI20 (kd_q hm_3) rfl) (cwV 3 B.1.2.2.2.2 gX8_sendPending_X5_putFrom rfl rfl rfl (by decide +kernel) ⟨Nat.le_of_ble_eq_true rfl, Nat.le_of_ble_eq_true rfl⟩) h_47 rfl rfl rfl rfl (Nat.le_of_ble_eq_true rfl) dX8_sendPending_168 ⟨Nat.le_of_ble_eq_true rfl, Nat.le_of_ble_eq_true rfl⟩ (fun r_20 Φ20 sz20 st20 hp20 hs20 => ?_)
              obtain ⟨rfl, hq20, hI21, hF21⟩ := hp20
              subst sz20
              replace hs20 : st20 = [] := hs20
              subst st20
              replace hI21 : In G x (ca) Φ20 := hI21
              refine z_aload_n B dX8_sendPending_171 rfl 3 rfl ?_
              refine z_iload B dX8_sendPending_172 0 rfl ?_
              refine z_iconst (v := 2) B dX8_sendPending_174 rfl ?_
              refine z_iadd B dX8_sendPending_175 ?_
              refine z_top (st1 := [.int (nI (n_16 + 2)), .ref (x + (48 + 2 * m_3))]) (congrArg (fun w9 : Int32 => ([.int w9, .ref (x + (48 + 2 * m_3))] : List Value)) (nI_add n_16 2)) ?_
              refine z_aload_n B dX8_sendPending_176 rfl 3 rfl ?_
              obtain ⟨n_20, h_48, b_33⟩ := in1 (k := 48 + 2 * m_3) hI21 (kd_q hm_3)
              replace b_33 : n_20 ≤ cap (48 + 2 * m_3) := b_33
              have b_34 := cap_le (48 + 2 * m_3)
              have h_49 : Φ20 (x + (48 + 2 * m_3)) = some (o_ 7 [.ref (x + (48 + 2 * m_3 + 1)), .int (nI n_20)]) := h_48
              refine z_get (ref := "FlowExporter$Message") (C := RX5) (T := TX5) (N := 2) (ci := 7) (v := .int (nI n_20)) B hu_X8_sendPending_X5 rfl 1 (Nat.le_of_ble_eq_true rfl) hv_X8_sendPending_61 rfl h_49 rfl dX8_sendPending_177 ?_
              refine z_iload B dX8_sendPending_180 0 rfl ?_
              refine z_isub B dX8_sendPending_182 ?_
              refine z_fi (fun v_44 => ?_)
              refine z_i2l (v := v_44.toInt64) B dX8_sendPending_183 rfl ?_
              refine z_fl (fun v_45 => ?_)
              refine z_iconst (v := 2) B dX8_sendPending_184 rfl ?_
              refine z_callV (As := [.int (nI (n_16 + 2)), .long v_45, .int 2]) (rest := []) B (s_X5_putAt G l Φ20 sz x (ca) (48 + 2 * m_3) (nI (n_16 + 2)) v_45 2 hx hI21 (kd_q hm_3) (show 2 ≤ 8 by omega)) (cwV 3 B.1.2.2.2.2 gX8_sendPending_X5_putAt rfl rfl rfl (by decide +kernel) ⟨Nat.le_of_ble_eq_true rfl, Nat.le_of_ble_eq_true rfl⟩) h_49 rfl rfl rfl rfl (Nat.le_of_ble_eq_true rfl) dX8_sendPending_185 ⟨Nat.le_of_ble_eq_true rfl, Nat.le_of_ble_eq_true rfl⟩ (fun r_21 Φ21 sz21 st21 hp21 hs21 => ?_)
              obtain ⟨rfl, hq21, hI22, hF22⟩ := hp21
              subst sz21
              replace hs21 : st21 = [] := hs21
              subst st21
              replace hI22 : In G x (ca) Φ21 := hI22
              refine z_iload B dX8_sendPending_188 8 rfl ?_
              refine z_iload B dX8_sendPending_190 5 rfl ?_
              refine z_iadd B dX8_sendPending_192 ?_
              refine z_fi (fun v_46 => ?_)
              refine z_istore (lv' := [(6, .int v_46), (5, .int (nI n_16)), (4, .int v_13), (3, .int 0), (2, .ref (x + (48 + 2 * m_3))), (10, .int v_18), (9, .int v_17), (8, .int v_13), (7, .int (nI i_1)), (0, .ref (x + 74)), (1, .int a)]) B dX8_sendPending_193 (Nat.le_of_ble_eq_true rfl) rfl ?_
              refine z_iinc (k := 3) (v := 1) (lv' := [(3, .int 1), (6, .int v_46), (5, .int (nI n_16)), (4, .int v_13), (2, .ref (x + (48 + 2 * m_3))), (10, .int v_18), (9, .int v_17), (8, .int v_13), (7, .int (nI i_1)), (0, .ref (x + 74)), (1, .int a)]) B dX8_sendPending_195 rfl rfl (Nat.le_of_ble_eq_true rfl) rfl ?_
              refine z_iinc (k := 8) (v := nI (i_1 + 1)) (lv' := [(7, .int (nI (i_1 + 1))), (3, .int 1), (6, .int v_46), (5, .int (nI n_16)), (4, .int v_13), (2, .ref (x + (48 + 2 * m_3))), (10, .int v_18), (9, .int v_17), (8, .int v_13), (0, .ref (x + 74)), (1, .int a)]) B dX8_sendPending_198 rfl (nI_add i_1 1) (Nat.le_of_ble_eq_true rfl) rfl ?_
              refine z_goto (tgt := 28) B dX8_sendPending_201 rfl ?_
              refine z_lv [0, 2, 3, 4, 1, 5, 9, 10] rfl ?_
              exact ih1 (i_1 + 1, v_46, nI n_16, v_13, 1, m_3) Φ21 (show 12 - (i_1 + 1) < 12 - i_1 by omega) ⟨hI22, (fun b9 h9 => ((hF22 b9 (fun j9 h8 h7 => h9 j9 h8 (show 46 ≤ j9 ∧ j9 < 80 by have h6 : j9 = (48 + 2 * m_3) + 1 := h7; omega))).trans ((hF21 b9 (fun j9 h8 h7 => h9 j9 h8 (show 46 ≤ j9 ∧ j9 < 80 by have h6 : j9 = (48 + 2 * m_3) ∨ j9 = (48 + 2 * m_3) + 1 := h7; omega))).trans ((hF20 b9 (fun j9 h8 h7 => h9 j9 h8 (show 46 ≤ j9 ∧ j9 < 80 by have h6 : j9 = (48 + 2 * m_3) ∨ j9 = (48 + 2 * m_3) + 1 := h7; omega))).trans ((hF19 b9 (fun j9 h8 h7 => h9 j9 h8 (show 46 ≤ j9 ∧ j9 < 80 by have h6 : j9 = (48 + 2 * m_3) ∨ j9 = (48 + 2 * m_3) + 1 := h7; omega))).trans ((hF16 b9 (fun j9 h8 h7 => h9 j9 h8 (fq_175 j9 h7))).trans ((hF15 b9 h9).trans ((hF8 b9 (fun j9 h8 h7 => (show False from h7).elim)).trans ((hF7 b9 (fun j9 h8 h7 => (show False from h7).elim)).trans ((hF2 b9 h9).trans rfl)))))))))), (show (i_1 + 1) ≤ 12 by omega), (show m_3 < 13 by omega), trivial⟩
        · refine z_iload B dX8_sendPending_77 0 rfl ?_
          refine z_goto (tgt := 86) B dX8_sendPending_79 rfl ?_
          refine z_istore (lv' := [(10, .int v_17), (9, .int v_17), (8, .int v_13), (7, .int (nI i_1)), (6, .int i_2), (5, .int i_3), (4, .int i_4), (3, .int i_5), (2, .ref (x + (48 + 2 * i_6))), (0, .ref (x + 74)), (1, .int a)]) B dX8_sendPending_86 (Nat.le_of_ble_eq_true rfl) rfl ?_
          refine z_aload_n B dX8_sendPending_88 rfl 8 rfl ?_
          obtain ⟨n_21, h_50, b_35⟩ := in1 (k := 48 + 2 * i_6) hI7 (kd_q (show i_6 < 13 by omega))
          replace b_35 : n_21 ≤ cap (48 + 2 * i_6) := b_35
          have b_36 := cap_le (48 + 2 * i_6)
          have h_51 : Φ6 (x + (48 + 2 * i_6)) = some (o_ 7 [.ref (x + (48 + 2 * i_6 + 1)), .int (nI n_21)]) := h_50
          refine z_get (ref := "FlowExporter$Message") (C := RX5) (T := TX5) (N := 2) (ci := 7) (v := .int (nI n_21)) B hu_X8_sendPending_X5 rfl 1 (Nat.le_of_ble_eq_true rfl) hv_X8_sendPending_61 rfl h_51 rfl dX8_sendPending_89 ?_
          refine z_iload B dX8_sendPending_92 0 rfl ?_
          refine z_iadd B dX8_sendPending_94 ?_
          refine z_fi (fun v_47 => ?_)
          refine z_aload_n B dX8_sendPending_95 rfl 9 rfl ?_
          have h_52 : Φ6 (x + 74) = some (o_ 10 [.ref (x + 3), .ref (x + 46), .ref (x + 75), .ref (x + 77), .int (nI n_2), .ref (x + 78), .ref (x + 79), .int v_4, .long v_5, .int v_6]) := ((hF7 (x + 74) (fun j9 h8 h7 => (show False from h7).elim)).trans h_4)
          refine z_get (ref := "FlowExporter$Sender") (C := RX8) (T := TX8) (N := 10) (ci := 10) (v := .ref (x + 3)) B hu_X8_sendPending_X8 rfl 0 (Nat.le_of_ble_eq_true rfl) hv_X8_sendPending_44 rfl h_52 rfl dX8_sendPending_96 ?_
          refine z_bipush (v := 7) B dX8_sendPending_99 rfl ?_
          have h_53 : Φ6 (x + 3) = some (o_ 3 [.ref (x + 4), .ref (x + 5), .ref (x + 6), .ref (x + 7), .int v_14, .int v_15]) := ((hF7 (x + 3) (fun j9 h8 h7 => (show False from h7).elim)).trans h_12)
          refine z_callV (As := [.int 7]) (rest := [.int v_47]) B (s_X1_get G l Φ6 sz x (ca) 3 7 hx hI7 rfl) (cwV 1 B.1.2.2.2.2 gX8_sendPending_X1_get rfl rfl rfl (by decide +kernel) ⟨Nat.le_of_ble_eq_true rfl, Nat.le_of_ble_eq_true rfl⟩) h_53 rfl rfl rfl rfl (Nat.le_of_ble_eq_true rfl) dX8_sendPending_101 ⟨Nat.le_of_ble_eq_true rfl, Nat.le_of_ble_eq_true rfl⟩ (fun r_22 Φ22 sz22 st22 hp22 hs22 => ?_)
          obtain ⟨⟨n_22, rfl, b_37⟩, hq22, hI23, hF23⟩ := hp22
          subst sz22
          replace hs22 : st22 = [.int (nI n_22), .int v_47] := hs22
          subst st22
          replace hI23 : In G x (ca) Φ22 := hI23
          replace b_37 : n_22 < 2 ^ 31 := b_37
          refine z_icmp_le (tgt := 124) B dX8_sendPending_104 rfl (fun c_8 => ?_) (fun c_8 => ?_)
          · refine z_iload B dX8_sendPending_124 2 rfl ?_
            refine z_iload B dX8_sendPending_126 6 rfl ?_
            refine z_icmp_eq (tgt := 159) B dX8_sendPending_128 rfl (fun c_9 => ?_) (fun c_9 => ?_)
            · refine z_aload_n B dX8_sendPending_159 rfl 8 rfl ?_
              refine z_aload_n B dX8_sendPending_160 rfl 9 rfl ?_
              have h_54 : Φ22 (x + 74) = some (o_ 10 [.ref (x + 3), .ref (x + 46), .ref (x + 75), .ref (x + 77), .int (nI n_2), .ref (x + 78), .ref (x + 79), .int v_4, .long v_5, .int v_6]) := ((hF23 (x + 74) (fun j9 h8 h7 => (show False from h7).elim)).trans h_52)
              refine z_get (ref := "FlowExporter$Sender") (C := RX8) (T := TX8) (N := 10) (ci := 10) (v := .ref (x + 75)) B hu_X8_sendPending_X8 rfl 2 (Nat.le_of_ble_eq_true rfl) hv_X8_sendPending_14 rfl h_54 rfl dX8_sendPending_161 ?_
              refine z_iload B dX8_sendPending_164 4 rfl ?_
              refine z_iload B dX8_sendPending_166 1 rfl ?_
              have h_55 : Φ22 (x + (48 + 2 * i_6)) = some (o_ 7 [.ref (x + (48 + 2 * i_6 + 1)), .int (nI n_21)]) := ((hF23 (x + (48 + 2 * i_6)) (fun j9 h8 h7 => (show False from h7).elim)).trans h_51)
              refine z_callV (As := [.ref (x + 75), .int i_2, .int v_17]) (rest := []) B (s_X5_putFrom G l Φ22 sz x (ca) (48 + 2 * i_6) 75 i_2 v_17 hx hI23 (kd_q (show i_6 < 13 by omega)) rfl) (cwV 3 B.1.2.2.2.2 gX8_sendPending_X5_putFrom rfl rfl rfl (by decide +kernel) ⟨Nat.le_of_ble_eq_true rfl, Nat.le_of_ble_eq_true rfl⟩) h_55 rfl rfl rfl rfl (Nat.le_of_ble_eq_true rfl) dX8_sendPending_168 ⟨Nat.le_of_ble_eq_true rfl, Nat.le_of_ble_eq_true rfl⟩ (fun r_23 Φ23 sz23 st23 hp23 hs23 => ?_)
              obtain ⟨rfl, hq23, hI24, hF24⟩ := hp23
              subst sz23
              replace hs23 : st23 = [] := hs23
              subst st23
              replace hI24 : In G x (ca) Φ23 := hI24
              refine z_aload_n B dX8_sendPending_171 rfl 8 rfl ?_
              refine z_iload B dX8_sendPending_172 5 rfl ?_
              refine z_iconst (v := 2) B dX8_sendPending_174 rfl ?_
              refine z_iadd B dX8_sendPending_175 ?_
              refine z_fi (fun v_48 => ?_)
              refine z_aload_n B dX8_sendPending_176 rfl 8 rfl ?_
              obtain ⟨n_23, h_56, b_38⟩ := in1 (k := 48 + 2 * i_6) hI24 (kd_q (show i_6 < 13 by omega))
              replace b_38 : n_23 ≤ cap (48 + 2 * i_6) := b_38
              have b_39 := cap_le (48 + 2 * i_6)
              have h_57 : Φ23 (x + (48 + 2 * i_6)) = some (o_ 7 [.ref (x + (48 + 2 * i_6 + 1)), .int (nI n_23)]) := h_56
              refine z_get (ref := "FlowExporter$Message") (C := RX5) (T := TX5) (N := 2) (ci := 7) (v := .int (nI n_23)) B hu_X8_sendPending_X5 rfl 1 (Nat.le_of_ble_eq_true rfl) hv_X8_sendPending_61 rfl h_57 rfl dX8_sendPending_177 ?_
              refine z_iload B dX8_sendPending_180 5 rfl ?_
              refine z_isub B dX8_sendPending_182 ?_
              refine z_fi (fun v_49 => ?_)
              refine z_i2l (v := v_49.toInt64) B dX8_sendPending_183 rfl ?_
              refine z_fl (fun v_50 => ?_)
              refine z_iconst (v := 2) B dX8_sendPending_184 rfl ?_
              refine z_callV (As := [.int v_48, .long v_50, .int 2]) (rest := []) B (s_X5_putAt G l Φ23 sz x (ca) (48 + 2 * i_6) v_48 v_50 2 hx hI24 (kd_q (show i_6 < 13 by omega)) (show 2 ≤ 8 by omega)) (cwV 3 B.1.2.2.2.2 gX8_sendPending_X5_putAt rfl rfl rfl (by decide +kernel) ⟨Nat.le_of_ble_eq_true rfl, Nat.le_of_ble_eq_true rfl⟩) h_57 rfl rfl rfl rfl (Nat.le_of_ble_eq_true rfl) dX8_sendPending_185 ⟨Nat.le_of_ble_eq_true rfl, Nat.le_of_ble_eq_true rfl⟩ (fun r_24 Φ24 sz24 st24 hp24 hs24 => ?_)
              obtain ⟨rfl, hq24, hI25, hF25⟩ := hp24
              subst sz24
              replace hs24 : st24 = [] := hs24
              subst st24
              replace hI25 : In G x (ca) Φ24 := hI25
              refine z_iload B dX8_sendPending_188 4 rfl ?_
              refine z_iload B dX8_sendPending_190 1 rfl ?_
              refine z_iadd B dX8_sendPending_192 ?_
              refine z_fi (fun v_51 => ?_)
              refine z_istore (lv' := [(6, .int v_51), (10, .int v_17), (9, .int v_17), (8, .int v_13), (7, .int (nI i_1)), (5, .int i_3), (4, .int i_4), (3, .int i_5), (2, .ref (x + (48 + 2 * i_6))), (0, .ref (x + 74)), (1, .int a)]) B dX8_sendPending_193 (Nat.le_of_ble_eq_true rfl) rfl ?_
              refine z_iinc (k := 7) (v := i_5 + 1) (lv' := [(3, .int (i_5 + 1)), (6, .int v_51), (10, .int v_17), (9, .int v_17), (8, .int v_13), (7, .int (nI i_1)), (5, .int i_3), (4, .int i_4), (2, .ref (x + (48 + 2 * i_6))), (0, .ref (x + 74)), (1, .int a)]) B dX8_sendPending_195 rfl rfl (Nat.le_of_ble_eq_true rfl) rfl ?_
              refine z_iinc (k := 5) (v := nI (i_1 + 1)) (lv' := [(7, .int (nI (i_1 + 1))), (3, .int (i_5 + 1)), (6, .int v_51), (10, .int v_17), (9, .int v_17), (8, .int v_13), (5, .int i_3), (4, .int i_4), (2, .ref (x + (48 + 2 * i_6))), (0, .ref (x + 74)), (1, .int a)]) B dX8_sendPending_198 rfl (nI_add i_1 1) (Nat.le_of_ble_eq_true rfl) rfl ?_
              refine z_goto (tgt := 28) B dX8_sendPending_201 rfl ?_
              refine z_lv [0, 2, 6, 7, 1, 8, 9, 10] rfl ?_
              exact ih1 (i_1 + 1, v_51, i_3, i_4, i_5 + 1, i_6) Φ24 (show 12 - (i_1 + 1) < 12 - i_1 by omega) ⟨hI25, (fun b9 h9 => ((hF25 b9 (fun j9 h8 h7 => h9 j9 h8 (show 46 ≤ j9 ∧ j9 < 80 by have h6 : j9 = (48 + 2 * i_6) + 1 := h7; omega))).trans ((hF24 b9 (fun j9 h8 h7 => h9 j9 h8 (show 46 ≤ j9 ∧ j9 < 80 by have h6 : j9 = (48 + 2 * i_6) ∨ j9 = (48 + 2 * i_6) + 1 := h7; omega))).trans ((hF23 b9 (fun j9 h8 h7 => (show False from h7).elim)).trans ((hF7 b9 (fun j9 h8 h7 => (show False from h7).elim)).trans ((hF2 b9 h9).trans rfl)))))), (show (i_1 + 1) ≤ 12 by omega), (show i_6 < 13 by omega), trivial⟩
            · refine z_iload B dX8_sendPending_131 2 rfl ?_
              refine z_istore (lv' := [(4, .int v_13), (10, .int v_17), (9, .int v_17), (8, .int v_13), (7, .int (nI i_1)), (6, .int i_2), (5, .int i_3), (3, .int i_5), (2, .ref (x + (48 + 2 * i_6))), (0, .ref (x + 74)), (1, .int a)]) B dX8_sendPending_133 (Nat.le_of_ble_eq_true rfl) rfl ?_
              refine z_aload_n B dX8_sendPending_135 rfl 8 rfl ?_
              have h_58 : Φ22 (x + (48 + 2 * i_6)) = some (o_ 7 [.ref (x + (48 + 2 * i_6 + 1)), .int (nI n_21)]) := ((hF23 (x + (48 + 2 * i_6)) (fun j9 h8 h7 => (show False from h7).elim)).trans h_51)
              refine z_get (ref := "FlowExporter$Message") (C := RX5) (T := TX5) (N := 2) (ci := 7) (v := .int (nI n_21)) B hu_X8_sendPending_X5 rfl 1 (Nat.le_of_ble_eq_true rfl) hv_X8_sendPending_61 rfl h_58 rfl dX8_sendPending_136 ?_
              refine z_istore (lv' := [(5, .int (nI n_21)), (4, .int v_13), (10, .int v_17), (9, .int v_17), (8, .int v_13), (7, .int (nI i_1)), (6, .int i_2), (3, .int i_5), (2, .ref (x + (48 + 2 * i_6))), (0, .ref (x + 74)), (1, .int a)]) B dX8_sendPending_139 (Nat.le_of_ble_eq_true rfl) rfl ?_
              refine z_aload_n B dX8_sendPending_141 rfl 8 rfl ?_
              refine z_sipush (v := 256) B dX8_sendPending_142 rfl ?_
              refine z_iload B dX8_sendPending_145 4 rfl ?_
              refine z_iadd B dX8_sendPending_147 ?_
              refine z_fi (fun v_52 => ?_)
              refine z_i2l (v := v_52.toInt64) B dX8_sendPending_148 rfl ?_
              refine z_fl (fun v_53 => ?_)
              refine z_iconst (v := 2) B dX8_sendPending_149 rfl ?_
              refine z_callV (As := [.long v_53, .int 2]) (rest := []) B (s_X5_put G l Φ22 sz x (ca) (48 + 2 * i_6) v_53 2 hx hI23 (kd_q (show i_6 < 13 by omega)) (show 2 ≤ 8 by omega)) (cwV 2 B.1.2.2.2.2 gX8_sendPending_X5_put rfl rfl rfl (by decide +kernel) ⟨Nat.le_of_ble_eq_true rfl, Nat.le_of_ble_eq_true rfl⟩) h_58 rfl rfl rfl rfl (Nat.le_of_ble_eq_true rfl) dX8_sendPending_150 ⟨Nat.le_of_ble_eq_true rfl, Nat.le_of_ble_eq_true rfl⟩ (fun r_25 Φ25 sz25 st25 hp25 hs25 => ?_)
              obtain ⟨rfl, hq25, hI26, hF26⟩ := hp25
              subst sz25
              replace hs25 : st25 = [] := hs25
              subst st25
              replace hI26 : In G x (ca) Φ25 := hI26
              refine z_aload_n B dX8_sendPending_153 rfl 8 rfl ?_
              refine z_lconst (v := 0) B dX8_sendPending_154 rfl ?_
              refine z_iconst (v := 2) B dX8_sendPending_155 rfl ?_
              obtain ⟨n_24, h_59, b_40⟩ := in1 (k := 48 + 2 * i_6) hI26 (kd_q (show i_6 < 13 by omega))
              replace b_40 : n_24 ≤ cap (48 + 2 * i_6) := b_40
              have b_41 := cap_le (48 + 2 * i_6)
              have h_60 : Φ25 (x + (48 + 2 * i_6)) = some (o_ 7 [.ref (x + (48 + 2 * i_6 + 1)), .int (nI n_24)]) := h_59
              refine z_callV (As := [.long 0, .int 2]) (rest := []) B (s_X5_put G l Φ25 sz x (ca) (48 + 2 * i_6) 0 2 hx hI26 (kd_q (show i_6 < 13 by omega)) (show 2 ≤ 8 by omega)) (cwV 2 B.1.2.2.2.2 gX8_sendPending_X5_put rfl rfl rfl (by decide +kernel) ⟨Nat.le_of_ble_eq_true rfl, Nat.le_of_ble_eq_true rfl⟩) h_60 rfl rfl rfl rfl (Nat.le_of_ble_eq_true rfl) dX8_sendPending_156 ⟨Nat.le_of_ble_eq_true rfl, Nat.le_of_ble_eq_true rfl⟩ (fun r_26 Φ26 sz26 st26 hp26 hs26 => ?_)
              obtain ⟨rfl, hq26, hI27, hF27⟩ := hp26
              subst sz26
              replace hs26 : st26 = [] := hs26
              subst st26
              replace hI27 : In G x (ca) Φ26 := hI27
              refine z_aload_n B dX8_sendPending_159 rfl 8 rfl ?_
              refine z_aload_n B dX8_sendPending_160 rfl 9 rfl ?_
              have h_61 : Φ26 (x + 74) = some (o_ 10 [.ref (x + 3), .ref (x + 46), .ref (x + 75), .ref (x + 77), .int (nI n_2), .ref (x + 78), .ref (x + 79), .int v_4, .long v_5, .int v_6]) := ((hF27 (x + 74) (fun j9 h8 h7 => by have h6 : j9 = (48 + 2 * i_6) ∨ j9 = (48 + 2 * i_6) + 1 := h7; omega)).trans ((hF26 (x + 74) (fun j9 h8 h7 => by have h6 : j9 = (48 + 2 * i_6) ∨ j9 = (48 + 2 * i_6) + 1 := h7; omega)).trans ((hF23 (x + 74) (fun j9 h8 h7 => (show False from h7).elim)).trans h_52)))
              refine z_get (ref := "FlowExporter$Sender") (C := RX8) (T := TX8) (N := 10) (ci := 10) (v := .ref (x + 75)) B hu_X8_sendPending_X8 rfl 2 (Nat.le_of_ble_eq_true rfl) hv_X8_sendPending_14 rfl h_61 rfl dX8_sendPending_161 ?_
              refine z_iload B dX8_sendPending_164 6 rfl ?_
              refine z_iload B dX8_sendPending_166 3 rfl ?_
              obtain ⟨n_25, h_62, b_42⟩ := in1 (k := 48 + 2 * i_6) hI27 (kd_q (show i_6 < 13 by omega))
              replace b_42 : n_25 ≤ cap (48 + 2 * i_6) := b_42
              have b_43 := cap_le (48 + 2 * i_6)
              have h_63 : Φ26 (x + (48 + 2 * i_6)) = some (o_ 7 [.ref (x + (48 + 2 * i_6 + 1)), .int (nI n_25)]) := h_62
              refine z_callV (As := [.ref (x + 75), .int i_2, .int v_17]) (rest := []) B (s_X5_putFrom G l Φ26 sz x (ca) (48 + 2 * i_6) 75 i_2 v_17 hx hI27 (kd_q (show i_6 < 13 by omega)) rfl) (cwV 3 B.1.2.2.2.2 gX8_sendPending_X5_putFrom rfl rfl rfl (by decide +kernel) ⟨Nat.le_of_ble_eq_true rfl, Nat.le_of_ble_eq_true rfl⟩) h_63 rfl rfl rfl rfl (Nat.le_of_ble_eq_true rfl) dX8_sendPending_168 ⟨Nat.le_of_ble_eq_true rfl, Nat.le_of_ble_eq_true rfl⟩ (fun r_27 Φ27 sz27 st27 hp27 hs27 => ?_)
              obtain ⟨rfl, hq27, hI28, hF28⟩ := hp27
              subst sz27
              replace hs27 : st27 = [] := hs27
              subst st27
              replace hI28 : In G x (ca) Φ27 := hI28
              refine z_aload_n B dX8_sendPending_171 rfl 8 rfl ?_
              refine z_iload B dX8_sendPending_172 0 rfl ?_
              refine z_iconst (v := 2) B dX8_sendPending_174 rfl ?_
              refine z_iadd B dX8_sendPending_175 ?_
              refine z_top (st1 := [.int (nI (n_21 + 2)), .ref (x + (48 + 2 * i_6))]) (congrArg (fun w9 : Int32 => ([.int w9, .ref (x + (48 + 2 * i_6))] : List Value)) (nI_add n_21 2)) ?_
              refine z_aload_n B dX8_sendPending_176 rfl 8 rfl ?_
              obtain ⟨n_26, h_64, b_44⟩ := in1 (k := 48 + 2 * i_6) hI28 (kd_q (show i_6 < 13 by omega))
              replace b_44 : n_26 ≤ cap (48 + 2 * i_6) := b_44
              have b_45 := cap_le (48 + 2 * i_6)
              have h_65 : Φ27 (x + (48 + 2 * i_6)) = some (o_ 7 [.ref (x + (48 + 2 * i_6 + 1)), .int (nI n_26)]) := h_64
              refine z_get (ref := "FlowExporter$Message") (C := RX5) (T := TX5) (N := 2) (ci := 7) (v := .int (nI n_26)) B hu_X8_sendPending_X5 rfl 1 (Nat.le_of_ble_eq_true rfl) hv_X8_sendPending_61 rfl h_65 rfl dX8_sendPending_177 ?_
              refine z_iload B dX8_sendPending_180 0 rfl ?_
              refine z_isub B dX8_sendPending_182 ?_
              refine z_fi (fun v_54 => ?_)
              refine z_i2l (v := v_54.toInt64) B dX8_sendPending_183 rfl ?_
              refine z_fl (fun v_55 => ?_)
              refine z_iconst (v := 2) B dX8_sendPending_184 rfl ?_
              refine z_callV (As := [.int (nI (n_21 + 2)), .long v_55, .int 2]) (rest := []) B (s_X5_putAt G l Φ27 sz x (ca) (48 + 2 * i_6) (nI (n_21 + 2)) v_55 2 hx hI28 (kd_q (show i_6 < 13 by omega)) (show 2 ≤ 8 by omega)) (cwV 3 B.1.2.2.2.2 gX8_sendPending_X5_putAt rfl rfl rfl (by decide +kernel) ⟨Nat.le_of_ble_eq_true rfl, Nat.le_of_ble_eq_true rfl⟩) h_65 rfl rfl rfl rfl (Nat.le_of_ble_eq_true rfl) dX8_sendPending_185 ⟨Nat.le_of_ble_eq_true rfl, Nat.le_of_ble_eq_true rfl⟩ (fun r_28 Φ28 sz28 st28 hp28 hs28 => ?_)
              obtain ⟨rfl, hq28, hI29, hF29⟩ := hp28
              subst sz28
              replace hs28 : st28 = [] := hs28
              subst st28
              replace hI29 : In G x (ca) Φ28 := hI29
              refine z_iload B dX8_sendPending_188 6 rfl ?_
              refine z_iload B dX8_sendPending_190 3 rfl ?_
              refine z_iadd B dX8_sendPending_192 ?_
              refine z_fi (fun v_56 => ?_)
              refine z_istore (lv' := [(6, .int v_56), (5, .int (nI n_21)), (4, .int v_13), (10, .int v_17), (9, .int v_17), (8, .int v_13), (7, .int (nI i_1)), (3, .int i_5), (2, .ref (x + (48 + 2 * i_6))), (0, .ref (x + 74)), (1, .int a)]) B dX8_sendPending_193 (Nat.le_of_ble_eq_true rfl) rfl ?_
              refine z_iinc (k := 7) (v := i_5 + 1) (lv' := [(3, .int (i_5 + 1)), (6, .int v_56), (5, .int (nI n_21)), (4, .int v_13), (10, .int v_17), (9, .int v_17), (8, .int v_13), (7, .int (nI i_1)), (2, .ref (x + (48 + 2 * i_6))), (0, .ref (x + 74)), (1, .int a)]) B dX8_sendPending_195 rfl rfl (Nat.le_of_ble_eq_true rfl) rfl ?_
              refine z_iinc (k := 7) (v := nI (i_1 + 1)) (lv' := [(7, .int (nI (i_1 + 1))), (3, .int (i_5 + 1)), (6, .int v_56), (5, .int (nI n_21)), (4, .int v_13), (10, .int v_17), (9, .int v_17), (8, .int v_13), (2, .ref (x + (48 + 2 * i_6))), (0, .ref (x + 74)), (1, .int a)]) B dX8_sendPending_198 rfl (nI_add i_1 1) (Nat.le_of_ble_eq_true rfl) rfl ?_
              refine z_goto (tgt := 28) B dX8_sendPending_201 rfl ?_
              refine z_lv [0, 2, 3, 4, 1, 8, 9, 10] rfl ?_
              exact ih1 (i_1 + 1, v_56, nI n_21, v_13, i_5 + 1, i_6) Φ28 (show 12 - (i_1 + 1) < 12 - i_1 by omega) ⟨hI29, (fun b9 h9 => ((hF29 b9 (fun j9 h8 h7 => h9 j9 h8 (show 46 ≤ j9 ∧ j9 < 80 by have h6 : j9 = (48 + 2 * i_6) + 1 := h7; omega))).trans ((hF28 b9 (fun j9 h8 h7 => h9 j9 h8 (show 46 ≤ j9 ∧ j9 < 80 by have h6 : j9 = (48 + 2 * i_6) ∨ j9 = (48 + 2 * i_6) + 1 := h7; omega))).trans ((hF27 b9 (fun j9 h8 h7 => h9 j9 h8 (show 46 ≤ j9 ∧ j9 < 80 by have h6 : j9 = (48 + 2 * i_6) ∨ j9 = (48 + 2 * i_6) + 1 := h7; omega))).trans ((hF26 b9 (fun j9 h8 h7 => h9 j9 h8 (show 46 ≤ j9 ∧ j9 < 80 by have h6 : j9 = (48 + 2 * i_6) ∨ j9 = (48 + 2 * i_6) + 1 := h7; omega))).trans ((hF23 b9 (fun j9 h8 h7 => (show False from h7).elim)).trans ((hF7 b9 (fun j9 h8 h7 => (show False from h7).elim)).trans ((hF2 b9 h9).trans rfl)))))))), (show (i_1 + 1) ≤ 12 by omega), (show i_6 < 13 by omega), trivial⟩
          · refine z_aload_n B dX8_sendPending_107 rfl 9 rfl ?_
            refine z_aload_n B dX8_sendPending_108 rfl 8 rfl ?_
            refine z_iload_n B dX8_sendPending_109 rfl 7 rfl ?_
            have h_66 : Φ22 (x + 74) = some (o_ 10 [.ref (x + 3), .ref (x + 46), .ref (x + 75), .ref (x + 77), .int (nI n_2), .ref (x + 78), .ref (x + 79), .int v_4, .long v_5, .int v_6]) := ((hF23 (x + 74) (fun j9 h8 h7 => (show False from h7).elim)).trans h_52)
            refine z_callV (As := [.ref (x + (48 + 2 * i_6)), .int i_5]) (rest := []) B (s_X8_endMessage G l Φ22 sz x (ca) (48 + 2 * i_6) i_5 hx hI23 (kd_q (show i_6 < 13 by omega)) (show 48 ≤ (48 + 2 * i_6) by omega) (show (48 + 2 * i_6) < 73 by omega)) (cwV 2 B.1.2.2.2.2 gX8_sendPending_X8_endMessage rfl rfl rfl (by decide +kernel) ⟨Nat.le_of_ble_eq_true rfl, Nat.le_of_ble_eq_true rfl⟩) h_66 rfl rfl rfl rfl (Nat.le_of_ble_eq_true rfl) dX8_sendPending_110 ⟨Nat.le_of_ble_eq_true rfl, Nat.le_of_ble_eq_true rfl⟩ (fun r_29 Φ29 sz29 st29 hp29 hs29 => ?_)
            obtain ⟨rfl, hq29, hI30, hF30⟩ := hp29
            subst sz29
            replace hs29 : st29 = [] := hs29
            subst st29
            replace hI30 : In G x (ca) Φ29 := hI30
            refine z_aload_n B dX8_sendPending_113 rfl 9 rfl ?_
            refine z_iload_n B dX8_sendPending_114 rfl 10 rfl ?_
            obtain ⟨n_27, v_57, v_58, v_59, h_67, b_46⟩ := in13 (k := 74) hI30 rfl
            have h_68 : Φ29 (x + 74) = some (o_ 10 [.ref (x + 3), .ref (x + 46), .ref (x + 75), .ref (x + 77), .int (nI n_27), .ref (x + 78), .ref (x + 79), .int v_57, .long v_58, .int v_59]) := h_67
            refine z_callV (As := [.int a]) (rest := []) B (s_X8_beginMessage G l Φ29 sz x (ca) a hx hI30 ) (cwV 1 B.1.2.2.2.2 gX8_sendPending_X8_beginMessage rfl rfl rfl (by decide +kernel) ⟨Nat.le_of_ble_eq_true rfl, Nat.le_of_ble_eq_true rfl⟩) h_68 rfl rfl rfl rfl (Nat.le_of_ble_eq_true rfl) dX8_sendPending_115 ⟨Nat.le_of_ble_eq_true rfl, Nat.le_of_ble_eq_true rfl⟩ (fun r_30 Φ30 sz30 st30 hp30 hs30 => ?_)
            obtain ⟨⟨m_4, hm_4, rfl⟩, hq30, hI31, hF31⟩ := hp30
            subst sz30
            replace hs30 : st30 = [.ref (x + (48 + 2 * m_4))] := hs30
            subst st30
            replace hI31 : In G x (ca) Φ30 := hI31
            replace hm_4 : m_4 < 13 := hm_4
            refine z_astore_n (lv' := [(2, .ref (x + (48 + 2 * m_4))), (10, .int v_17), (9, .int v_17), (8, .int v_13), (7, .int (nI i_1)), (6, .int i_2), (5, .int i_3), (4, .int i_4), (3, .int i_5), (0, .ref (x + 74)), (1, .int a)]) B dX8_sendPending_118 rfl (Nat.le_of_ble_eq_true rfl) rfl ?_
            refine z_iconst (v := 0) B dX8_sendPending_119 rfl ?_
            refine z_istore_n (lv' := [(3, .int 0), (2, .ref (x + (48 + 2 * m_4))), (10, .int v_17), (9, .int v_17), (8, .int v_13), (7, .int (nI i_1)), (6, .int i_2), (5, .int i_3), (4, .int i_4), (0, .ref (x + 74)), (1, .int a)]) B dX8_sendPending_120 rfl (Nat.le_of_ble_eq_true rfl) rfl ?_
            refine z_iconst (v := (-1)) B dX8_sendPending_121 rfl ?_
            refine z_istore (lv' := [(4, .int (-1)), (3, .int 0), (2, .ref (x + (48 + 2 * m_4))), (10, .int v_17), (9, .int v_17), (8, .int v_13), (7, .int (nI i_1)), (6, .int i_2), (5, .int i_3), (0, .ref (x + 74)), (1, .int a)]) B dX8_sendPending_122 (Nat.le_of_ble_eq_true rfl) rfl ?_
            refine z_iload B dX8_sendPending_124 5 rfl ?_
            refine z_iload B dX8_sendPending_126 0 rfl ?_
            refine z_icmp_eq (tgt := 159) B dX8_sendPending_128 rfl (fun c_10 => ?_) (fun c_10 => ?_)
            · refine z_aload_n B dX8_sendPending_159 rfl 2 rfl ?_
              refine z_aload_n B dX8_sendPending_160 rfl 9 rfl ?_
              obtain ⟨n_28, v_60, v_61, v_62, h_69, b_47⟩ := in13 (k := 74) hI31 rfl
              have h_70 : Φ30 (x + 74) = some (o_ 10 [.ref (x + 3), .ref (x + 46), .ref (x + 75), .ref (x + 77), .int (nI n_28), .ref (x + 78), .ref (x + 79), .int v_60, .long v_61, .int v_62]) := h_69
              refine z_get (ref := "FlowExporter$Sender") (C := RX8) (T := TX8) (N := 10) (ci := 10) (v := .ref (x + 75)) B hu_X8_sendPending_X8 rfl 2 (Nat.le_of_ble_eq_true rfl) hv_X8_sendPending_14 rfl h_70 rfl dX8_sendPending_161 ?_
              refine z_iload B dX8_sendPending_164 7 rfl ?_
              refine z_iload B dX8_sendPending_166 4 rfl ?_
              obtain ⟨n_29, h_71, b_48⟩ := in1 (k := 48 + 2 * m_4) hI31 (kd_q hm_4)
              replace b_48 : n_29 ≤ cap (48 + 2 * m_4) := b_48
              have b_49 := cap_le (48 + 2 * m_4)
              have h_72 : Φ30 (x + (48 + 2 * m_4)) = some (o_ 7 [.ref (x + (48 + 2 * m_4 + 1)), .int (nI n_29)]) := h_71
              refine z_callV (As := [.ref (x + 75), .int i_2, .int v_17]) (rest := []) B (s_X5_putFrom G l Φ30 sz x (ca) (48 + 2 * m_4) 75 i_2 v_17 hx hI31 (kd_q hm_4) rfl) (cwV 3 B.1.2.2.2.2 gX8_sendPending_X5_putFrom rfl rfl rfl (by decide +kernel) ⟨Nat.le_of_ble_eq_true rfl, Nat.le_of_ble_eq_true rfl⟩) h_72 rfl rfl rfl rfl (Nat.le_of_ble_eq_true rfl) dX8_sendPending_168 ⟨Nat.le_of_ble_eq_true rfl, Nat.le_of_ble_eq_true rfl⟩ (fun r_31 Φ31 sz31 st31 hp31 hs31 => ?_)
              obtain ⟨rfl, hq31, hI32, hF32⟩ := hp31
              subst sz31
              replace hs31 : st31 = [] := hs31
              subst st31
              replace hI32 : In G x (ca) Φ31 := hI32
              refine z_aload_n B dX8_sendPending_171 rfl 2 rfl ?_
              refine z_iload B dX8_sendPending_172 8 rfl ?_
              refine z_iconst (v := 2) B dX8_sendPending_174 rfl ?_
              refine z_iadd B dX8_sendPending_175 ?_
              refine z_fi (fun v_63 => ?_)
              refine z_aload_n B dX8_sendPending_176 rfl 2 rfl ?_
              obtain ⟨n_30, h_73, b_50⟩ := in1 (k := 48 + 2 * m_4) hI32 (kd_q hm_4)
              replace b_50 : n_30 ≤ cap (48 + 2 * m_4) := b_50
              have b_51 := cap_le (48 + 2 * m_4)
              have h_74 : Φ31 (x + (48 + 2 * m_4)) = some (o_ 7 [.ref (x + (48 + 2 * m_4 + 1)), .int (nI n_30)]) := h_73
              refine z_get (ref := "FlowExporter$Message") (C := RX5) (T := TX5) (N := 2) (ci := 7) (v := .int (nI n_30)) B hu_X8_sendPending_X5 rfl 1 (Nat.le_of_ble_eq_true rfl) hv_X8_sendPending_61 rfl h_74 rfl dX8_sendPending_177 ?_
              refine z_iload B dX8_sendPending_180 8 rfl ?_
              refine z_isub B dX8_sendPending_182 ?_
              refine z_fi (fun v_64 => ?_)
              refine z_i2l (v := v_64.toInt64) B dX8_sendPending_183 rfl ?_
              refine z_fl (fun v_65 => ?_)
              refine z_iconst (v := 2) B dX8_sendPending_184 rfl ?_
              refine z_callV (As := [.int v_63, .long v_65, .int 2]) (rest := []) B (s_X5_putAt G l Φ31 sz x (ca) (48 + 2 * m_4) v_63 v_65 2 hx hI32 (kd_q hm_4) (show 2 ≤ 8 by omega)) (cwV 3 B.1.2.2.2.2 gX8_sendPending_X5_putAt rfl rfl rfl (by decide +kernel) ⟨Nat.le_of_ble_eq_true rfl, Nat.le_of_ble_eq_true rfl⟩) h_74 rfl rfl rfl rfl (Nat.le_of_ble_eq_true rfl) dX8_sendPending_185 ⟨Nat.le_of_ble_eq_true rfl, Nat.le_of_ble_eq_true rfl⟩ (fun r_32 Φ32 sz32 st32 hp32 hs32 => ?_)
              obtain ⟨rfl, hq32, hI33, hF33⟩ := hp32
              subst sz32
              replace hs32 : st32 = [] := hs32
              subst st32
              replace hI33 : In G x (ca) Φ32 := hI33
              refine z_iload B dX8_sendPending_188 7 rfl ?_
              refine z_iload B dX8_sendPending_190 4 rfl ?_
              refine z_iadd B dX8_sendPending_192 ?_
              refine z_fi (fun v_66 => ?_)
              refine z_istore (lv' := [(6, .int v_66), (4, .int (-1)), (3, .int 0), (2, .ref (x + (48 + 2 * m_4))), (10, .int v_17), (9, .int v_17), (8, .int v_13), (7, .int (nI i_1)), (5, .int i_3), (0, .ref (x + 74)), (1, .int a)]) B dX8_sendPending_193 (Nat.le_of_ble_eq_true rfl) rfl ?_
              refine z_iinc (k := 2) (v := 1) (lv' := [(3, .int 1), (6, .int v_66), (4, .int (-1)), (2, .ref (x + (48 + 2 * m_4))), (10, .int v_17), (9, .int v_17), (8, .int v_13), (7, .int (nI i_1)), (5, .int i_3), (0, .ref (x + 74)), (1, .int a)]) B dX8_sendPending_195 rfl rfl (Nat.le_of_ble_eq_true rfl) rfl ?_
              refine z_iinc (k := 7) (v := nI (i_1 + 1)) (lv' := [(7, .int (nI (i_1 + 1))), (3, .int 1), (6, .int v_66), (4, .int (-1)), (2, .ref (x + (48 + 2 * m_4))), (10, .int v_17), (9, .int v_17), (8, .int v_13), (5, .int i_3), (0, .ref (x + 74)), (1, .int a)]) B dX8_sendPending_198 rfl (nI_add i_1 1) (Nat.le_of_ble_eq_true rfl) rfl ?_
              refine z_goto (tgt := 28) B dX8_sendPending_201 rfl ?_
              refine z_lv [0, 2, 8, 3, 1, 4, 9, 10] rfl ?_
              exact ih1 (i_1 + 1, v_66, i_3, (-1), 1, m_4) Φ32 (show 12 - (i_1 + 1) < 12 - i_1 by omega) ⟨hI33, (fun b9 h9 => ((hF33 b9 (fun j9 h8 h7 => h9 j9 h8 (show 46 ≤ j9 ∧ j9 < 80 by have h6 : j9 = (48 + 2 * m_4) + 1 := h7; omega))).trans ((hF32 b9 (fun j9 h8 h7 => h9 j9 h8 (show 46 ≤ j9 ∧ j9 < 80 by have h6 : j9 = (48 + 2 * m_4) ∨ j9 = (48 + 2 * m_4) + 1 := h7; omega))).trans ((hF31 b9 (fun j9 h8 h7 => h9 j9 h8 (fq_175 j9 h7))).trans ((hF30 b9 h9).trans ((hF23 b9 (fun j9 h8 h7 => (show False from h7).elim)).trans ((hF7 b9 (fun j9 h8 h7 => (show False from h7).elim)).trans ((hF2 b9 h9).trans rfl)))))))), (show (i_1 + 1) ≤ 12 by omega), (show m_4 < 13 by omega), trivial⟩
            · refine z_iload B dX8_sendPending_131 5 rfl ?_
              refine z_istore (lv' := [(4, .int v_13), (3, .int 0), (2, .ref (x + (48 + 2 * m_4))), (10, .int v_17), (9, .int v_17), (8, .int v_13), (7, .int (nI i_1)), (6, .int i_2), (5, .int i_3), (0, .ref (x + 74)), (1, .int a)]) B dX8_sendPending_133 (Nat.le_of_ble_eq_true rfl) rfl ?_
              refine z_aload_n B dX8_sendPending_135 rfl 2 rfl ?_
              obtain ⟨n_31, h_75, b_52⟩ := in1 (k := 48 + 2 * m_4) hI31 (kd_q hm_4)
              replace b_52 : n_31 ≤ cap (48 + 2 * m_4) := b_52
              have b_53 := cap_le (48 + 2 * m_4)
              have h_76 : Φ30 (x + (48 + 2 * m_4)) = some (o_ 7 [.ref (x + (48 + 2 * m_4 + 1)), .int (nI n_31)]) := h_75
              refine z_get (ref := "FlowExporter$Message") (C := RX5) (T := TX5) (N := 2) (ci := 7) (v := .int (nI n_31)) B hu_X8_sendPending_X5 rfl 1 (Nat.le_of_ble_eq_true rfl) hv_X8_sendPending_61 rfl h_76 rfl dX8_sendPending_136 ?_
              refine z_istore (lv' := [(5, .int (nI n_31)), (4, .int v_13), (3, .int 0), (2, .ref (x + (48 + 2 * m_4))), (10, .int v_17), (9, .int v_17), (8, .int v_13), (7, .int (nI i_1)), (6, .int i_2), (0, .ref (x + 74)), (1, .int a)]) B dX8_sendPending_139 (Nat.le_of_ble_eq_true rfl) rfl ?_
              refine z_aload_n B dX8_sendPending_141 rfl 3 rfl ?_
              refine z_sipush (v := 256) B dX8_sendPending_142 rfl ?_
              refine z_iload B dX8_sendPending_145 6 rfl ?_
              refine z_iadd B dX8_sendPending_147 ?_
              refine z_fi (fun v_67 => ?_)
              refine z_i2l (v := v_67.toInt64) B dX8_sendPending_148 rfl ?_
              refine z_fl (fun v_68 => ?_)
              refine z_iconst (v := 2) B dX8_sendPending_149 rfl ?_
              refine z_callV (As := [.long v_68, .int 2]) (rest := []) B (s_X5_put G l Φ30 sz x (ca) (48 + 2 * m_4) v_68 2 hx hI31 (kd_q hm_4) (show 2 ≤ 8 by omega)) (cwV 2 B.1.2.2.2.2 gX8_sendPending_X5_put rfl rfl rfl (by decide +kernel) ⟨Nat.le_of_ble_eq_true rfl, Nat.le_of_ble_eq_true rfl⟩) h_76 rfl rfl rfl rfl (Nat.le_of_ble_eq_true rfl) dX8_sendPending_150 ⟨Nat.le_of_ble_eq_true rfl, Nat.le_of_ble_eq_true rfl⟩ (fun r_33 Φ33 sz33 st33 hp33 hs33 => ?_)
              obtain ⟨rfl, hq33, hI34, hF34⟩ := hp33
              subst sz33
              replace hs33 : st33 = [] := hs33
              subst st33
              replace hI34 : In G x (ca) Φ33 := hI34
              refine z_aload_n B dX8_sendPending_153 rfl 3 rfl ?_
              refine z_lconst (v := 0) B dX8_sendPending_154 rfl ?_
              refine z_iconst (v := 2) B dX8_sendPending_155 rfl ?_
              obtain ⟨n_32, h_77, b_54⟩ := in1 (k := 48 + 2 * m_4) hI34 (kd_q hm_4)
              replace b_54 : n_32 ≤ cap (48 + 2 * m_4) := b_54
              have b_55 := cap_le (48 + 2 * m_4)
              have h_78 : Φ33 (x + (48 + 2 * m_4)) = some (o_ 7 [.ref (x + (48 + 2 * m_4 + 1)), .int (nI n_32)]) := h_77
              refine z_callV (As := [.long 0, .int 2]) (rest := []) B (s_X5_put G l Φ33 sz x (ca) (48 + 2 * m_4) 0 2 hx hI34 (kd_q hm_4) (show 2 ≤ 8 by omega)) (cwV 2 B.1.2.2.2.2 gX8_sendPending_X5_put rfl rfl rfl (by decide +kernel) ⟨Nat.le_of_ble_eq_true rfl, Nat.le_of_ble_eq_true rfl⟩) h_78 rfl rfl rfl rfl (Nat.le_of_ble_eq_true rfl) dX8_sendPending_156 ⟨Nat.le_of_ble_eq_true rfl, Nat.le_of_ble_eq_true rfl⟩ (fun r_34 Φ34 sz34 st34 hp34 hs34 => ?_)
              obtain ⟨rfl, hq34, hI35, hF35⟩ := hp34
              subst sz34
              replace hs34 : st34 = [] := hs34
              subst st34
              replace hI35 : In G x (ca) Φ34 := hI35
              refine z_aload_n B dX8_sendPending_159 rfl 3 rfl ?_
              refine z_aload_n B dX8_sendPending_160 rfl 9 rfl ?_
              obtain ⟨n_33, v_69, v_70, v_71, h_79, b_56⟩ := in13 (k := 74) hI35 rfl
              have h_80 : Φ34 (x + 74) = some (o_ 10 [.ref (x + 3), .ref (x + 46), .ref (x + 75), .ref (x + 77), .int (nI n_33), .ref (x + 78), .ref (x + 79), .int v_69, .long v_70, .int v_71]) := h_79
              refine z_get (ref := "FlowExporter$Sender") (C := RX8) (T := TX8) (N := 10) (ci := 10) (v := .ref (x + 75)) B hu_X8_sendPending_X8 rfl 2 (Nat.le_of_ble_eq_true rfl) hv_X8_sendPending_14 rfl h_80 rfl dX8_sendPending_161 ?_
              refine z_iload B dX8_sendPending_164 8 rfl ?_
              refine z_iload B dX8_sendPending_166 5 rfl ?_
              obtain ⟨n_34, h_81, b_57⟩ := in1 (k := 48 + 2 * m_4) hI35 (kd_q hm_4)
              replace b_57 : n_34 ≤ cap (48 + 2 * m_4) := b_57
              have b_58 := cap_le (48 + 2 * m_4)
              have h_82 : Φ34 (x + (48 + 2 * m_4)) = some (o_ 7 [.ref (x + (48 + 2 * m_4 + 1)), .int (nI n_34)]) := h_81
              refine z_callV (As := [.ref (x + 75), .int i_2, .int v_17]) (rest := []) B (s_X5_putFrom G l Φ34 sz x (ca) (48 + 2 * m_4) 75 i_2 v_17 hx hI35 (kd_q hm_4) rfl) (cwV 3 B.1.2.2.2.2 gX8_sendPending_X5_putFrom rfl rfl rfl (by decide +kernel) ⟨Nat.le_of_ble_eq_true rfl, Nat.le_of_ble_eq_true rfl⟩) h_82 rfl rfl rfl rfl (Nat.le_of_ble_eq_true rfl) dX8_sendPending_168 ⟨Nat.le_of_ble_eq_true rfl, Nat.le_of_ble_eq_true rfl⟩ (fun r_35 Φ35 sz35 st35 hp35 hs35 => ?_)
              obtain ⟨rfl, hq35, hI36, hF36⟩ := hp35
              subst sz35
              replace hs35 : st35 = [] := hs35
              subst st35
              replace hI36 : In G x (ca) Φ35 := hI36
              refine z_aload_n B dX8_sendPending_171 rfl 3 rfl ?_
              refine z_iload B dX8_sendPending_172 0 rfl ?_
              refine z_iconst (v := 2) B dX8_sendPending_174 rfl ?_
              refine z_iadd B dX8_sendPending_175 ?_
              refine z_top (st1 := [.int (nI (n_31 + 2)), .ref (x + (48 + 2 * m_4))]) (congrArg (fun w9 : Int32 => ([.int w9, .ref (x + (48 + 2 * m_4))] : List Value)) (nI_add n_31 2)) ?_
              refine z_aload_n B dX8_sendPending_176 rfl 3 rfl ?_
              obtain ⟨n_35, h_83, b_59⟩ := in1 (k := 48 + 2 * m_4) hI36 (kd_q hm_4)
              replace b_59 : n_35 ≤ cap (48 + 2 * m_4) := b_59
              have b_60 := cap_le (48 + 2 * m_4)
              have h_84 : Φ35 (x + (48 + 2 * m_4)) = some (o_ 7 [.ref (x + (48 + 2 * m_4 + 1)), .int (nI n_35)]) := h_83
              refine z_get (ref := "FlowExporter$Message") (C := RX5) (T := TX5) (N := 2) (ci := 7) (v := .int (nI n_35)) B hu_X8_sendPending_X5 rfl 1 (Nat.le_of_ble_eq_true rfl) hv_X8_sendPending_61 rfl h_84 rfl dX8_sendPending_177 ?_
              refine z_iload B dX8_sendPending_180 0 rfl ?_
              refine z_isub B dX8_sendPending_182 ?_
              refine z_fi (fun v_72 => ?_)
              refine z_i2l (v := v_72.toInt64) B dX8_sendPending_183 rfl ?_
              refine z_fl (fun v_73 => ?_)
              refine z_iconst (v := 2) B dX8_sendPending_184 rfl ?_
              refine z_callV (As := [.int (nI (n_31 + 2)), .long v_73, .int 2]) (rest := []) B (s_X5_putAt G l Φ35 sz x (ca) (48 + 2 * m_4) (nI (n_31 + 2)) v_73 2 hx hI36 (kd_q hm_4) (show 2 ≤ 8 by omega)) (cwV 3 B.1.2.2.2.2 gX8_sendPending_X5_putAt rfl rfl rfl (by decide +kernel) ⟨Nat.le_of_ble_eq_true rfl, Nat.le_of_ble_eq_true rfl⟩) h_84 rfl rfl rfl rfl (Nat.le_of_ble_eq_true rfl) dX8_sendPending_185 ⟨Nat.le_of_ble_eq_true rfl, Nat.le_of_ble_eq_true rfl⟩ (fun r_36 Φ36 sz36 st36 hp36 hs36 => ?_)
              obtain ⟨rfl, hq36, hI37, hF37⟩ := hp36
              subst sz36
              replace hs36 : st36 = [] := hs36
              subst st36
              replace hI37 : In G x (ca) Φ36 := hI37
              refine z_iload B dX8_sendPending_188 8 rfl ?_
              refine z_iload B dX8_sendPending_190 5 rfl ?_
              refine z_iadd B dX8_sendPending_192 ?_
              refine z_fi (fun v_74 => ?_)
              refine z_istore (lv' := [(6, .int v_74), (5, .int (nI n_31)), (4, .int v_13), (3, .int 0), (2, .ref (x + (48 + 2 * m_4))), (10, .int v_17), (9, .int v_17), (8, .int v_13), (7, .int (nI i_1)), (0, .ref (x + 74)), (1, .int a)]) B dX8_sendPending_193 (Nat.le_of_ble_eq_true rfl) rfl ?_
              refine z_iinc (k := 3) (v := 1) (lv' := [(3, .int 1), (6, .int v_74), (5, .int (nI n_31)), (4, .int v_13), (2, .ref (x + (48 + 2 * m_4))), (10, .int v_17), (9, .int v_17), (8, .int v_13), (7, .int (nI i_1)), (0, .ref (x + 74)), (1, .int a)]) B dX8_sendPending_195 rfl rfl (Nat.le_of_ble_eq_true rfl) rfl ?_
              refine z_iinc (k := 8) (v := nI (i_1 + 1)) (lv' := [(7, .int (nI (i_1 + 1))), (3, .int 1), (6, .int v_74), (5, .int (nI n_31)), (4, .int v_13), (2, .ref (x + (48 + 2 * m_4))), (10, .int v_17), (9, .int v_17), (8, .int v_13), (0, .ref (x + 74)), (1, .int a)]) B dX8_sendPending_198 rfl (nI_add i_1 1) (Nat.le_of_ble_eq_true rfl) rfl ?_
              refine z_goto (tgt := 28) B dX8_sendPending_201 rfl ?_
              refine z_lv [0, 2, 3, 4, 1, 5, 9, 10] rfl ?_
              exact ih1 (i_1 + 1, v_74, nI n_31, v_13, 1, m_4) Φ36 (show 12 - (i_1 + 1) < 12 - i_1 by omega) ⟨hI37, (fun b9 h9 => ((hF37 b9 (fun j9 h8 h7 => h9 j9 h8 (show 46 ≤ j9 ∧ j9 < 80 by have h6 : j9 = (48 + 2 * m_4) + 1 := h7; omega))).trans ((hF36 b9 (fun j9 h8 h7 => h9 j9 h8 (show 46 ≤ j9 ∧ j9 < 80 by have h6 : j9 = (48 + 2 * m_4) ∨ j9 = (48 + 2 * m_4) + 1 := h7; omega))).trans ((hF35 b9 (fun j9 h8 h7 => h9 j9 h8 (show 46 ≤ j9 ∧ j9 < 80 by have h6 : j9 = (48 + 2 * m_4) ∨ j9 = (48 + 2 * m_4) + 1 := h7; omega))).trans ((hF34 b9 (fun j9 h8 h7 => h9 j9 h8 (show 46 ≤ j9 ∧ j9 < 80 by have h6 : j9 = (48 + 2 * m_4) ∨ j9 = (48 + 2 * m_4) + 1 := h7; omega))).trans ((hF31 b9 (fun j9 h8 h7 => h9 j9 h8 (fq_175 j9 h7))).trans ((hF30 b9 h9).trans ((hF23 b9 (fun j9 h8 h7 => (show False from h7).elim)).trans ((hF7 b9 (fun j9 h8 h7 => (show False from h7).elim)).trans ((hF2 b9 h9).trans rfl)))))))))), (show (i_1 + 1) ≤ 12 by omega), (show m_4 < 13 by omega), trivial⟩
  · have e_6 : n_1 = 0 := (nI_eq (a := n_1) (b := 0) (by omega) (by omega)).mp c_1
    exact z_ret_v B dX8_sendPending_7 ⟨rfl, rfl, hI, (fun b9 h9 => rfl)⟩

theorem hu_X2_clear_X2 : ∀ w ∈ u_ws RX2 TX2 13, w ∈ wsX2_clear := fun _ h => List.mem_cons_of_mem _ (List.mem_append_left _ (List.mem_append_left _ (List.mem_append_left _ (List.mem_append_right _ (h)))))

theorem hv_X2_clear_14 : Cond.fieldLink RX2 14 "FlowExporter$Exporter" (TX2 2).2.1 (TX2 2).2.2.1 ∈ wsX2_clear := List.mem_cons_of_mem _ (List.mem_append_left _ (List.mem_append_left _ (List.mem_append_left _ (List.mem_append_left _ (List.mem_of_getElem? (i := 0) rfl)))))

theorem hu_X2_clear_X4 : ∀ w ∈ u_ws RX4 TX4 2, w ∈ wsX2_clear := fun _ h => List.mem_cons_of_mem _ (List.mem_append_left _ (List.mem_append_left _ (List.mem_append_right _ (h))))

theorem hv_X2_clear_61 : Cond.fieldLink RX2 61 "FlowExporter$FlowTable" (TX4 1).2.1 (TX4 1).2.2.1 ∈ wsX2_clear := List.mem_cons_of_mem _ (List.mem_append_left _ (List.mem_append_left _ (List.mem_append_left _ (List.mem_append_left _ (List.mem_of_getElem? (i := 1) rfl)))))

theorem hv_X2_clear_20 : Cond.fieldLink RX2 20 "FlowExporter$Exporter" (TX2 3).2.1 (TX2 3).2.2.1 ∈ wsX2_clear := List.mem_cons_of_mem _ (List.mem_append_left _ (List.mem_append_left _ (List.mem_append_left _ (List.mem_append_left _ (List.mem_of_getElem? (i := 2) rfl)))))

theorem hv_X2_clear_23 : Cond.fieldLink RX2 23 "FlowExporter$Exporter" (TX2 4).2.1 (TX2 4).2.2.1 ∈ wsX2_clear := List.mem_cons_of_mem _ (List.mem_append_left _ (List.mem_append_left _ (List.mem_append_left _ (List.mem_append_left _ (List.mem_of_getElem? (i := 3) rfl)))))

theorem hv_X2_clear_53 : Cond.fieldLink RX2 53 "FlowExporter$Exporter" (TX2 0).2.1 (TX2 0).2.2.1 ∈ wsX2_clear := List.mem_cons_of_mem _ (List.mem_append_left _ (List.mem_append_left _ (List.mem_append_left _ (List.mem_append_left _ (List.mem_of_getElem? (i := 4) rfl)))))

theorem hv_X2_clear_27 : Cond.fieldLink RX2 27 "FlowExporter$Exporter" (TX2 5).2.1 (TX2 5).2.2.1 ∈ wsX2_clear := List.mem_cons_of_mem _ (List.mem_append_left _ (List.mem_append_left _ (List.mem_append_left _ (List.mem_append_left _ (List.mem_of_getElem? (i := 5) rfl)))))

set_option maxRecDepth 20000 in
theorem ggX0_clear_J7_fill_d0a16 : GoodIn wsX0_clear wsJ7_fill_d0a16 := (goodIn_r _ [5] rfl (by decide +kernel))
set_option maxRecDepth 20000 in
theorem gX0_clear_J7_fill_d0a16 : GoodIn wsX0_clear (va_wsS RX0 57 yJ7_fill_d0a16 wsJ7_fill_d0a16) := goodIn_app (goodIn_m (mem_cA (List.mem_cons_of_mem _ (List.mem_append_left _ (List.mem_append_left _ (List.mem_of_getElem? (i := 1) rfl)))) (mem_cA (List.mem_cons_of_mem _ (List.mem_append_left _ (List.mem_append_left _ (List.mem_of_getElem? (i := 2) rfl)))) (mem_cA (List.mem_cons_of_mem _ (List.mem_append_left _ (List.mem_append_left _ (List.mem_of_getElem? (i := 3) rfl)))) mem_cZ))) (by decide +kernel)) ggX0_clear_J7_fill_d0a16
set_option maxRecDepth 20000 in
theorem ggX0_clear_X0_restart : GoodIn wsX0_clear wsX0_restart := (goodIn_ca (goodIn_ca (goodIn_r _ [10, 11, 12, 13, 14, 15, 16, 17, 18, 19, 20, 21] rfl (by decide +kernel)) (goodIn_sub (fun _ h => List.mem_cons_of_mem _ (List.mem_append_left _ (List.mem_append_right _ h))) gw_wsX00)) (goodIn_sub (fun _ h => List.mem_cons_of_mem _ (List.mem_append_right _ h)) gw_wsX100))
set_option maxRecDepth 20000 in
theorem gX0_clear_X0_restart : GoodIn wsX0_clear (wsV RX0 63 RX0 yX0_restart wsX0_restart) := goodIn_app (goodIn_m (mem_cA (List.mem_cons_of_mem _ (List.mem_append_left _ (List.mem_append_left _ (List.mem_of_getElem? (i := 5) rfl)))) (mem_cA (List.mem_cons_of_mem _ (List.mem_append_left _ (List.mem_append_left _ (List.mem_of_getElem? (i := 6) rfl)))) (mem_cA (List.mem_cons_of_mem _ (List.mem_append_left _ (List.mem_append_left _ (List.mem_of_getElem? (i := 7) rfl)))) (mem_cA (List.mem_cons_of_mem _ (List.mem_append_left _ (List.mem_append_left _ (List.mem_of_getElem? (i := 8) rfl)))) mem_cZ)))) (by decide +kernel)) ggX0_clear_X0_restart
theorem dX0_clear_0 : decode cX0_clear 0 = .ok (.aload_n 0, 1) := by decide +kernel
theorem dX0_clear_1 : decode cX0_clear 1 = .ok (.getfield 32, 3) := by decide +kernel
theorem dX0_clear_4 : decode cX0_clear 4 = .ok (.lconst 0, 1) := by decide +kernel
theorem dX0_clear_5 : decode cX0_clear 5 = .ok (.invokestatic 57, 3) := by decide +kernel
theorem dX0_clear_8 : decode cX0_clear 8 = .ok (.aload_n 0, 1) := by decide +kernel
theorem dX0_clear_9 : decode cX0_clear 9 = .ok (.invokevirtual 63, 3) := by decide +kernel
theorem dX0_clear_12 : decode cX0_clear 12 = .ok (.pop, 1) := by decide +kernel
theorem dX0_clear_13 : decode cX0_clear 13 = .ok (.return_, 1) := by decide +kernel
set_option maxRecDepth 20000 in
theorem ggX0_restart_X10_clear : GoodIn wsX0_restart wsX10_clear := (goodIn_ca (goodIn_r _ [8, 9, 10, 11] rfl (by decide +kernel)) (goodIn_sub (fun _ h => List.mem_cons_of_mem _ (List.mem_append_right _ h)) gw_wsX100))
set_option maxRecDepth 20000 in
theorem gX0_restart_X10_clear : GoodIn wsX0_restart (wsV RX0 70 RX10 yX10_clear wsX10_clear) := goodIn_app (goodIn_m (mem_cA (List.mem_cons_of_mem _ (List.mem_append_left _ (List.mem_append_left _ (List.mem_of_getElem? (i := 3) rfl)))) (mem_cA (List.mem_cons_of_mem _ (List.mem_append_left _ (List.mem_append_left _ (List.mem_of_getElem? (i := 4) rfl)))) (mem_cA (List.mem_cons_of_mem _ (List.mem_append_left _ (List.mem_append_left _ (List.mem_of_getElem? (i := 5) rfl)))) (mem_cA (List.mem_cons_of_mem _ (List.mem_append_left _ (List.mem_append_left _ (List.mem_of_getElem? (i := 6) rfl)))) mem_cZ)))) (by decide +kernel)) ggX0_restart_X10_clear
theorem dX0_restart_0 : decode cX0_restart 0 = .ok (.iconst 0, 1) := by decide +kernel
theorem dX0_restart_1 : decode cX0_restart 1 = .ok (.istore_n 1, 1) := by decide +kernel
theorem dX0_restart_2 : decode cX0_restart 2 = .ok (.iconst 0, 1) := by decide +kernel
theorem dX0_restart_3 : decode cX0_restart 3 = .ok (.istore_n 2, 1) := by decide +kernel
theorem dX0_restart_4 : decode cX0_restart 4 = .ok (.iload_n 2, 1) := by decide +kernel
theorem dX0_restart_5 : decode cX0_restart 5 = .ok (.iconst 4, 1) := by decide +kernel
theorem dX0_restart_6 : decode cX0_restart 6 = .ok (.if_icmp .ge 33, 3) := by decide +kernel
theorem dX0_restart_9 : decode cX0_restart 9 = .ok (.aload_n 0, 1) := by decide +kernel
theorem dX0_restart_10 : decode cX0_restart 10 = .ok (.getfield 11, 3) := by decide +kernel
theorem dX0_restart_13 : decode cX0_restart 13 = .ok (.iload_n 2, 1) := by decide +kernel
theorem dX0_restart_14 : decode cX0_restart 14 = .ok (.aaload, 1) := by decide +kernel
theorem dX0_restart_15 : decode cX0_restart 15 = .ok (.getfield 67, 3) := by decide +kernel
theorem dX0_restart_18 : decode cX0_restart 18 = .ok (.ifCond .le 6, 3) := by decide +kernel
theorem dX0_restart_21 : decode cX0_restart 21 = .ok (.iinc 1 1, 3) := by decide +kernel
theorem dX0_restart_24 : decode cX0_restart 24 = .ok (.aload_n 0, 1) := by decide +kernel
theorem dX0_restart_25 : decode cX0_restart 25 = .ok (.getfield 11, 3) := by decide +kernel
theorem dX0_restart_28 : decode cX0_restart 28 = .ok (.iload_n 2, 1) := by decide +kernel
theorem dX0_restart_29 : decode cX0_restart 29 = .ok (.aaload, 1) := by decide +kernel
theorem dX0_restart_30 : decode cX0_restart 30 = .ok (.invokevirtual 70, 3) := by decide +kernel
theorem dX0_restart_33 : decode cX0_restart 33 = .ok (.iinc 2 1, 3) := by decide +kernel
theorem dX0_restart_36 : decode cX0_restart 36 = .ok (.goto (-32), 3) := by decide +kernel
theorem dX0_restart_39 : decode cX0_restart 39 = .ok (.aload_n 0, 1) := by decide +kernel
theorem dX0_restart_40 : decode cX0_restart 40 = .ok (.iconst 0, 1) := by decide +kernel
theorem dX0_restart_41 : decode cX0_restart 41 = .ok (.putfield 39, 3) := by decide +kernel
theorem dX0_restart_44 : decode cX0_restart 44 = .ok (.iload_n 1, 1) := by decide +kernel
theorem dX0_restart_45 : decode cX0_restart 45 = .ok (.ireturn, 1) := by decide +kernel
theorem dX0_hasStarted_0 : decode cX0_hasStarted 0 = .ok (.aload_n 0, 1) := by decide +kernel
theorem dX0_hasStarted_1 : decode cX0_hasStarted 1 = .ok (.getfield 39, 3) := by decide +kernel
theorem dX0_hasStarted_4 : decode cX0_hasStarted 4 = .ok (.ifCond .le 7, 3) := by decide +kernel
theorem dX0_hasStarted_7 : decode cX0_hasStarted 7 = .ok (.iconst 1, 1) := by decide +kernel
theorem dX0_hasStarted_8 : decode cX0_hasStarted 8 = .ok (.goto 4, 3) := by decide +kernel
theorem dX0_hasStarted_11 : decode cX0_hasStarted 11 = .ok (.iconst 0, 1) := by decide +kernel
theorem dX0_hasStarted_12 : decode cX0_hasStarted 12 = .ok (.ireturn, 1) := by decide +kernel
theorem dX0_ageOf_0 : decode cX0_ageOf 0 = .ok (.iload_n 1, 1) := by decide +kernel
theorem dX0_ageOf_1 : decode cX0_ageOf 1 = .ok (.ifCond .lt 20, 3) := by decide +kernel
theorem dX0_ageOf_4 : decode cX0_ageOf 4 = .ok (.iload_n 1, 1) := by decide +kernel
theorem dX0_ageOf_5 : decode cX0_ageOf 5 = .ok (.iconst 4, 1) := by decide +kernel
theorem dX0_ageOf_6 : decode cX0_ageOf 6 = .ok (.if_icmp .ge 15, 3) := by decide +kernel
theorem dX0_ageOf_9 : decode cX0_ageOf 9 = .ok (.aload_n 0, 1) := by decide +kernel
theorem dX0_ageOf_10 : decode cX0_ageOf 10 = .ok (.getfield 11, 3) := by decide +kernel
theorem dX0_ageOf_13 : decode cX0_ageOf 13 = .ok (.iload_n 1, 1) := by decide +kernel
theorem dX0_ageOf_14 : decode cX0_ageOf 14 = .ok (.aaload, 1) := by decide +kernel
theorem dX0_ageOf_15 : decode cX0_ageOf 15 = .ok (.getfield 67, 3) := by decide +kernel
theorem dX0_ageOf_18 : decode cX0_ageOf 18 = .ok (.ifCond .ne 5, 3) := by decide +kernel
theorem dX0_ageOf_21 : decode cX0_ageOf 21 = .ok (.iconst (-1), 1) := by decide +kernel
theorem dX0_ageOf_22 : decode cX0_ageOf 22 = .ok (.ireturn, 1) := by decide +kernel
theorem dX0_ageOf_23 : decode cX0_ageOf 23 = .ok (.iload_n 2, 1) := by decide +kernel
theorem dX0_ageOf_24 : decode cX0_ageOf 24 = .ok (.aload_n 0, 1) := by decide +kernel
theorem dX0_ageOf_25 : decode cX0_ageOf 25 = .ok (.getfield 17, 3) := by decide +kernel
theorem dX0_ageOf_28 : decode cX0_ageOf 28 = .ok (.iload_n 1, 1) := by decide +kernel
theorem dX0_ageOf_29 : decode cX0_ageOf 29 = .ok (.iaload, 1) := by decide +kernel
theorem dX0_ageOf_30 : decode cX0_ageOf 30 = .ok (.isub, 1) := by decide +kernel
theorem dX0_ageOf_31 : decode cX0_ageOf 31 = .ok (.ireturn, 1) := by decide +kernel
set_option maxRecDepth 20000 in
theorem ggX0_isUsable_X0_ageOf : GoodIn wsX0_isUsable wsX0_ageOf := goodIn_ca ((goodIn_ca (goodIn_ca (goodIn_r _ [6, 7, 8, 9] rfl (by decide +kernel)) (goodIn_sub (fun _ h => List.mem_cons_of_mem _ (List.mem_append_left _ (List.mem_append_left _ (List.mem_append_left _ (List.mem_append_right _ h))))) gw_wsX00)) (goodIn_sub (fun _ h => List.mem_cons_of_mem _ (List.mem_append_left _ (List.mem_append_left _ (List.mem_append_right _ h)))) gw_wsX100))) (goodIn_sub (fun _ h => List.mem_cons_of_mem _ (List.mem_append_right _ h)) (all_fg _))
set_option maxRecDepth 20000 in
theorem gX0_isUsable_X0_ageOf : GoodIn wsX0_isUsable (wsV RX0 73 RX0 yX0_ageOf wsX0_ageOf) := goodIn_app (goodIn_m (mem_cA (List.mem_cons_of_mem _ (List.mem_append_left _ (List.mem_append_left _ (List.mem_append_left _ (List.mem_append_left _ (List.mem_of_getElem? (i := 1) rfl)))))) (mem_cA (List.mem_cons_of_mem _ (List.mem_append_left _ (List.mem_append_left _ (List.mem_append_left _ (List.mem_append_left _ (List.mem_of_getElem? (i := 2) rfl)))))) (mem_cA (List.mem_cons_of_mem _ (List.mem_append_left _ (List.mem_append_left _ (List.mem_append_left _ (List.mem_append_left _ (List.mem_of_getElem? (i := 3) rfl)))))) (mem_cA (List.mem_cons_of_mem _ (List.mem_append_left _ (List.mem_append_left _ (List.mem_append_left _ (List.mem_append_left _ (List.mem_of_getElem? (i := 4) rfl)))))) mem_cZ)))) (by decide +kernel)) ggX0_isUsable_X0_ageOf
set_option maxRecDepth 20000 in
theorem ggX0_isUsable_X1_get : GoodIn wsX0_isUsable wsX1_get := goodIn_ca ((goodIn_ca (goodIn_r _ [14, 15] rfl (by decide +kernel)) (goodIn_sub (fun _ h => List.mem_cons_of_mem _ (List.mem_append_left _ (List.mem_append_right _ h))) gw_wsX10))) (goodIn_sub (fun _ h => List.mem_cons_of_mem _ (List.mem_append_right _ h)) (all_fg _))
set_option maxRecDepth 20000 in
theorem gX0_isUsable_X1_get : GoodIn wsX0_isUsable (wsV RX0 77 RX1 yX1_get wsX1_get) := goodIn_app (goodIn_m (mem_cA (List.mem_cons_of_mem _ (List.mem_append_left _ (List.mem_append_left _ (List.mem_append_left _ (List.mem_append_left _ (List.mem_of_getElem? (i := 9) rfl)))))) (mem_cA (List.mem_cons_of_mem _ (List.mem_append_left _ (List.mem_append_left _ (List.mem_append_left _ (List.mem_append_left _ (List.mem_of_getElem? (i := 10) rfl)))))) (mem_cA (List.mem_cons_of_mem _ (List.mem_append_left _ (List.mem_append_left _ (List.mem_append_left _ (List.mem_append_left _ (List.mem_of_getElem? (i := 11) rfl)))))) (mem_cA (List.mem_cons_of_mem _ (List.mem_append_left _ (List.mem_append_left _ (List.mem_append_left _ (List.mem_append_left _ (List.mem_of_getElem? (i := 12) rfl)))))) mem_cZ)))) (by decide +kernel)) ggX0_isUsable_X1_get
theorem dX0_isUsable_0 : decode cX0_isUsable 0 = .ok (.aload_n 0, 1) := by decide +kernel
theorem dX0_isUsable_1 : decode cX0_isUsable 1 = .ok (.iload_n 1, 1) := by decide +kernel
theorem dX0_isUsable_2 : decode cX0_isUsable 2 = .ok (.iload_n 2, 1) := by decide +kernel
theorem dX0_isUsable_3 : decode cX0_isUsable 3 = .ok (.invokevirtual 73, 3) := by decide +kernel
theorem dX0_isUsable_6 : decode cX0_isUsable 6 = .ok (.istore_n 3, 1) := by decide +kernel
theorem dX0_isUsable_7 : decode cX0_isUsable 7 = .ok (.iload_n 3, 1) := by decide +kernel
theorem dX0_isUsable_8 : decode cX0_isUsable 8 = .ok (.iconst (-1), 1) := by decide +kernel
theorem dX0_isUsable_9 : decode cX0_isUsable 9 = .ok (.if_icmp .eq 20, 3) := by decide +kernel
theorem dX0_isUsable_12 : decode cX0_isUsable 12 = .ok (.iload_n 3, 1) := by decide +kernel
theorem dX0_isUsable_13 : decode cX0_isUsable 13 = .ok (.aload_n 0, 1) := by decide +kernel
theorem dX0_isUsable_14 : decode cX0_isUsable 14 = .ok (.getfield 49, 3) := by decide +kernel
theorem dX0_isUsable_17 : decode cX0_isUsable 17 = .ok (.bipush 6, 2) := by decide +kernel
theorem dX0_isUsable_19 : decode cX0_isUsable 19 = .ok (.invokevirtual 77, 3) := by decide +kernel
theorem dX0_isUsable_22 : decode cX0_isUsable 22 = .ok (.if_icmp .gt 7, 3) := by decide +kernel
theorem dX0_isUsable_25 : decode cX0_isUsable 25 = .ok (.iconst 1, 1) := by decide +kernel
theorem dX0_isUsable_26 : decode cX0_isUsable 26 = .ok (.goto 4, 3) := by decide +kernel
theorem dX0_isUsable_29 : decode cX0_isUsable 29 = .ok (.iconst 0, 1) := by decide +kernel
theorem dX0_isUsable_30 : decode cX0_isUsable 30 = .ok (.ireturn, 1) := by decide +kernel
set_option maxRecDepth 20000 in
theorem ggX0_usableTemplates_X0_isUsable : GoodIn wsX0_usableTemplates wsX0_isUsable := goodIn_ca ((goodIn_ca (goodIn_ca (goodIn_ca (goodIn_r _ [5, 6, 7, 8, 9, 4, 10, 11, 12, 13, 14, 15, 16, 17, 18, 19] rfl (by decide +kernel)) (goodIn_sub (fun _ h => List.mem_cons_of_mem _ (List.mem_append_left _ (List.mem_append_left _ (List.mem_append_left _ (List.mem_append_right _ h))))) gw_wsX00)) (goodIn_sub (fun _ h => List.mem_cons_of_mem _ (List.mem_append_left _ (List.mem_append_left _ (List.mem_append_right _ h)))) gw_wsX100)) (goodIn_sub (fun _ h => List.mem_cons_of_mem _ (List.mem_append_left _ (List.mem_append_right _ h))) gw_wsX10))) (goodIn_sub (fun _ h => List.mem_cons_of_mem _ (List.mem_append_right _ h)) (all_fg _))
set_option maxRecDepth 20000 in
theorem gX0_usableTemplates_X0_isUsable : GoodIn wsX0_usableTemplates (wsV RX0 83 RX0 yX0_isUsable wsX0_isUsable) := goodIn_app (goodIn_m (mem_cA (List.mem_cons_of_mem _ (List.mem_append_left _ (List.mem_append_left _ (List.mem_append_left _ (List.mem_append_left _ (List.mem_of_getElem? (i := 0) rfl)))))) (mem_cA (List.mem_cons_of_mem _ (List.mem_append_left _ (List.mem_append_left _ (List.mem_append_left _ (List.mem_append_left _ (List.mem_of_getElem? (i := 1) rfl)))))) (mem_cA (List.mem_cons_of_mem _ (List.mem_append_left _ (List.mem_append_left _ (List.mem_append_left _ (List.mem_append_left _ (List.mem_of_getElem? (i := 2) rfl)))))) (mem_cA (List.mem_cons_of_mem _ (List.mem_append_left _ (List.mem_append_left _ (List.mem_append_left _ (List.mem_append_left _ (List.mem_of_getElem? (i := 3) rfl)))))) mem_cZ)))) (by decide +kernel)) ggX0_usableTemplates_X0_isUsable
theorem dX0_usableTemplates_0 : decode cX0_usableTemplates 0 = .ok (.iconst 0, 1) := by decide +kernel
theorem dX0_usableTemplates_1 : decode cX0_usableTemplates 1 = .ok (.istore_n 2, 1) := by decide +kernel
theorem dX0_usableTemplates_2 : decode cX0_usableTemplates 2 = .ok (.iconst 0, 1) := by decide +kernel
theorem dX0_usableTemplates_3 : decode cX0_usableTemplates 3 = .ok (.istore_n 3, 1) := by decide +kernel
theorem dX0_usableTemplates_4 : decode cX0_usableTemplates 4 = .ok (.iload_n 3, 1) := by decide +kernel
theorem dX0_usableTemplates_5 : decode cX0_usableTemplates 5 = .ok (.iconst 4, 1) := by decide +kernel
theorem dX0_usableTemplates_6 : decode cX0_usableTemplates 6 = .ok (.if_icmp .ge 24, 3) := by decide +kernel
theorem dX0_usableTemplates_9 : decode cX0_usableTemplates 9 = .ok (.aload_n 0, 1) := by decide +kernel
theorem dX0_usableTemplates_10 : decode cX0_usableTemplates 10 = .ok (.iload_n 3, 1) := by decide +kernel
theorem dX0_usableTemplates_11 : decode cX0_usableTemplates 11 = .ok (.iload_n 1, 1) := by decide +kernel
theorem dX0_usableTemplates_12 : decode cX0_usableTemplates 12 = .ok (.invokevirtual 83, 3) := by decide +kernel
theorem dX0_usableTemplates_15 : decode cX0_usableTemplates 15 = .ok (.ifCond .eq 9, 3) := by decide +kernel
theorem dX0_usableTemplates_18 : decode cX0_usableTemplates 18 = .ok (.iload_n 2, 1) := by decide +kernel
theorem dX0_usableTemplates_19 : decode cX0_usableTemplates 19 = .ok (.iconst 1, 1) := by decide +kernel
theorem dX0_usableTemplates_20 : decode cX0_usableTemplates 20 = .ok (.iload_n 3, 1) := by decide +kernel
theorem dX0_usableTemplates_21 : decode cX0_usableTemplates 21 = .ok (.ishl, 1) := by decide +kernel
theorem dX0_usableTemplates_22 : decode cX0_usableTemplates 22 = .ok (.ior, 1) := by decide +kernel
theorem dX0_usableTemplates_23 : decode cX0_usableTemplates 23 = .ok (.istore_n 2, 1) := by decide +kernel
theorem dX0_usableTemplates_24 : decode cX0_usableTemplates 24 = .ok (.iinc 3 1, 3) := by decide +kernel
theorem dX0_usableTemplates_27 : decode cX0_usableTemplates 27 = .ok (.goto (-23), 3) := by decide +kernel
theorem dX0_usableTemplates_30 : decode cX0_usableTemplates 30 = .ok (.iload_n 2, 1) := by decide +kernel
theorem dX0_usableTemplates_31 : decode cX0_usableTemplates 31 = .ok (.ireturn, 1) := by decide +kernel
theorem dX0_isRecent_0 : decode cX0_isRecent 0 = .ok (.iconst 0, 1) := by decide +kernel
theorem dX0_isRecent_1 : decode cX0_isRecent 1 = .ok (.istore_n 3, 1) := by decide +kernel
theorem dX0_isRecent_2 : decode cX0_isRecent 2 = .ok (.iload_n 3, 1) := by decide +kernel
theorem dX0_isRecent_3 : decode cX0_isRecent 3 = .ok (.bipush 8, 2) := by decide +kernel
theorem dX0_isRecent_5 : decode cX0_isRecent 5 = .ok (.if_icmp .ge 39, 3) := by decide +kernel
theorem dX0_isRecent_8 : decode cX0_isRecent 8 = .ok (.iload_n 3, 1) := by decide +kernel
theorem dX0_isRecent_9 : decode cX0_isRecent 9 = .ok (.aload_n 0, 1) := by decide +kernel
theorem dX0_isRecent_10 : decode cX0_isRecent 10 = .ok (.getfield 39, 3) := by decide +kernel
theorem dX0_isRecent_13 : decode cX0_isRecent 13 = .ok (.if_icmp .ge 31, 3) := by decide +kernel
theorem dX0_isRecent_16 : decode cX0_isRecent 16 = .ok (.aload_n 0, 1) := by decide +kernel
theorem dX0_isRecent_17 : decode cX0_isRecent 17 = .ok (.getfield 26, 3) := by decide +kernel
theorem dX0_isRecent_20 : decode cX0_isRecent 20 = .ok (.iload_n 3, 1) := by decide +kernel
theorem dX0_isRecent_21 : decode cX0_isRecent 21 = .ok (.iaload, 1) := by decide +kernel
theorem dX0_isRecent_22 : decode cX0_isRecent 22 = .ok (.iload_n 1, 1) := by decide +kernel
theorem dX0_isRecent_23 : decode cX0_isRecent 23 = .ok (.if_icmp .ne 15, 3) := by decide +kernel
theorem dX0_isRecent_26 : decode cX0_isRecent 26 = .ok (.aload_n 0, 1) := by decide +kernel
theorem dX0_isRecent_27 : decode cX0_isRecent 27 = .ok (.getfield 29, 3) := by decide +kernel
theorem dX0_isRecent_30 : decode cX0_isRecent 30 = .ok (.iload_n 3, 1) := by decide +kernel
theorem dX0_isRecent_31 : decode cX0_isRecent 31 = .ok (.iaload, 1) := by decide +kernel
theorem dX0_isRecent_32 : decode cX0_isRecent 32 = .ok (.iload_n 2, 1) := by decide +kernel
theorem dX0_isRecent_33 : decode cX0_isRecent 33 = .ok (.if_icmp .ne 5, 3) := by decide +kernel
theorem dX0_isRecent_36 : decode cX0_isRecent 36 = .ok (.iconst 1, 1) := by decide +kernel
theorem dX0_isRecent_37 : decode cX0_isRecent 37 = .ok (.ireturn, 1) := by decide +kernel
theorem dX0_isRecent_38 : decode cX0_isRecent 38 = .ok (.iinc 3 1, 3) := by decide +kernel
theorem dX0_isRecent_41 : decode cX0_isRecent 41 = .ok (.goto (-39), 3) := by decide +kernel
theorem dX0_isRecent_44 : decode cX0_isRecent 44 = .ok (.iconst 0, 1) := by decide +kernel
theorem dX0_isRecent_45 : decode cX0_isRecent 45 = .ok (.ireturn, 1) := by decide +kernel
set_option maxRecDepth 20000 in
theorem ggX2_takePackets_X2_remember : GoodIn wsX2_takePackets wsX2_remember := (goodIn_ca (goodIn_ca (goodIn_ca (goodIn_r _ [9, 10, 4, 11, 12, 13, 14, 15, 16, 17, 18, 19, 20, 21, 22, 23, 24, 25, 26, 27, 28, 29, 30, 31, 32, 33, 34, 35, 36, 37, 38, 39, 40, 41, 42, 43, 44, 45, 46, 47] rfl (by decide +kernel)) (goodIn_sub (fun _ h => List.mem_cons_of_mem _ (List.mem_append_left _ (List.mem_append_left _ (List.mem_append_left _ (List.mem_append_left _ (List.mem_append_left _ (List.mem_append_left _ (List.mem_append_left _ (List.mem_append_left _ (List.mem_append_left _ (List.mem_append_right _ h))))))))))) gw_wsX20)) (goodIn_sub (fun _ h => List.mem_cons_of_mem _ (List.mem_append_left _ (List.mem_append_left _ (List.mem_append_left _ (List.mem_append_left _ (List.mem_append_left _ (List.mem_append_left _ (List.mem_append_left _ (List.mem_append_left _ (List.mem_append_right _ h)))))))))) gw_wsX30)) (goodIn_sub (fun _ h => List.mem_cons_of_mem _ (List.mem_append_left _ (List.mem_append_left _ (List.mem_append_left _ (List.mem_append_left _ (List.mem_append_left _ (List.mem_append_left _ (List.mem_append_left _ (List.mem_append_right _ h))))))))) gw_wsX40))
set_option maxRecDepth 20000 in
theorem gX2_takePackets_X2_remember : GoodIn wsX2_takePackets (wsV RX2 70 RX2 yX2_remember wsX2_remember) := goodIn_app (goodIn_m (mem_cA (List.mem_cons_of_mem _ (List.mem_append_left _ (List.mem_append_left _ (List.mem_append_left _ (List.mem_append_left _ (List.mem_append_left _ (List.mem_append_left _ (List.mem_append_left _ (List.mem_append_left _ (List.mem_append_left _ (List.mem_append_left _ (List.mem_append_left _ (List.mem_of_getElem? (i := 4) rfl))))))))))))) (mem_cA (List.mem_cons_of_mem _ (List.mem_append_left _ (List.mem_append_left _ (List.mem_append_left _ (List.mem_append_left _ (List.mem_append_left _ (List.mem_append_left _ (List.mem_append_left _ (List.mem_append_left _ (List.mem_append_left _ (List.mem_append_left _ (List.mem_append_left _ (List.mem_of_getElem? (i := 5) rfl))))))))))))) (mem_cA (List.mem_cons_of_mem _ (List.mem_append_left _ (List.mem_append_left _ (List.mem_append_left _ (List.mem_append_left _ (List.mem_append_left _ (List.mem_append_left _ (List.mem_append_left _ (List.mem_append_left _ (List.mem_append_left _ (List.mem_append_left _ (List.mem_append_left _ (List.mem_of_getElem? (i := 6) rfl))))))))))))) (mem_cA (List.mem_cons_of_mem _ (List.mem_append_left _ (List.mem_append_left _ (List.mem_append_left _ (List.mem_append_left _ (List.mem_append_left _ (List.mem_append_left _ (List.mem_append_left _ (List.mem_append_left _ (List.mem_append_left _ (List.mem_append_left _ (List.mem_append_left _ (List.mem_of_getElem? (i := 7) rfl))))))))))))) mem_cZ)))) (by decide +kernel)) ggX2_takePackets_X2_remember
set_option maxRecDepth 20000 in
theorem ggX2_takePackets_X2_isSampled : GoodIn wsX2_takePackets wsX2_isSampled := goodIn_ca ((goodIn_ca (goodIn_r _ [51, 52, 53, 54, 55] rfl (by decide +kernel)) (goodIn_sub (fun _ h => List.mem_cons_of_mem _ (List.mem_append_left _ (List.mem_append_left _ (List.mem_append_left _ (List.mem_append_left _ (List.mem_append_left _ (List.mem_append_left _ (List.mem_append_left _ (List.mem_append_left _ (List.mem_append_left _ (List.mem_append_right _ h))))))))))) gw_wsX20))) (goodIn_sub (fun _ h => List.mem_cons_of_mem _ (List.mem_append_left _ (List.mem_append_right _ h))) (all_fg _))
set_option maxRecDepth 20000 in
theorem gX2_takePackets_X2_isSampled : GoodIn wsX2_takePackets (wsV RX2 74 RX2 yX2_isSampled wsX2_isSampled) := goodIn_app (goodIn_m (mem_cA (List.mem_cons_of_mem _ (List.mem_append_left _ (List.mem_append_left _ (List.mem_append_left _ (List.mem_append_left _ (List.mem_append_left _ (List.mem_append_left _ (List.mem_append_left _ (List.mem_append_left _ (List.mem_append_left _ (List.mem_append_left _ (List.mem_append_right _ (List.mem_append_left _ (List.mem_of_getElem? (i := 23) rfl)))))))))))))) (mem_cA (List.mem_cons_of_mem _ (List.mem_append_left _ (List.mem_append_left _ (List.mem_append_left _ (List.mem_append_left _ (List.mem_append_left _ (List.mem_append_left _ (List.mem_append_left _ (List.mem_append_left _ (List.mem_append_left _ (List.mem_append_left _ (List.mem_append_right _ (List.mem_append_right _ (List.mem_append_left _ (List.mem_of_getElem? (i := 0) rfl))))))))))))))) (mem_cA (List.mem_cons_of_mem _ (List.mem_append_left _ (List.mem_append_left _ (List.mem_append_left _ (List.mem_append_left _ (List.mem_append_left _ (List.mem_append_left _ (List.mem_append_left _ (List.mem_append_left _ (List.mem_append_left _ (List.mem_append_left _ (List.mem_append_right _ (List.mem_append_right _ (List.mem_append_left _ (List.mem_of_getElem? (i := 1) rfl))))))))))))))) (mem_cA (List.mem_cons_of_mem _ (List.mem_append_left _ (List.mem_append_left _ (List.mem_append_left _ (List.mem_append_left _ (List.mem_append_left _ (List.mem_append_left _ (List.mem_append_left _ (List.mem_append_left _ (List.mem_append_left _ (List.mem_append_left _ (List.mem_append_left _ (List.mem_of_getElem? (i := 7) rfl))))))))))))) mem_cZ)))) (by decide +kernel)) ggX2_takePackets_X2_isSampled
set_option maxRecDepth 20000 in
theorem ggX2_takePackets_X2_addToFlow : GoodIn wsX2_takePackets wsX2_addToFlow := goodIn_ca (goodIn_ca ((goodIn_ca (goodIn_ca (goodIn_ca (goodIn_ca (goodIn_ca (goodIn_ca (goodIn_ca (goodIn_r _ [59, 60, 4, 11, 12, 61, 13, 14, 15, 16, 17, 18, 19, 20, 21, 22, 23, 24, 62, 63, 64, 65, 66, 67, 68, 69, 8, 70, 71, 72, 73, 74, 75, 3, 52, 76, 77, 78, 79, 33, 34, 35, 36, 80, 81, 40, 82, 83, 84, 85, 86, 87, 88, 89, 90, 91, 92, 93, 94, 95, 96, 97, 98, 99, 100, 101, 102, 103, 104, 105, 106, 107, 108, 109, 110, 111, 112, 113, 114, 115, 116, 117, 118, 119, 120, 121, 122, 43, 44, 45, 46, 42, 123, 124, 125, 126, 127, 128, 129, 130, 131, 132, 133, 134, 25, 26, 27, 28, 29, 30, 31, 32, 37, 38, 39, 41, 47] rfl (by decide +kernel)) (goodIn_sub (fun _ h => List.mem_cons_of_mem _ (List.mem_append_left _ (List.mem_append_left _ (List.mem_append_left _ (List.mem_append_left _ (List.mem_append_left _ (List.mem_append_left _ (List.mem_append_left _ (List.mem_append_left _ (List.mem_append_left _ (List.mem_append_right _ h))))))))))) gw_wsX20)) (goodIn_sub (fun _ h => List.mem_cons_of_mem _ (List.mem_append_left _ (List.mem_append_left _ (List.mem_append_left _ (List.mem_append_left _ (List.mem_append_left _ (List.mem_append_left _ (List.mem_append_left _ (List.mem_append_left _ (List.mem_append_right _ h)))))))))) gw_wsX30)) (goodIn_sub (fun _ h => List.mem_cons_of_mem _ (List.mem_append_left _ (List.mem_append_left _ (List.mem_append_left _ (List.mem_append_left _ (List.mem_append_left _ (List.mem_append_left _ (List.mem_append_left _ (List.mem_append_right _ h))))))))) gw_wsX40)) (goodIn_sub (fun _ h => List.mem_cons_of_mem _ (List.mem_append_left _ (List.mem_append_left _ (List.mem_append_left _ (List.mem_append_left _ (List.mem_append_left _ (List.mem_append_left _ (List.mem_append_right _ h)))))))) gw_wsX100)) (goodIn_sub (fun _ h => List.mem_cons_of_mem _ (List.mem_append_left _ (List.mem_append_left _ (List.mem_append_left _ (List.mem_append_left _ (List.mem_append_left _ (List.mem_append_right _ h))))))) gw_wsX10)) (goodIn_sub (fun _ h => List.mem_cons_of_mem _ (List.mem_append_left _ (List.mem_append_left _ (List.mem_append_left _ (List.mem_append_left _ (List.mem_append_right _ h)))))) gw_wsX80)) (goodIn_sub (fun _ h => List.mem_cons_of_mem _ (List.mem_append_left _ (List.mem_append_left _ (List.mem_append_left _ (List.mem_append_right _ h))))) gw_wsX50))) (goodIn_sub (fun _ h => List.mem_cons_of_mem _ (List.mem_append_right _ h)) (all_fg _))) (goodIn_sub (fun _ h => List.mem_cons_of_mem _ (List.mem_append_left _ (List.mem_append_right _ h))) (all_fg _))
set_option maxRecDepth 20000 in
theorem gX2_takePackets_X2_addToFlow : GoodIn wsX2_takePackets (wsV RX2 78 RX2 yX2_addToFlow wsX2_addToFlow) := goodIn_app (goodIn_m (mem_cA (List.mem_cons_of_mem _ (List.mem_append_left _ (List.mem_append_left _ (List.mem_append_left _ (List.mem_append_left _ (List.mem_append_left _ (List.mem_append_left _ (List.mem_append_left _ (List.mem_append_left _ (List.mem_append_left _ (List.mem_append_left _ (List.mem_append_right _ (List.mem_append_right _ (List.mem_append_left _ (List.mem_of_getElem? (i := 7) rfl))))))))))))))) (mem_cA (List.mem_cons_of_mem _ (List.mem_append_left _ (List.mem_append_left _ (List.mem_append_left _ (List.mem_append_left _ (List.mem_append_left _ (List.mem_append_left _ (List.mem_append_left _ (List.mem_append_left _ (List.mem_append_left _ (List.mem_append_left _ (List.mem_append_right _ (List.mem_append_right _ (List.mem_append_left _ (List.mem_of_getElem? (i := 8) rfl))))))))))))))) (mem_cA (List.mem_cons_of_mem _ (List.mem_append_left _ (List.mem_append_left _ (List.mem_append_left _ (List.mem_append_left _ (List.mem_append_left _ (List.mem_append_left _ (List.mem_append_left _ (List.mem_append_left _ (List.mem_append_left _ (List.mem_append_left _ (List.mem_append_right _ (List.mem_append_right _ (List.mem_append_left _ (List.mem_of_getElem? (i := 9) rfl))))))))))))))) (mem_cA (List.mem_cons_of_mem _ (List.mem_append_left _ (List.mem_append_left _ (List.mem_append_left _ (List.mem_append_left _ (List.mem_append_left _ (List.mem_append_left _ (List.mem_append_left _ (List.mem_append_left _ (List.mem_append_left _ (List.mem_append_left _ (List.mem_append_left _ (List.mem_of_getElem? (i := 7) rfl))))))))))))) mem_cZ)))) (by decide +kernel)) ggX2_takePackets_X2_addToFlow
set_option maxRecDepth 20000 in
theorem ggX2_takePackets_X8_sendPending : GoodIn wsX2_takePackets wsX8_sendPending := goodIn_ca ((goodIn_ca (goodIn_ca (goodIn_ca (goodIn_ca (goodIn_ca (goodIn_r _ [138, 105, 106, 107, 139, 140, 109, 141, 142, 143, 103, 144, 145, 146, 147, 148, 149, 150, 151, 152, 153, 154, 155, 156, 157, 158, 159, 128, 129, 130, 131, 132, 133, 134, 160, 161, 162, 163, 164, 165, 166, 167, 168, 169, 170, 171, 108, 111, 92, 93, 88, 94, 95, 172, 173, 174, 175, 176, 177, 178, 179, 180, 112, 113, 114, 115, 116, 117, 118, 124, 125, 126, 127, 181, 182, 183, 184, 185, 186, 187, 188, 189, 190, 191, 192, 193, 194, 195, 196, 197, 198, 199, 30, 31, 32, 200, 201, 202, 203, 204, 205, 206, 207] rfl (by decide +kernel)) (goodIn_sub (fun _ h => List.mem_cons_of_mem _ (List.mem_append_left _ (List.mem_append_left _ (List.mem_append_left _ (List.mem_append_left _ (List.mem_append_right _ h)))))) gw_wsX80)) (goodIn_sub (fun _ h => List.mem_cons_of_mem _ (List.mem_append_left _ (List.mem_append_left _ (List.mem_append_left _ (List.mem_append_left _ (List.mem_append_left _ (List.mem_append_left _ (List.mem_append_right _ h)))))))) gw_wsX100)) (goodIn_sub (fun _ h => List.mem_cons_of_mem _ (List.mem_append_left _ (List.mem_append_left _ (List.mem_append_left _ (List.mem_append_right _ h))))) gw_wsX50)) (goodIn_sub (fun _ h => List.mem_cons_of_mem _ (List.mem_append_left _ (List.mem_append_left _ (List.mem_append_right _ h)))) gw_wsX70)) (goodIn_sub (fun _ h => List.mem_cons_of_mem _ (List.mem_append_left _ (List.mem_append_left _ (List.mem_append_left _ (List.mem_append_left _ (List.mem_append_left _ (List.mem_append_right _ h))))))) gw_wsX10))) (goodIn_sub (fun _ h => List.mem_cons_of_mem _ (List.mem_append_right _ h)) (all_fg _))
set_option maxRecDepth 20000 in
theorem gX2_takePackets_X8_sendPending : GoodIn wsX2_takePackets (wsV RX2 82 RX8 yX8_sendPending wsX8_sendPending) := goodIn_app (goodIn_m (mem_cA (List.mem_cons_of_mem _ (List.mem_append_left _ (List.mem_append_left _ (List.mem_append_left _ (List.mem_append_left _ (List.mem_append_left _ (List.mem_append_left _ (List.mem_append_left _ (List.mem_append_left _ (List.mem_append_left _ (List.mem_append_left _ (List.mem_append_right _ (List.mem_append_right _ (List.mem_append_right _ (List.mem_append_right _ (List.mem_append_right _ (List.mem_append_left _ (List.mem_of_getElem? (i := 14) rfl)))))))))))))))))) (mem_cA (List.mem_cons_of_mem _ (List.mem_append_left _ (List.mem_append_left _ (List.mem_append_left _ (List.mem_append_left _ (List.mem_append_left _ (List.mem_append_left _ (List.mem_append_left _ (List.mem_append_left _ (List.mem_append_left _ (List.mem_append_left _ (List.mem_append_right _ (List.mem_append_right _ (List.mem_append_right _ (List.mem_append_right _ (List.mem_append_right _ (List.mem_append_left _ (List.mem_of_getElem? (i := 15) rfl)))))))))))))))))) (mem_cA (List.mem_cons_of_mem _ (List.mem_append_left _ (List.mem_append_left _ (List.mem_append_left _ (List.mem_append_left _ (List.mem_append_left _ (List.mem_append_left _ (List.mem_append_left _ (List.mem_append_left _ (List.mem_append_left _ (List.mem_append_left _ (List.mem_append_right _ (List.mem_append_right _ (List.mem_append_right _ (List.mem_append_right _ (List.mem_append_right _ (List.mem_append_left _ (List.mem_of_getElem? (i := 16) rfl)))))))))))))))))) (mem_cA (List.mem_cons_of_mem _ (List.mem_append_left _ (List.mem_append_left _ (List.mem_append_left _ (List.mem_append_left _ (List.mem_append_left _ (List.mem_append_left _ (List.mem_append_left _ (List.mem_append_left _ (List.mem_append_left _ (List.mem_append_left _ (List.mem_append_right _ (List.mem_append_right _ (List.mem_append_right _ (List.mem_append_right _ (List.mem_append_left _ (List.mem_of_getElem? (i := 6) rfl))))))))))))))))) mem_cZ)))) (by decide +kernel)) ggX2_takePackets_X8_sendPending
theorem dX2_takePackets_0 : decode cX2_takePackets 0 = .ok (.aload_n 0, 1) := by decide +kernel
theorem dX2_takePackets_1 : decode cX2_takePackets 1 = .ok (.dup, 1) := by decide +kernel
theorem dX2_takePackets_2 : decode cX2_takePackets 2 = .ok (.getfield 43, 3) := by decide +kernel
theorem dX2_takePackets_5 : decode cX2_takePackets 5 = .ok (.iload 4, 2) := by decide +kernel
theorem dX2_takePackets_7 : decode cX2_takePackets 7 = .ok (.i2l, 1) := by decide +kernel
theorem dX2_takePackets_8 : decode cX2_takePackets 8 = .ok (.ladd, 1) := by decide +kernel
theorem dX2_takePackets_9 : decode cX2_takePackets 9 = .ok (.putfield 43, 3) := by decide +kernel
theorem dX2_takePackets_12 : decode cX2_takePackets 12 = .ok (.aload_n 0, 1) := by decide +kernel
theorem dX2_takePackets_13 : decode cX2_takePackets 13 = .ok (.lload_n 1, 1) := by decide +kernel
theorem dX2_takePackets_14 : decode cX2_takePackets 14 = .ok (.iload_n 3, 1) := by decide +kernel
theorem dX2_takePackets_15 : decode cX2_takePackets 15 = .ok (.iload 4, 2) := by decide +kernel
theorem dX2_takePackets_17 : decode cX2_takePackets 17 = .ok (.invokevirtual 70, 3) := by decide +kernel
theorem dX2_takePackets_20 : decode cX2_takePackets 20 = .ok (.iconst 0, 1) := by decide +kernel
theorem dX2_takePackets_21 : decode cX2_takePackets 21 = .ok (.istore 5, 2) := by decide +kernel
theorem dX2_takePackets_23 : decode cX2_takePackets 23 = .ok (.iconst 0, 1) := by decide +kernel
theorem dX2_takePackets_24 : decode cX2_takePackets 24 = .ok (.istore 6, 2) := by decide +kernel
theorem dX2_takePackets_26 : decode cX2_takePackets 26 = .ok (.iload 6, 2) := by decide +kernel
theorem dX2_takePackets_28 : decode cX2_takePackets 28 = .ok (.iload 4, 2) := by decide +kernel
theorem dX2_takePackets_30 : decode cX2_takePackets 30 = .ok (.if_icmp .ge 25, 3) := by decide +kernel
theorem dX2_takePackets_33 : decode cX2_takePackets 33 = .ok (.aload_n 0, 1) := by decide +kernel
theorem dX2_takePackets_34 : decode cX2_takePackets 34 = .ok (.invokevirtual 74, 3) := by decide +kernel
theorem dX2_takePackets_37 : decode cX2_takePackets 37 = .ok (.ifCond .eq 12, 3) := by decide +kernel
theorem dX2_takePackets_40 : decode cX2_takePackets 40 = .ok (.aload_n 0, 1) := by decide +kernel
theorem dX2_takePackets_41 : decode cX2_takePackets 41 = .ok (.lload_n 1, 1) := by decide +kernel
theorem dX2_takePackets_42 : decode cX2_takePackets 42 = .ok (.iload_n 3, 1) := by decide +kernel
theorem dX2_takePackets_43 : decode cX2_takePackets 43 = .ok (.invokevirtual 78, 3) := by decide +kernel
theorem dX2_takePackets_46 : decode cX2_takePackets 46 = .ok (.iinc 5 1, 3) := by decide +kernel
theorem dX2_takePackets_49 : decode cX2_takePackets 49 = .ok (.iinc 6 1, 3) := by decide +kernel
theorem dX2_takePackets_52 : decode cX2_takePackets 52 = .ok (.goto (-26), 3) := by decide +kernel
theorem dX2_takePackets_55 : decode cX2_takePackets 55 = .ok (.aload_n 0, 1) := by decide +kernel
theorem dX2_takePackets_56 : decode cX2_takePackets 56 = .ok (.dup, 1) := by decide +kernel
theorem dX2_takePackets_57 : decode cX2_takePackets 57 = .ok (.getfield 47, 3) := by decide +kernel
theorem dX2_takePackets_60 : decode cX2_takePackets 60 = .ok (.iload 5, 2) := by decide +kernel
theorem dX2_takePackets_62 : decode cX2_takePackets 62 = .ok (.i2l, 1) := by decide +kernel
theorem dX2_takePackets_63 : decode cX2_takePackets 63 = .ok (.ladd, 1) := by decide +kernel
theorem dX2_takePackets_64 : decode cX2_takePackets 64 = .ok (.putfield 47, 3) := by decide +kernel
theorem dX2_takePackets_67 : decode cX2_takePackets 67 = .ok (.aload_n 0, 1) := by decide +kernel
theorem dX2_takePackets_68 : decode cX2_takePackets 68 = .ok (.getfield 57, 3) := by decide +kernel
theorem dX2_takePackets_71 : decode cX2_takePackets 71 = .ok (.aload_n 0, 1) := by decide +kernel
theorem dX2_takePackets_72 : decode cX2_takePackets 72 = .ok (.getfield 23, 3) := by decide +kernel
theorem dX2_takePackets_75 : decode cX2_takePackets 75 = .ok (.invokevirtual 82, 3) := by decide +kernel
theorem dX2_takePackets_78 : decode cX2_takePackets 78 = .ok (.iload 5, 2) := by decide +kernel
theorem dX2_takePackets_80 : decode cX2_takePackets 80 = .ok (.ireturn, 1) := by decide +kernel
set_option maxRecDepth 20000 in
theorem ggX2_exportAllAndSend_X2_exportAll : GoodIn wsX2_exportAllAndSend wsX2_exportAll := goodIn_ca (goodIn_ca ((goodIn_ca (goodIn_ca (goodIn_ca (goodIn_ca (goodIn_ca (goodIn_ca (goodIn_ca (goodIn_r _ [9, 1, 2, 10, 11, 12, 8, 13, 14, 15, 16, 17, 18, 3, 19, 20, 21, 22, 23, 24, 25, 26, 27, 28, 29, 30, 31, 32, 33, 34, 35, 36, 37, 38, 39, 40, 41, 42, 43, 44, 45, 46, 47, 48, 49, 50, 51, 52, 53, 54, 55, 56, 57, 58, 59, 60, 61, 62, 63, 64, 65, 66, 67, 68, 69, 70, 71, 72, 73, 74, 75, 76, 77, 78, 79, 80, 81, 82, 83, 84, 85, 86, 87, 88, 89, 90, 91] rfl (by decide +kernel)) (goodIn_sub (fun _ h => List.mem_cons_of_mem _ (List.mem_append_left _ (List.mem_append_left _ (List.mem_append_left _ (List.mem_append_left _ (List.mem_append_left _ (List.mem_append_left _ (List.mem_append_left _ (List.mem_append_left _ (List.mem_append_left _ (List.mem_append_right _ h))))))))))) gw_wsX20)) (goodIn_sub (fun _ h => List.mem_cons_of_mem _ (List.mem_append_left _ (List.mem_append_left _ (List.mem_append_left _ (List.mem_append_left _ (List.mem_append_left _ (List.mem_append_left _ (List.mem_append_left _ (List.mem_append_left _ (List.mem_append_right _ h)))))))))) gw_wsX40)) (goodIn_sub (fun _ h => List.mem_cons_of_mem _ (List.mem_append_left _ (List.mem_append_left _ (List.mem_append_left _ (List.mem_append_left _ (List.mem_append_left _ (List.mem_append_left _ (List.mem_append_left _ (List.mem_append_right _ h))))))))) gw_wsX30)) (goodIn_sub (fun _ h => List.mem_cons_of_mem _ (List.mem_append_left _ (List.mem_append_left _ (List.mem_append_left _ (List.mem_append_left _ (List.mem_append_left _ (List.mem_append_left _ (List.mem_append_right _ h)))))))) gw_wsX100)) (goodIn_sub (fun _ h => List.mem_cons_of_mem _ (List.mem_append_left _ (List.mem_append_left _ (List.mem_append_left _ (List.mem_append_left _ (List.mem_append_left _ (List.mem_append_right _ h))))))) gw_wsX10)) (goodIn_sub (fun _ h => List.mem_cons_of_mem _ (List.mem_append_left _ (List.mem_append_left _ (List.mem_append_left _ (List.mem_append_left _ (List.mem_append_right _ h)))))) gw_wsX80)) (goodIn_sub (fun _ h => List.mem_cons_of_mem _ (List.mem_append_left _ (List.mem_append_left _ (List.mem_append_left _ (List.mem_append_right _ h))))) gw_wsX50))) (goodIn_sub (fun _ h => List.mem_cons_of_mem _ (List.mem_append_left _ (List.mem_append_right _ h))) (all_fg _))) (goodIn_sub (fun _ h => List.mem_cons_of_mem _ (List.mem_append_right _ h)) (all_fg _))
set_option maxRecDepth 20000 in
theorem gX2_exportAllAndSend_X2_exportAll : GoodIn wsX2_exportAllAndSend (wsV RX2 153 RX2 yX2_exportAll wsX2_exportAll) := goodIn_app (goodIn_m (mem_cA (List.mem_cons_of_mem _ (List.mem_append_left _ (List.mem_append_left _ (List.mem_append_left _ (List.mem_append_left _ (List.mem_append_left _ (List.mem_append_left _ (List.mem_append_left _ (List.mem_append_left _ (List.mem_append_left _ (List.mem_append_left _ (List.mem_append_left _ (List.mem_of_getElem? (i := 4) rfl))))))))))))) (mem_cA (List.mem_cons_of_mem _ (List.mem_append_left _ (List.mem_append_left _ (List.mem_append_left _ (List.mem_append_left _ (List.mem_append_left _ (List.mem_append_left _ (List.mem_append_left _ (List.mem_append_left _ (List.mem_append_left _ (List.mem_append_left _ (List.mem_append_left _ (List.mem_of_getElem? (i := 5) rfl))))))))))))) (mem_cA (List.mem_cons_of_mem _ (List.mem_append_left _ (List.mem_append_left _ (List.mem_append_left _ (List.mem_append_left _ (List.mem_append_left _ (List.mem_append_left _ (List.mem_append_left _ (List.mem_append_left _ (List.mem_append_left _ (List.mem_append_left _ (List.mem_append_left _ (List.mem_of_getElem? (i := 6) rfl))))))))))))) (mem_cA (List.mem_cons_of_mem _ (List.mem_append_left _ (List.mem_append_left _ (List.mem_append_left _ (List.mem_append_left _ (List.mem_append_left _ (List.mem_append_left _ (List.mem_append_left _ (List.mem_append_left _ (List.mem_append_left _ (List.mem_append_left _ (List.mem_append_left _ (List.mem_of_getElem? (i := 7) rfl))))))))))))) mem_cZ)))) (by decide +kernel)) ggX2_exportAllAndSend_X2_exportAll
set_option maxRecDepth 20000 in
theorem ggX2_exportAllAndSend_X8_sendPending : GoodIn wsX2_exportAllAndSend wsX8_sendPending := goodIn_ca ((goodIn_ca (goodIn_ca (goodIn_ca (goodIn_ca (goodIn_ca (goodIn_r _ [95, 57, 58, 59, 96, 97, 61, 98, 99, 100, 55, 101, 102, 103, 104, 105, 106, 107, 108, 109, 110, 111, 112, 113, 114, 115, 116, 85, 86, 87, 88, 89, 90, 91, 117, 118, 119, 120, 121, 122, 123, 124, 125, 126, 127, 128, 60, 63, 44, 45, 40, 46, 47, 129, 130, 131, 132, 133, 134, 135, 136, 137, 64, 65, 66, 67, 68, 69, 70, 81, 82, 83, 84, 138, 139, 140, 141, 142, 143, 144, 145, 146, 147, 148, 149, 150, 151, 152, 153, 154, 155, 156, 157, 158, 159, 160, 161, 162, 163, 164, 165, 166, 167] rfl (by decide +kernel)) (goodIn_sub (fun _ h => List.mem_cons_of_mem _ (List.mem_append_left _ (List.mem_append_left _ (List.mem_append_left _ (List.mem_append_left _ (List.mem_append_right _ h)))))) gw_wsX80)) (goodIn_sub (fun _ h => List.mem_cons_of_mem _ (List.mem_append_left _ (List.mem_append_left _ (List.mem_append_left _ (List.mem_append_left _ (List.mem_append_left _ (List.mem_append_left _ (List.mem_append_right _ h)))))))) gw_wsX100)) (goodIn_sub (fun _ h => List.mem_cons_of_mem _ (List.mem_append_left _ (List.mem_append_left _ (List.mem_append_left _ (List.mem_append_right _ h))))) gw_wsX50)) (goodIn_sub (fun _ h => List.mem_cons_of_mem _ (List.mem_append_left _ (List.mem_append_left _ (List.mem_append_right _ h)))) gw_wsX70)) (goodIn_sub (fun _ h => List.mem_cons_of_mem _ (List.mem_append_left _ (List.mem_append_left _ (List.mem_append_left _ (List.mem_append_left _ (List.mem_append_left _ (List.mem_append_right _ h))))))) gw_wsX10))) (goodIn_sub (fun _ h => List.mem_cons_of_mem _ (List.mem_append_left _ (List.mem_append_right _ h))) (all_fg _))
set_option maxRecDepth 20000 in
theorem gX2_exportAllAndSend_X8_sendPending : GoodIn wsX2_exportAllAndSend (wsV RX2 82 RX8 yX8_sendPending wsX8_sendPending) := goodIn_app (goodIn_m (mem_cA (List.mem_cons_of_mem _ (List.mem_append_left _ (List.mem_append_left _ (List.mem_append_left _ (List.mem_append_left _ (List.mem_append_left _ (List.mem_append_left _ (List.mem_append_left _ (List.mem_append_left _ (List.mem_append_left _ (List.mem_append_left _ (List.mem_append_right _ (List.mem_append_right _ (List.mem_append_right _ (List.mem_append_left _ (List.mem_of_getElem? (i := 19) rfl)))))))))))))))) (mem_cA (List.mem_cons_of_mem _ (List.mem_append_left _ (List.mem_append_left _ (List.mem_append_left _ (List.mem_append_left _ (List.mem_append_left _ (List.mem_append_left _ (List.mem_append_left _ (List.mem_append_left _ (List.mem_append_left _ (List.mem_append_left _ (List.mem_append_right _ (List.mem_append_right _ (List.mem_append_right _ (List.mem_append_left _ (List.mem_of_getElem? (i := 20) rfl)))))))))))))))) (mem_cA (List.mem_cons_of_mem _ (List.mem_append_left _ (List.mem_append_left _ (List.mem_append_left _ (List.mem_append_left _ (List.mem_append_left _ (List.mem_append_left _ (List.mem_append_left _ (List.mem_append_left _ (List.mem_append_left _ (List.mem_append_left _ (List.mem_append_right _ (List.mem_append_right _ (List.mem_append_right _ (List.mem_append_left _ (List.mem_of_getElem? (i := 21) rfl)))))))))))))))) (mem_cA (List.mem_cons_of_mem _ (List.mem_append_left _ (List.mem_append_left _ (List.mem_append_left _ (List.mem_append_left _ (List.mem_append_left _ (List.mem_append_left _ (List.mem_append_left _ (List.mem_append_left _ (List.mem_append_left _ (List.mem_append_left _ (List.mem_append_right _ (List.mem_append_right _ (List.mem_append_left _ (List.mem_of_getElem? (i := 6) rfl))))))))))))))) mem_cZ)))) (by decide +kernel)) ggX2_exportAllAndSend_X8_sendPending
theorem dX2_exportAllAndSend_0 : decode cX2_exportAllAndSend 0 = .ok (.aload_n 0, 1) := by decide +kernel
theorem dX2_exportAllAndSend_1 : decode cX2_exportAllAndSend 1 = .ok (.getfield 14, 3) := by decide +kernel
theorem dX2_exportAllAndSend_4 : decode cX2_exportAllAndSend 4 = .ok (.getfield 61, 3) := by decide +kernel
theorem dX2_exportAllAndSend_7 : decode cX2_exportAllAndSend 7 = .ok (.istore_n 1, 1) := by decide +kernel
theorem dX2_exportAllAndSend_8 : decode cX2_exportAllAndSend 8 = .ok (.aload_n 0, 1) := by decide +kernel
theorem dX2_exportAllAndSend_9 : decode cX2_exportAllAndSend 9 = .ok (.invokevirtual 153, 3) := by decide +kernel
theorem dX2_exportAllAndSend_12 : decode cX2_exportAllAndSend 12 = .ok (.aload_n 0, 1) := by decide +kernel
theorem dX2_exportAllAndSend_13 : decode cX2_exportAllAndSend 13 = .ok (.getfield 57, 3) := by decide +kernel
theorem dX2_exportAllAndSend_16 : decode cX2_exportAllAndSend 16 = .ok (.aload_n 0, 1) := by decide +kernel
theorem dX2_exportAllAndSend_17 : decode cX2_exportAllAndSend 17 = .ok (.getfield 23, 3) := by decide +kernel
theorem dX2_exportAllAndSend_20 : decode cX2_exportAllAndSend 20 = .ok (.invokevirtual 82, 3) := by decide +kernel
theorem dX2_exportAllAndSend_23 : decode cX2_exportAllAndSend 23 = .ok (.iload_n 1, 1) := by decide +kernel
theorem dX2_exportAllAndSend_24 : decode cX2_exportAllAndSend 24 = .ok (.ireturn, 1) := by decide +kernel
set_option maxRecDepth 20000 in
theorem ggX2_tick_X2_exportOld : GoodIn wsX2_tick wsX2_exportOld := goodIn_ca (goodIn_ca ((goodIn_ca (goodIn_ca (goodIn_ca (goodIn_ca (goodIn_ca (goodIn_ca (goodIn_ca (goodIn_r _ [8, 9, 10, 11, 1, 12, 13, 14, 15, 16, 17, 18, 19, 20, 21, 22, 23, 24, 25, 26, 27, 28, 7, 29, 30, 31, 32, 33, 3, 2, 34, 35, 36, 37, 38, 39, 40, 41, 42, 43, 44, 45, 46, 47, 48, 49, 50, 51, 52, 53, 54, 55, 56, 57, 58, 59, 60, 61, 62, 63, 64, 65, 66, 67, 68, 69, 70, 71, 72, 73, 74, 75, 76, 77, 78, 79, 80, 81, 82, 83, 84, 85, 86, 87, 88, 89, 90, 91, 92, 93, 94, 95, 96, 97, 98, 99] rfl (by decide +kernel)) (goodIn_sub (fun _ h => List.mem_cons_of_mem _ (List.mem_append_left _ (List.mem_append_left _ (List.mem_append_left _ (List.mem_append_left _ (List.mem_append_left _ (List.mem_append_left _ (List.mem_append_left _ (List.mem_append_left _ (List.mem_append_left _ (List.mem_append_right _ h))))))))))) gw_wsX20)) (goodIn_sub (fun _ h => List.mem_cons_of_mem _ (List.mem_append_left _ (List.mem_append_left _ (List.mem_append_left _ (List.mem_append_left _ (List.mem_append_left _ (List.mem_append_left _ (List.mem_append_left _ (List.mem_append_left _ (List.mem_append_right _ h)))))))))) gw_wsX40)) (goodIn_sub (fun _ h => List.mem_cons_of_mem _ (List.mem_append_left _ (List.mem_append_left _ (List.mem_append_left _ (List.mem_append_left _ (List.mem_append_left _ (List.mem_append_left _ (List.mem_append_left _ (List.mem_append_right _ h))))))))) gw_wsX30)) (goodIn_sub (fun _ h => List.mem_cons_of_mem _ (List.mem_append_left _ (List.mem_append_left _ (List.mem_append_left _ (List.mem_append_left _ (List.mem_append_left _ (List.mem_append_left _ (List.mem_append_right _ h)))))))) gw_wsX10)) (goodIn_sub (fun _ h => List.mem_cons_of_mem _ (List.mem_append_left _ (List.mem_append_left _ (List.mem_append_left _ (List.mem_append_left _ (List.mem_append_left _ (List.mem_append_right _ h))))))) gw_wsX100)) (goodIn_sub (fun _ h => List.mem_cons_of_mem _ (List.mem_append_left _ (List.mem_append_left _ (List.mem_append_left _ (List.mem_append_left _ (List.mem_append_right _ h)))))) gw_wsX80)) (goodIn_sub (fun _ h => List.mem_cons_of_mem _ (List.mem_append_left _ (List.mem_append_left _ (List.mem_append_left _ (List.mem_append_right _ h))))) gw_wsX50))) (goodIn_sub (fun _ h => List.mem_cons_of_mem _ (List.mem_append_left _ (List.mem_append_right _ h))) (all_fg _))) (goodIn_sub (fun _ h => List.mem_cons_of_mem _ (List.mem_append_right _ h)) (all_fg _))
set_option maxRecDepth 20000 in
theorem gX2_tick_X2_exportOld : GoodIn wsX2_tick (wsV RX2 156 RX2 yX2_exportOld wsX2_exportOld) := goodIn_app (goodIn_m (mem_cA (List.mem_cons_of_mem _ (List.mem_append_left _ (List.mem_append_left _ (List.mem_append_left _ (List.mem_append_left _ (List.mem_append_left _ (List.mem_append_left _ (List.mem_append_left _ (List.mem_append_left _ (List.mem_append_left _ (List.mem_append_left _ (List.mem_append_left _ (List.mem_of_getElem? (i := 3) rfl))))))))))))) (mem_cA (List.mem_cons_of_mem _ (List.mem_append_left _ (List.mem_append_left _ (List.mem_append_left _ (List.mem_append_left _ (List.mem_append_left _ (List.mem_append_left _ (List.mem_append_left _ (List.mem_append_left _ (List.mem_append_left _ (List.mem_append_left _ (List.mem_append_left _ (List.mem_of_getElem? (i := 4) rfl))))))))))))) (mem_cA (List.mem_cons_of_mem _ (List.mem_append_left _ (List.mem_append_left _ (List.mem_append_left _ (List.mem_append_left _ (List.mem_append_left _ (List.mem_append_left _ (List.mem_append_left _ (List.mem_append_left _ (List.mem_append_left _ (List.mem_append_left _ (List.mem_append_left _ (List.mem_of_getElem? (i := 5) rfl))))))))))))) (mem_cA (List.mem_cons_of_mem _ (List.mem_append_left _ (List.mem_append_left _ (List.mem_append_left _ (List.mem_append_left _ (List.mem_append_left _ (List.mem_append_left _ (List.mem_append_left _ (List.mem_append_left _ (List.mem_append_left _ (List.mem_append_left _ (List.mem_append_left _ (List.mem_of_getElem? (i := 6) rfl))))))))))))) mem_cZ)))) (by decide +kernel)) ggX2_tick_X2_exportOld
set_option maxRecDepth 20000 in
theorem ggX2_tick_X2_endInterval : GoodIn wsX2_tick wsX2_endInterval := goodIn_ca ((goodIn_ca (goodIn_ca (goodIn_r _ [103, 31, 104, 9, 105, 2, 14, 15, 16, 17, 18, 19] rfl (by decide +kernel)) (goodIn_sub (fun _ h => List.mem_cons_of_mem _ (List.mem_append_left _ (List.mem_append_left _ (List.mem_append_left _ (List.mem_append_left _ (List.mem_append_left _ (List.mem_append_left _ (List.mem_append_left _ (List.mem_append_left _ (List.mem_append_left _ (List.mem_append_right _ h))))))))))) gw_wsX20)) (goodIn_sub (fun _ h => List.mem_cons_of_mem _ (List.mem_append_left _ (List.mem_append_left _ (List.mem_append_left _ (List.mem_append_left _ (List.mem_append_left _ (List.mem_append_left _ (List.mem_append_right _ h)))))))) gw_wsX10))) (goodIn_sub (fun _ h => List.mem_cons_of_mem _ (List.mem_append_left _ (List.mem_append_right _ h))) (all_fg _))
set_option maxRecDepth 20000 in
theorem gX2_tick_X2_endInterval : GoodIn wsX2_tick (wsV RX2 159 RX2 yX2_endInterval wsX2_endInterval) := goodIn_app (goodIn_m (mem_cA (List.mem_cons_of_mem _ (List.mem_append_left _ (List.mem_append_left _ (List.mem_append_left _ (List.mem_append_left _ (List.mem_append_left _ (List.mem_append_left _ (List.mem_append_left _ (List.mem_append_left _ (List.mem_append_left _ (List.mem_append_left _ (List.mem_append_right _ (List.mem_append_right _ (List.mem_append_right _ (List.mem_append_right _ (List.mem_append_left _ (List.mem_of_getElem? (i := 3) rfl))))))))))))))))) (mem_cA (List.mem_cons_of_mem _ (List.mem_append_left _ (List.mem_append_left _ (List.mem_append_left _ (List.mem_append_left _ (List.mem_append_left _ (List.mem_append_left _ (List.mem_append_left _ (List.mem_append_left _ (List.mem_append_left _ (List.mem_append_left _ (List.mem_append_right _ (List.mem_append_right _ (List.mem_append_right _ (List.mem_append_right _ (List.mem_append_left _ (List.mem_of_getElem? (i := 4) rfl))))))))))))))))) (mem_cA (List.mem_cons_of_mem _ (List.mem_append_left _ (List.mem_append_left _ (List.mem_append_left _ (List.mem_append_left _ (List.mem_append_left _ (List.mem_append_left _ (List.mem_append_left _ (List.mem_append_left _ (List.mem_append_left _ (List.mem_append_left _ (List.mem_append_right _ (List.mem_append_right _ (List.mem_append_right _ (List.mem_append_right _ (List.mem_append_left _ (List.mem_of_getElem? (i := 5) rfl))))))))))))))))) (mem_cA (List.mem_cons_of_mem _ (List.mem_append_left _ (List.mem_append_left _ (List.mem_append_left _ (List.mem_append_left _ (List.mem_append_left _ (List.mem_append_left _ (List.mem_append_left _ (List.mem_append_left _ (List.mem_append_left _ (List.mem_append_left _ (List.mem_append_left _ (List.mem_of_getElem? (i := 6) rfl))))))))))))) mem_cZ)))) (by decide +kernel)) ggX2_tick_X2_endInterval
set_option maxRecDepth 20000 in
theorem ggX2_tick_X2_exportAll : GoodIn wsX2_tick wsX2_exportAll := goodIn_ca (goodIn_ca ((goodIn_ca (goodIn_ca (goodIn_ca (goodIn_ca (goodIn_ca (goodIn_ca (goodIn_ca (goodIn_r _ [109, 10, 11, 26, 27, 28, 7, 29, 9, 30, 31, 32, 33, 3, 2, 34, 35, 36, 23, 37, 38, 25, 39, 21, 22, 24, 40, 41, 42, 43, 44, 45, 46, 47, 48, 17, 49, 50, 51, 52, 53, 54, 55, 56, 57, 58, 59, 60, 61, 62, 63, 64, 65, 66, 67, 68, 69, 70, 71, 72, 73, 74, 75, 76, 77, 78, 79, 80, 81, 82, 83, 84, 85, 86, 87, 88, 89, 90, 91, 92, 93, 94, 95, 96, 97, 98, 99] rfl (by decide +kernel)) (goodIn_sub (fun _ h => List.mem_cons_of_mem _ (List.mem_append_left _ (List.mem_append_left _ (List.mem_append_left _ (List.mem_append_left _ (List.mem_append_left _ (List.mem_append_left _ (List.mem_append_left _ (List.mem_append_left _ (List.mem_append_left _ (List.mem_append_right _ h))))))))))) gw_wsX20)) (goodIn_sub (fun _ h => List.mem_cons_of_mem _ (List.mem_append_left _ (List.mem_append_left _ (List.mem_append_left _ (List.mem_append_left _ (List.mem_append_left _ (List.mem_append_left _ (List.mem_append_left _ (List.mem_append_left _ (List.mem_append_right _ h)))))))))) gw_wsX40)) (goodIn_sub (fun _ h => List.mem_cons_of_mem _ (List.mem_append_left _ (List.mem_append_left _ (List.mem_append_left _ (List.mem_append_left _ (List.mem_append_left _ (List.mem_append_left _ (List.mem_append_left _ (List.mem_append_right _ h))))))))) gw_wsX30)) (goodIn_sub (fun _ h => List.mem_cons_of_mem _ (List.mem_append_left _ (List.mem_append_left _ (List.mem_append_left _ (List.mem_append_left _ (List.mem_append_left _ (List.mem_append_right _ h))))))) gw_wsX100)) (goodIn_sub (fun _ h => List.mem_cons_of_mem _ (List.mem_append_left _ (List.mem_append_left _ (List.mem_append_left _ (List.mem_append_left _ (List.mem_append_left _ (List.mem_append_left _ (List.mem_append_right _ h)))))))) gw_wsX10)) (goodIn_sub (fun _ h => List.mem_cons_of_mem _ (List.mem_append_left _ (List.mem_append_left _ (List.mem_append_left _ (List.mem_append_left _ (List.mem_append_right _ h)))))) gw_wsX80)) (goodIn_sub (fun _ h => List.mem_cons_of_mem _ (List.mem_append_left _ (List.mem_append_left _ (List.mem_append_left _ (List.mem_append_right _ h))))) gw_wsX50))) (goodIn_sub (fun _ h => List.mem_cons_of_mem _ (List.mem_append_left _ (List.mem_append_right _ h))) (all_fg _))) (goodIn_sub (fun _ h => List.mem_cons_of_mem _ (List.mem_append_right _ h)) (all_fg _))
set_option maxRecDepth 20000 in
theorem gX2_tick_X2_exportAll : GoodIn wsX2_tick (wsV RX2 153 RX2 yX2_exportAll wsX2_exportAll) := goodIn_app (goodIn_m (mem_cA (List.mem_cons_of_mem _ (List.mem_append_left _ (List.mem_append_left _ (List.mem_append_left _ (List.mem_append_left _ (List.mem_append_left _ (List.mem_append_left _ (List.mem_append_left _ (List.mem_append_left _ (List.mem_append_left _ (List.mem_append_left _ (List.mem_append_right _ (List.mem_append_right _ (List.mem_append_right _ (List.mem_append_right _ (List.mem_append_left _ (List.mem_of_getElem? (i := 9) rfl))))))))))))))))) (mem_cA (List.mem_cons_of_mem _ (List.mem_append_left _ (List.mem_append_left _ (List.mem_append_left _ (List.mem_append_left _ (List.mem_append_left _ (List.mem_append_left _ (List.mem_append_left _ (List.mem_append_left _ (List.mem_append_left _ (List.mem_append_left _ (List.mem_append_right _ (List.mem_append_right _ (List.mem_append_right _ (List.mem_append_right _ (List.mem_append_left _ (List.mem_of_getElem? (i := 10) rfl))))))))))))))))) (mem_cA (List.mem_cons_of_mem _ (List.mem_append_left _ (List.mem_append_left _ (List.mem_append_left _ (List.mem_append_left _ (List.mem_append_left _ (List.mem_append_left _ (List.mem_append_left _ (List.mem_append_left _ (List.mem_append_left _ (List.mem_append_left _ (List.mem_append_right _ (List.mem_append_right _ (List.mem_append_right _ (List.mem_append_right _ (List.mem_append_left _ (List.mem_of_getElem? (i := 11) rfl))))))))))))))))) (mem_cA (List.mem_cons_of_mem _ (List.mem_append_left _ (List.mem_append_left _ (List.mem_append_left _ (List.mem_append_left _ (List.mem_append_left _ (List.mem_append_left _ (List.mem_append_left _ (List.mem_append_left _ (List.mem_append_left _ (List.mem_append_left _ (List.mem_append_left _ (List.mem_of_getElem? (i := 6) rfl))))))))))))) mem_cZ)))) (by decide +kernel)) ggX2_tick_X2_exportAll
set_option maxRecDepth 20000 in
theorem ggX2_tick_X8_sendPending : GoodIn wsX2_tick wsX8_sendPending := goodIn_ca ((goodIn_ca (goodIn_ca (goodIn_ca (goodIn_ca (goodIn_ca (goodIn_r _ [113, 65, 66, 67, 114, 115, 69, 116, 117, 118, 63, 119, 120, 121, 122, 123, 124, 125, 126, 127, 128, 129, 130, 131, 132, 133, 134, 93, 94, 95, 96, 97, 98, 99, 135, 136, 137, 138, 139, 140, 141, 142, 143, 144, 145, 146, 68, 71, 52, 53, 17, 54, 55, 147, 15, 16, 18, 19, 148, 149, 150, 151, 72, 73, 74, 75, 76, 77, 78, 89, 90, 91, 92, 152, 153, 154, 155, 156, 157, 158, 159, 160, 161, 162, 163, 164, 165, 166, 167, 168, 169, 170, 171, 172, 173, 174, 175, 176, 177, 178, 179, 180, 181] rfl (by decide +kernel)) (goodIn_sub (fun _ h => List.mem_cons_of_mem _ (List.mem_append_left _ (List.mem_append_left _ (List.mem_append_left _ (List.mem_append_left _ (List.mem_append_right _ h)))))) gw_wsX80)) (goodIn_sub (fun _ h => List.mem_cons_of_mem _ (List.mem_append_left _ (List.mem_append_left _ (List.mem_append_left _ (List.mem_append_left _ (List.mem_append_left _ (List.mem_append_right _ h))))))) gw_wsX100)) (goodIn_sub (fun _ h => List.mem_cons_of_mem _ (List.mem_append_left _ (List.mem_append_left _ (List.mem_append_left _ (List.mem_append_right _ h))))) gw_wsX50)) (goodIn_sub (fun _ h => List.mem_cons_of_mem _ (List.mem_append_left _ (List.mem_append_left _ (List.mem_append_right _ h)))) gw_wsX70)) (goodIn_sub (fun _ h => List.mem_cons_of_mem _ (List.mem_append_left _ (List.mem_append_left _ (List.mem_append_left _ (List.mem_append_left _ (List.mem_append_left _ (List.mem_append_left _ (List.mem_append_right _ h)))))))) gw_wsX10))) (goodIn_sub (fun _ h => List.mem_cons_of_mem _ (List.mem_append_left _ (List.mem_append_right _ h))) (all_fg _))
set_option maxRecDepth 20000 in
theorem gX2_tick_X8_sendPending : GoodIn wsX2_tick (wsV RX2 82 RX8 yX8_sendPending wsX8_sendPending) := goodIn_app (goodIn_m (mem_cA (List.mem_cons_of_mem _ (List.mem_append_left _ (List.mem_append_left _ (List.mem_append_left _ (List.mem_append_left _ (List.mem_append_left _ (List.mem_append_left _ (List.mem_append_left _ (List.mem_append_left _ (List.mem_append_left _ (List.mem_append_left _ (List.mem_append_right _ (List.mem_append_right _ (List.mem_append_right _ (List.mem_append_right _ (List.mem_append_left _ (List.mem_of_getElem? (i := 13) rfl))))))))))))))))) (mem_cA (List.mem_cons_of_mem _ (List.mem_append_left _ (List.mem_append_left _ (List.mem_append_left _ (List.mem_append_left _ (List.mem_append_left _ (List.mem_append_left _ (List.mem_append_left _ (List.mem_append_left _ (List.mem_append_left _ (List.mem_append_left _ (List.mem_append_right _ (List.mem_append_right _ (List.mem_append_right _ (List.mem_append_right _ (List.mem_append_left _ (List.mem_of_getElem? (i := 14) rfl))))))))))))))))) (mem_cA (List.mem_cons_of_mem _ (List.mem_append_left _ (List.mem_append_left _ (List.mem_append_left _ (List.mem_append_left _ (List.mem_append_left _ (List.mem_append_left _ (List.mem_append_left _ (List.mem_append_left _ (List.mem_append_left _ (List.mem_append_left _ (List.mem_append_right _ (List.mem_append_right _ (List.mem_append_right _ (List.mem_append_right _ (List.mem_append_left _ (List.mem_of_getElem? (i := 15) rfl))))))))))))))))) (mem_cA (List.mem_cons_of_mem _ (List.mem_append_left _ (List.mem_append_left _ (List.mem_append_left _ (List.mem_append_left _ (List.mem_append_left _ (List.mem_append_left _ (List.mem_append_left _ (List.mem_append_left _ (List.mem_append_left _ (List.mem_append_left _ (List.mem_append_right _ (List.mem_append_right _ (List.mem_append_left _ (List.mem_of_getElem? (i := 14) rfl))))))))))))))) mem_cZ)))) (by decide +kernel)) ggX2_tick_X8_sendPending
theorem dX2_tick_0 : decode cX2_tick 0 = .ok (.aload_n 0, 1) := by decide +kernel
theorem dX2_tick_1 : decode cX2_tick 1 = .ok (.dup, 1) := by decide +kernel
theorem dX2_tick_2 : decode cX2_tick 2 = .ok (.getfield 23, 3) := by decide +kernel
theorem dX2_tick_5 : decode cX2_tick 5 = .ok (.iconst 1, 1) := by decide +kernel
theorem dX2_tick_6 : decode cX2_tick 6 = .ok (.iadd, 1) := by decide +kernel
theorem dX2_tick_7 : decode cX2_tick 7 = .ok (.putfield 23, 3) := by decide +kernel
theorem dX2_tick_10 : decode cX2_tick 10 = .ok (.aload_n 0, 1) := by decide +kernel
theorem dX2_tick_11 : decode cX2_tick 11 = .ok (.invokevirtual 156, 3) := by decide +kernel
theorem dX2_tick_14 : decode cX2_tick 14 = .ok (.aload_n 0, 1) := by decide +kernel
theorem dX2_tick_15 : decode cX2_tick 15 = .ok (.getfield 23, 3) := by decide +kernel
theorem dX2_tick_18 : decode cX2_tick 18 = .ok (.bipush 100, 2) := by decide +kernel
theorem dX2_tick_20 : decode cX2_tick 20 = .ok (.irem, 1) := by decide +kernel
theorem dX2_tick_21 : decode cX2_tick 21 = .ok (.ifCond .ne 10, 3) := by decide +kernel
theorem dX2_tick_24 : decode cX2_tick 24 = .ok (.aload_n 0, 1) := by decide +kernel
theorem dX2_tick_25 : decode cX2_tick 25 = .ok (.invokevirtual 159, 3) := by decide +kernel
theorem dX2_tick_28 : decode cX2_tick 28 = .ok (.goto 7, 3) := by decide +kernel
theorem dX2_tick_31 : decode cX2_tick 31 = .ok (.aload_n 0, 1) := by decide +kernel
theorem dX2_tick_32 : decode cX2_tick 32 = .ok (.getfield 27, 3) := by decide +kernel
theorem dX2_tick_35 : decode cX2_tick 35 = .ok (.istore_n 1, 1) := by decide +kernel
theorem dX2_tick_36 : decode cX2_tick 36 = .ok (.iload_n 1, 1) := by decide +kernel
theorem dX2_tick_37 : decode cX2_tick 37 = .ok (.aload_n 0, 1) := by decide +kernel
theorem dX2_tick_38 : decode cX2_tick 38 = .ok (.getfield 27, 3) := by decide +kernel
theorem dX2_tick_41 : decode cX2_tick 41 = .ok (.if_icmp .eq 12, 3) := by decide +kernel
theorem dX2_tick_44 : decode cX2_tick 44 = .ok (.aload_n 0, 1) := by decide +kernel
theorem dX2_tick_45 : decode cX2_tick 45 = .ok (.invokevirtual 153, 3) := by decide +kernel
theorem dX2_tick_48 : decode cX2_tick 48 = .ok (.aload_n 0, 1) := by decide +kernel
theorem dX2_tick_49 : decode cX2_tick 49 = .ok (.iload_n 1, 1) := by decide +kernel
theorem dX2_tick_50 : decode cX2_tick 50 = .ok (.putfield 27, 3) := by decide +kernel
theorem dX2_tick_53 : decode cX2_tick 53 = .ok (.aload_n 0, 1) := by decide +kernel
theorem dX2_tick_54 : decode cX2_tick 54 = .ok (.getfield 57, 3) := by decide +kernel
theorem dX2_tick_57 : decode cX2_tick 57 = .ok (.aload_n 0, 1) := by decide +kernel
theorem dX2_tick_58 : decode cX2_tick 58 = .ok (.getfield 23, 3) := by decide +kernel
theorem dX2_tick_61 : decode cX2_tick 61 = .ok (.invokevirtual 82, 3) := by decide +kernel
theorem dX2_tick_64 : decode cX2_tick 64 = .ok (.return_, 1) := by decide +kernel
set_option maxHeartbeats 4000000 in
set_option maxRecDepth 100000 in
theorem s_X2_exportAllAndSend (G : EnvG) (l : Launch) (Φ : Hm) (sz x ca : Nat) (nw : Int32) (rt : Int32) (dw : Int32) (aq : Int32) (xp : Int32) (xb : Int32) (ob : Int64) (sm : Int64) (un : Int64) (hx : G.2.2.2 ≤ x) (hI : In G x ca Φ) (hc0 : Φ (x + 80) = some (o_ 4 [.ref (x + 3), .ref (x + 74), .ref (x + 81), .ref (x + 95), .int nw, .int rt, .int dw, .int aq, .int xp, .int xb, .long ob, .long sm, .long un])) (had : aq = 0 ∨ aq = 1) : Ct G l yX2_exportAllAndSend wsX2_exportAllAndSend ({ frames := 5, cells := 0, slots := 0, locals := 125 }) 0 0 [.ref (x + 80)] Φ sz (fun v Φ1 sz1 => ((∃ n9 : Nat, v = some (.int (nI n9)) ∧ n9 ≤ 12) ∧ ∃ xp8 : Int32, ∃ un8 : Int64, Φ1 (x + 80) = some (o_ 4 [.ref (x + 3), .ref (x + 74), .ref (x + 81), .ref (x + 95), .int nw, .int rt, .int dw, .int aq, .int xp8, .int xb, .long ob, .long sm, .long un8])) ∧ sz1 = sz ∧ In G x (ca) Φ1 ∧ Fr x (fun j9 => 46 ≤ j9 ∧ j9 < 95) Φ Φ1) := by
  refine Ct.of (cc := cX2_exportAllAndSend) (maxL := 2) (ret := (some .int)) (by decide) rfl (Nat.le_of_ble_eq_true rfl) ?_
  intro p9 e9 s9 m9 w9 t9 k9 B
  show Z p9 l e9 _ s9 m9 _ w9 t9 k9 _ G 2 0 [(0, .ref (x + 80))] [] Φ sz 0 0
  refine z_aload_n B dX2_exportAllAndSend_0 rfl 0 rfl ?_
  refine z_get (ref := "FlowExporter$Exporter") (C := RX2) (T := TX2) (N := 13) (ci := 4) (v := .ref (x + 81)) B hu_X2_exportAllAndSend_X2 rfl 2 (Nat.le_of_ble_eq_true rfl) hv_X2_exportAllAndSend_14 rfl hc0 rfl dX2_exportAllAndSend_1 ?_
  obtain ⟨n_1, h_1, b_1⟩ := in17 (k := 81) hI rfl
  replace b_1 : n_1 ≤ 12 := b_1
  have h_2 : Φ (x + 81) = some (o_ 6 [.ref (x + 82), .int (nI n_1)]) := h_1
  refine z_get (ref := "FlowExporter$FlowTable") (C := RX4) (T := TX4) (N := 2) (ci := 6) (v := .int (nI n_1)) B hu_X2_exportAllAndSend_X4 rfl 1 (Nat.le_of_ble_eq_true rfl) hv_X2_exportAllAndSend_61 rfl h_2 rfl dX2_exportAllAndSend_4 ?_
  refine z_istore_n (lv' := [(1, .int (nI n_1)), (0, .ref (x + 80))]) B dX2_exportAllAndSend_7 rfl (Nat.le_of_ble_eq_true rfl) rfl ?_
  refine z_aload_n B dX2_exportAllAndSend_8 rfl 1 rfl ?_
  refine z_callV (As := []) (rest := []) B (s_X2_exportAll G l Φ sz x (ca) nw rt dw aq xp xb ob sm un hx hI hc0 had) (cwV 0 B.1.2.2.2.2 gX2_exportAllAndSend_X2_exportAll rfl rfl rfl (by decide +kernel) ⟨Nat.le_of_ble_eq_true rfl, Nat.le_of_ble_eq_true rfl⟩) hc0 rfl rfl rfl rfl (Nat.le_of_ble_eq_true rfl) dX2_exportAllAndSend_9 ⟨Nat.le_of_ble_eq_true rfl, Nat.le_of_ble_eq_true rfl⟩ (fun r_1 Φ1 sz1 st1 hp1 hs1 => ?_)
  obtain ⟨⟨rfl, v_1, v_2, h_3⟩, hq1, hI1, hF1⟩ := hp1
  subst sz1
  replace hs1 : st1 = [] := hs1
  subst st1
  replace hI1 : In G x (ca) Φ1 := hI1
  refine z_aload_n B dX2_exportAllAndSend_12 rfl 1 rfl ?_
  refine z_get (ref := "FlowExporter$Exporter") (C := RX2) (T := TX2) (N := 13) (ci := 4) (v := .ref (x + 74)) B hu_X2_exportAllAndSend_X2 rfl 1 (Nat.le_of_ble_eq_true rfl) hv_X2_exportAllAndSend_57 rfl h_3 rfl dX2_exportAllAndSend_13 ?_
  refine z_aload_n B dX2_exportAllAndSend_16 rfl 1 rfl ?_
  refine z_get (ref := "FlowExporter$Exporter") (C := RX2) (T := TX2) (N := 13) (ci := 4) (v := .int nw) B hu_X2_exportAllAndSend_X2 rfl 4 (Nat.le_of_ble_eq_true rfl) hv_X2_exportAllAndSend_23 rfl h_3 rfl dX2_exportAllAndSend_17 ?_
  obtain ⟨n_2, v_3, v_4, v_5, h_4, b_2⟩ := in13 (k := 74) hI1 rfl
  have h_5 : Φ1 (x + 74) = some (o_ 10 [.ref (x + 3), .ref (x + 46), .ref (x + 75), .ref (x + 77), .int (nI n_2), .ref (x + 78), .ref (x + 79), .int v_3, .long v_4, .int v_5]) := h_4
  refine z_callV (As := [.int nw]) (rest := []) B (s_X8_sendPending G l Φ1 sz x (ca) nw hx hI1 ) (cwV 1 B.1.2.2.2.2 gX2_exportAllAndSend_X8_sendPending rfl rfl rfl (by decide +kernel) ⟨Nat.le_of_ble_eq_true rfl, Nat.le_of_ble_eq_true rfl⟩) h_5 rfl rfl rfl rfl (Nat.le_of_ble_eq_true rfl) dX2_exportAllAndSend_20 ⟨Nat.le_of_ble_eq_true rfl, Nat.le_of_ble_eq_true rfl⟩ (fun r_2 Φ2 sz2 st2 hp2 hs2 => ?_)
  obtain ⟨rfl, hq2, hI2, hF2⟩ := hp2
  subst sz2
  replace hs2 : st2 = [] := hs2
  subst st2
  replace hI2 : In G x (ca) Φ2 := hI2
  refine z_iload_n B dX2_exportAllAndSend_23 rfl 0 rfl ?_
  have h_6 : Φ2 (x + 80) = some (o_ 4 [.ref (x + 3), .ref (x + 74), .ref (x + 81), .ref (x + 95), .int nw, .int rt, .int dw, .int aq, .int v_1, .int xb, .long ob, .long sm, .long v_2]) := ((hF2 (x + 80) fq_260).trans h_3)
  exact z_ret_i B dX2_exportAllAndSend_24 ⟨⟨⟨n_1, rfl, (show n_1 ≤ 12 by omega)⟩, v_1, v_2, h_6⟩, rfl, hI2, (fun b9 h9 => ((hF2 b9 (fun j9 h8 h7 => h9 j9 h8 (fq_262 j9 h7))).trans ((hF1 b9 (fun j9 h8 h7 => h9 j9 h8 (fq_261 j9 h7))).trans rfl)))⟩

theorem hu_X2_tick_X2 : ∀ w ∈ u_ws RX2 TX2 13, w ∈ wsX2_tick := fun _ h => List.mem_cons_of_mem _ (List.mem_append_left _ (List.mem_append_left _ (List.mem_append_left _ (List.mem_append_left _ (List.mem_append_left _ (List.mem_append_left _ (List.mem_append_left _ (List.mem_append_left _ (List.mem_append_left _ (List.mem_append_right _ (h)))))))))))

theorem hv_X2_tick_23 : Cond.fieldLink RX2 23 "FlowExporter$Exporter" (TX2 4).2.1 (TX2 4).2.2.1 ∈ wsX2_tick := List.mem_cons_of_mem _ (List.mem_append_left _ (List.mem_append_left _ (List.mem_append_left _ (List.mem_append_left _ (List.mem_append_left _ (List.mem_append_left _ (List.mem_append_left _ (List.mem_append_left _ (List.mem_append_left _ (List.mem_append_left _ (List.mem_append_left _ (List.mem_of_getElem? (i := 0) rfl))))))))))))

theorem hv_X2_tick_27 : Cond.fieldLink RX2 27 "FlowExporter$Exporter" (TX2 5).2.1 (TX2 5).2.2.1 ∈ wsX2_tick := List.mem_cons_of_mem _ (List.mem_append_left _ (List.mem_append_left _ (List.mem_append_left _ (List.mem_append_left _ (List.mem_append_left _ (List.mem_append_left _ (List.mem_append_left _ (List.mem_append_left _ (List.mem_append_left _ (List.mem_append_left _ (List.mem_append_left _ (List.mem_of_getElem? (i := 1) rfl))))))))))))

theorem hv_X2_tick_57 : Cond.fieldLink RX2 57 "FlowExporter$Exporter" (TX2 1).2.1 (TX2 1).2.2.1 ∈ wsX2_tick := List.mem_cons_of_mem _ (List.mem_append_left _ (List.mem_append_left _ (List.mem_append_left _ (List.mem_append_left _ (List.mem_append_left _ (List.mem_append_left _ (List.mem_append_left _ (List.mem_append_left _ (List.mem_append_left _ (List.mem_append_left _ (List.mem_append_left _ (List.mem_of_getElem? (i := 2) rfl))))))))))))

theorem fq_267 : ∀ j9 : Nat, (j9 = 80) → (46 ≤ j9 ∧ j9 < 95) := by
  intro j9 h
  omega

set_option maxHeartbeats 4000000 in
set_option maxRecDepth 100000 in
theorem s_X2_tick (G : EnvG) (l : Launch) (Φ : Hm) (sz x ca : Nat) (nw : Int32) (rt : Int32) (dw : Int32) (aq : Int32) (xp : Int32) (xb : Int32) (ob : Int64) (sm : Int64) (un : Int64) (hx : G.2.2.2 ≤ x) (hI : In G x ca Φ) (hc0 : Φ (x + 80) = some (o_ 4 [.ref (x + 3), .ref (x + 74), .ref (x + 81), .ref (x + 95), .int nw, .int rt, .int dw, .int aq, .int xp, .int xb, .long ob, .long sm, .long un])) (had : aq = 0 ∨ aq = 1) : Ct G l yX2_tick wsX2_tick ({ frames := 5, cells := 0, slots := 0, locals := 125 }) 0 0 [.ref (x + 80)] Φ sz (fun v Φ1 sz1 => ((v = none) ∧ ∃ rt8 : Int32, ∃ xp8 : Int32, ∃ xb8 : Int32, ∃ un8 : Int64, Φ1 (x + 80) = some (o_ 4 [.ref (x + 3), .ref (x + 74), .ref (x + 81), .ref (x + 95), .int (nw + 1), .int rt8, .int dw, .int aq, .int xp8, .int xb8, .long ob, .long sm, .long un8])) ∧ sz1 = sz ∧ In G x (ca) Φ1 ∧ Fr x (fun j9 => 46 ≤ j9 ∧ j9 < 95) Φ Φ1) := by
  refine Ct.of (cc := cX2_tick) (maxL := 2) (ret := none) (by decide) rfl (Nat.le_of_ble_eq_true rfl) ?_
  intro p9 e9 s9 m9 w9 t9 k9 B
  show Z p9 l e9 _ s9 m9 _ w9 t9 k9 _ G 2 0 [(0, .ref (x + 80))] [] Φ sz 0 0
  refine z_aload_n B dX2_tick_0 rfl 0 rfl ?_
  refine z_dup B dX2_tick_1 rfl ?_
  refine z_get (ref := "FlowExporter$Exporter") (C := RX2) (T := TX2) (N := 13) (ci := 4) (v := .int nw) B hu_X2_tick_X2 rfl 4 (Nat.le_of_ble_eq_true rfl) hv_X2_tick_23 rfl hc0 rfl dX2_tick_2 ?_
  refine z_iconst (v := 1) B dX2_tick_5 rfl ?_
  refine z_iadd B dX2_tick_6 ?_
  refine z_put (ref := "FlowExporter$Exporter") (C := RX2) (T := TX2) (N := 13) (ci := 4) (v := .int (nw + 1)) B hu_X2_tick_X2 tyX2 tyX2_ok nmX2 rfl 4 (Nat.le_of_ble_eq_true rfl) hv_X2_tick_23 rfl (Or.inl rfl) hc0 (Nat.le_trans hx (Nat.le_add_right x 80)) rfl rfl (Nat.le_of_ble_eq_true rfl) dX2_tick_7 (fun Φ1 hΦ1 => ?_)
  have h_1 : Φ1 (x + 80) = some (o_ 4 [.ref (x + 3), .ref (x + 74), .ref (x + 81), .ref (x + 95), .int (nw + 1), .int rt, .int dw, .int aq, .int xp, .int xb, .long ob, .long sm, .long un]) := fset_at hΦ1
  have hI1 : In G x (ca) Φ1 := In.put (k := 80) hI hΦ1 (ok16 (k := 80) rfl ⟨nw + 1, rt, dw, aq, xp, xb, ob, sm, un, rfl, had⟩)
  refine z_aload_n B dX2_tick_10 rfl 0 rfl ?_
  refine z_callV (As := []) (rest := []) B (s_X2_exportOld G l Φ1 sz x (ca) (nw + 1) rt dw aq xp xb ob sm un hx hI1 h_1 had) (cwV 0 B.1.2.2.2.2 gX2_tick_X2_exportOld rfl rfl rfl (by decide +kernel) ⟨Nat.le_of_ble_eq_true rfl, Nat.le_of_ble_eq_true rfl⟩) h_1 rfl rfl rfl rfl (Nat.le_of_ble_eq_true rfl) dX2_tick_11 ⟨Nat.le_of_ble_eq_true rfl, Nat.le_of_ble_eq_true rfl⟩ (fun r_1 Φ2 sz1 st1 hp1 hs1 => ?_)
  obtain ⟨⟨rfl, v_1, v_2, h_2⟩, hq1, hI2, hF1⟩ := hp1
  subst sz1
  replace hs1 : st1 = [] := hs1
  subst st1
  replace hI2 : In G x (ca) Φ2 := hI2
  refine z_aload_n B dX2_tick_14 rfl 0 rfl ?_
  refine z_get (ref := "FlowExporter$Exporter") (C := RX2) (T := TX2) (N := 13) (ci := 4) (v := .int (nw + 1)) B hu_X2_tick_X2 rfl 4 (Nat.le_of_ble_eq_true rfl) hv_X2_tick_23 rfl h_2 rfl dX2_tick_15 ?_
  refine z_bipush (v := 100) B dX2_tick_18 rfl ?_
  refine z_irem B dX2_tick_20 (by decide) ?_
  refine z_fi (fun v_3 => ?_)
  refine z_if_ne (tgt := 31) B dX2_tick_21 rfl (fun c_1 => ?_) (fun c_1 => ?_)
  · refine z_aload_n B dX2_tick_31 rfl 0 rfl ?_
    refine z_get (ref := "FlowExporter$Exporter") (C := RX2) (T := TX2) (N := 13) (ci := 4) (v := .int rt) B hu_X2_tick_X2 rfl 5 (Nat.le_of_ble_eq_true rfl) hv_X2_tick_27 rfl h_2 rfl dX2_tick_32 ?_
    refine z_istore_n (lv' := [(1, .int rt), (0, .ref (x + 80))]) B dX2_tick_35 rfl (Nat.le_of_ble_eq_true rfl) rfl ?_
    refine z_iload_n B dX2_tick_36 rfl 0 rfl ?_
    refine z_aload_n B dX2_tick_37 rfl 1 rfl ?_
    refine z_get (ref := "FlowExporter$Exporter") (C := RX2) (T := TX2) (N := 13) (ci := 4) (v := .int rt) B hu_X2_tick_X2 rfl 5 (Nat.le_of_ble_eq_true rfl) hv_X2_tick_27 rfl h_2 rfl dX2_tick_38 ?_
    refine z_icmp_eq (tgt := 53) B dX2_tick_41 rfl (fun c_2 => ?_) (fun h9 => absurd (Eq.refl _) h9)
    refine z_aload_n B dX2_tick_53 rfl 1 rfl ?_
    refine z_get (ref := "FlowExporter$Exporter") (C := RX2) (T := TX2) (N := 13) (ci := 4) (v := .ref (x + 74)) B hu_X2_tick_X2 rfl 1 (Nat.le_of_ble_eq_true rfl) hv_X2_tick_57 rfl h_2 rfl dX2_tick_54 ?_
    refine z_aload_n B dX2_tick_57 rfl 1 rfl ?_
    refine z_get (ref := "FlowExporter$Exporter") (C := RX2) (T := TX2) (N := 13) (ci := 4) (v := .int (nw + 1)) B hu_X2_tick_X2 rfl 4 (Nat.le_of_ble_eq_true rfl) hv_X2_tick_23 rfl h_2 rfl dX2_tick_58 ?_
    obtain ⟨n_1, v_4, v_5, v_6, h_3, b_1⟩ := in13 (k := 74) hI2 rfl
    have h_4 : Φ2 (x + 74) = some (o_ 10 [.ref (x + 3), .ref (x + 46), .ref (x + 75), .ref (x + 77), .int (nI n_1), .ref (x + 78), .ref (x + 79), .int v_4, .long v_5, .int v_6]) := h_3
    refine z_callV (As := [.int (nw + 1)]) (rest := []) B (s_X8_sendPending G l Φ2 sz x (ca) (nw + 1) hx hI2 ) (cwV 1 B.1.2.2.2.2 gX2_tick_X8_sendPending rfl rfl rfl (by decide +kernel) ⟨Nat.le_of_ble_eq_true rfl, Nat.le_of_ble_eq_true rfl⟩) h_4 rfl rfl rfl rfl (Nat.le_of_ble_eq_true rfl) dX2_tick_61 ⟨Nat.le_of_ble_eq_true rfl, Nat.le_of_ble_eq_true rfl⟩ (fun r_2 Φ3 sz2 st2 hp2 hs2 => ?_)
    obtain ⟨rfl, hq2, hI3, hF2⟩ := hp2
    subst sz2
    replace hs2 : st2 = [] := hs2
    subst st2
    replace hI3 : In G x (ca) Φ3 := hI3
    have h_5 : Φ3 (x + 80) = some (o_ 4 [.ref (x + 3), .ref (x + 74), .ref (x + 81), .ref (x + 95), .int (nw + 1), .int rt, .int dw, .int aq, .int v_1, .int xb, .long ob, .long sm, .long v_2]) := ((hF2 (x + 80) fq_260).trans h_2)
    exact z_ret_v B dX2_tick_64 ⟨⟨rfl, rt, v_1, xb, v_2, h_5⟩, rfl, hI3, (fun b9 h9 => ((hF2 b9 (fun j9 h8 h7 => h9 j9 h8 (fq_262 j9 h7))).trans ((hF1 b9 (fun j9 h8 h7 => h9 j9 h8 (fq_261 j9 h7))).trans ((fset_fr hΦ1 (fun h8 => h9 (80) h8 (show 46 ≤ 80 ∧ 80 < 95 by decide))).trans rfl))))⟩
  · refine z_aload_n B dX2_tick_24 rfl 0 rfl ?_
    refine z_callV (As := []) (rest := []) B (s_X2_endInterval G l Φ2 sz x (ca) (nw + 1) rt dw aq v_1 xb ob sm v_2 hx hI2 h_2 had) (cwV 0 B.1.2.2.2.2 gX2_tick_X2_endInterval rfl rfl rfl (by decide +kernel) ⟨Nat.le_of_ble_eq_true rfl, Nat.le_of_ble_eq_true rfl⟩) h_2 rfl rfl rfl rfl (Nat.le_of_ble_eq_true rfl) dX2_tick_25 ⟨Nat.le_of_ble_eq_true rfl, Nat.le_of_ble_eq_true rfl⟩ (fun r_3 Φ4 sz3 st3 hp3 hs3 => ?_)
    obtain ⟨⟨⟨v_7, rfl⟩, v_8, h_6⟩, hq3, hI4, hF3⟩ := hp3
    subst sz3
    replace hs3 : st3 = [.int v_7] := hs3
    subst st3
    replace hI4 : In G x (ca) Φ4 := hI4
    refine z_goto (tgt := 35) B dX2_tick_28 rfl ?_
    refine z_istore_n (lv' := [(1, .int v_7), (0, .ref (x + 80))]) B dX2_tick_35 rfl (Nat.le_of_ble_eq_true rfl) rfl ?_
    refine z_iload_n B dX2_tick_36 rfl 0 rfl ?_
    refine z_aload_n B dX2_tick_37 rfl 1 rfl ?_
    refine z_get (ref := "FlowExporter$Exporter") (C := RX2) (T := TX2) (N := 13) (ci := 4) (v := .int rt) B hu_X2_tick_X2 rfl 5 (Nat.le_of_ble_eq_true rfl) hv_X2_tick_27 rfl h_6 rfl dX2_tick_38 ?_
    refine z_icmp_eq (tgt := 53) B dX2_tick_41 rfl (fun c_3 => ?_) (fun c_3 => ?_)
    · refine z_aload_n B dX2_tick_53 rfl 1 rfl ?_
      refine z_get (ref := "FlowExporter$Exporter") (C := RX2) (T := TX2) (N := 13) (ci := 4) (v := .ref (x + 74)) B hu_X2_tick_X2 rfl 1 (Nat.le_of_ble_eq_true rfl) hv_X2_tick_57 rfl h_6 rfl dX2_tick_54 ?_
      refine z_aload_n B dX2_tick_57 rfl 1 rfl ?_
      refine z_get (ref := "FlowExporter$Exporter") (C := RX2) (T := TX2) (N := 13) (ci := 4) (v := .int (nw + 1)) B hu_X2_tick_X2 rfl 4 (Nat.le_of_ble_eq_true rfl) hv_X2_tick_23 rfl h_6 rfl dX2_tick_58 ?_
      obtain ⟨n_2, v_9, v_10, v_11, h_7, b_2⟩ := in13 (k := 74) hI4 rfl
      have h_8 : Φ4 (x + 74) = some (o_ 10 [.ref (x + 3), .ref (x + 46), .ref (x + 75), .ref (x + 77), .int (nI n_2), .ref (x + 78), .ref (x + 79), .int v_9, .long v_10, .int v_11]) := h_7
      refine z_callV (As := [.int (nw + 1)]) (rest := []) B (s_X8_sendPending G l Φ4 sz x (ca) (nw + 1) hx hI4 ) (cwV 1 B.1.2.2.2.2 gX2_tick_X8_sendPending rfl rfl rfl (by decide +kernel) ⟨Nat.le_of_ble_eq_true rfl, Nat.le_of_ble_eq_true rfl⟩) h_8 rfl rfl rfl rfl (Nat.le_of_ble_eq_true rfl) dX2_tick_61 ⟨Nat.le_of_ble_eq_true rfl, Nat.le_of_ble_eq_true rfl⟩ (fun r_4 Φ5 sz4 st4 hp4 hs4 => ?_)
      obtain ⟨rfl, hq4, hI5, hF4⟩ := hp4
      subst sz4
      replace hs4 : st4 = [] := hs4
      subst st4
      replace hI5 : In G x (ca) Φ5 := hI5
      have h_9 : Φ5 (x + 80) = some (o_ 4 [.ref (x + 3), .ref (x + 74), .ref (x + 81), .ref (x + 95), .int (nw + 1), .int rt, .int dw, .int aq, .int v_1, .int v_8, .long ob, .long sm, .long v_2]) := ((hF4 (x + 80) fq_260).trans h_6)
      exact z_ret_v B dX2_tick_64 ⟨⟨rfl, rt, v_1, v_8, v_2, h_9⟩, rfl, hI5, (fun b9 h9 => ((hF4 b9 (fun j9 h8 h7 => h9 j9 h8 (fq_262 j9 h7))).trans ((hF3 b9 (fun j9 h8 h7 => h9 j9 h8 (fq_267 j9 h7))).trans ((hF1 b9 (fun j9 h8 h7 => h9 j9 h8 (fq_261 j9 h7))).trans ((fset_fr hΦ1 (fun h8 => h9 (80) h8 (show 46 ≤ 80 ∧ 80 < 95 by decide))).trans rfl)))))⟩
    · refine z_aload_n B dX2_tick_44 rfl 1 rfl ?_
      refine z_callV (As := []) (rest := []) B (s_X2_exportAll G l Φ4 sz x (ca) (nw + 1) rt dw aq v_1 v_8 ob sm v_2 hx hI4 h_6 had) (cwV 0 B.1.2.2.2.2 gX2_tick_X2_exportAll rfl rfl rfl (by decide +kernel) ⟨Nat.le_of_ble_eq_true rfl, Nat.le_of_ble_eq_true rfl⟩) h_6 rfl rfl rfl rfl (Nat.le_of_ble_eq_true rfl) dX2_tick_45 ⟨Nat.le_of_ble_eq_true rfl, Nat.le_of_ble_eq_true rfl⟩ (fun r_5 Φ6 sz5 st5 hp5 hs5 => ?_)
      obtain ⟨⟨rfl, v_12, v_13, h_10⟩, hq5, hI6, hF5⟩ := hp5
      subst sz5
      replace hs5 : st5 = [] := hs5
      subst st5
      replace hI6 : In G x (ca) Φ6 := hI6
      refine z_aload_n B dX2_tick_48 rfl 1 rfl ?_
      refine z_iload_n B dX2_tick_49 rfl 0 rfl ?_
      refine z_put (ref := "FlowExporter$Exporter") (C := RX2) (T := TX2) (N := 13) (ci := 4) (v := .int v_7) B hu_X2_tick_X2 tyX2 tyX2_ok nmX2 rfl 5 (Nat.le_of_ble_eq_true rfl) hv_X2_tick_27 rfl (Or.inl rfl) h_10 (Nat.le_trans hx (Nat.le_add_right x 80)) rfl rfl (Nat.le_of_ble_eq_true rfl) dX2_tick_50 (fun Φ7 hΦ2 => ?_)
      have h_11 : Φ7 (x + 80) = some (o_ 4 [.ref (x + 3), .ref (x + 74), .ref (x + 81), .ref (x + 95), .int (nw + 1), .int v_7, .int dw, .int aq, .int v_12, .int v_8, .long ob, .long sm, .long v_13]) := fset_at hΦ2
      have hI7 : In G x (ca) Φ7 := In.put (k := 80) hI6 hΦ2 (ok16 (k := 80) rfl ⟨nw + 1, v_7, dw, aq, v_12, v_8, ob, sm, v_13, rfl, had⟩)
      refine z_aload_n B dX2_tick_53 rfl 1 rfl ?_
      refine z_get (ref := "FlowExporter$Exporter") (C := RX2) (T := TX2) (N := 13) (ci := 4) (v := .ref (x + 74)) B hu_X2_tick_X2 rfl 1 (Nat.le_of_ble_eq_true rfl) hv_X2_tick_57 rfl h_11 rfl dX2_tick_54 ?_
      refine z_aload_n B dX2_tick_57 rfl 1 rfl ?_
      refine z_get (ref := "FlowExporter$Exporter") (C := RX2) (T := TX2) (N := 13) (ci := 4) (v := .int (nw + 1)) B hu_X2_tick_X2 rfl 4 (Nat.le_of_ble_eq_true rfl) hv_X2_tick_23 rfl h_11 rfl dX2_tick_58 ?_
      obtain ⟨n_3, v_14, v_15, v_16, h_12, b_3⟩ := in13 (k := 74) hI7 rfl
      have h_13 : Φ7 (x + 74) = some (o_ 10 [.ref (x + 3), .ref (x + 46), .ref (x + 75), .ref (x + 77), .int (nI n_3), .ref (x + 78), .ref (x + 79), .int v_14, .long v_15, .int v_16]) := h_12
      refine z_callV (As := [.int (nw + 1)]) (rest := []) B (s_X8_sendPending G l Φ7 sz x (ca) (nw + 1) hx hI7 ) (cwV 1 B.1.2.2.2.2 gX2_tick_X8_sendPending rfl rfl rfl (by decide +kernel) ⟨Nat.le_of_ble_eq_true rfl, Nat.le_of_ble_eq_true rfl⟩) h_13 rfl rfl rfl rfl (Nat.le_of_ble_eq_true rfl) dX2_tick_61 ⟨Nat.le_of_ble_eq_true rfl, Nat.le_of_ble_eq_true rfl⟩ (fun r_6 Φ8 sz6 st6 hp6 hs6 => ?_)
      obtain ⟨rfl, hq6, hI8, hF6⟩ := hp6
      subst sz6
      replace hs6 : st6 = [] := hs6
      subst st6
      replace hI8 : In G x (ca) Φ8 := hI8
      have h_14 : Φ8 (x + 80) = some (o_ 4 [.ref (x + 3), .ref (x + 74), .ref (x + 81), .ref (x + 95), .int (nw + 1), .int v_7, .int dw, .int aq, .int v_12, .int v_8, .long ob, .long sm, .long v_13]) := ((hF6 (x + 80) fq_260).trans h_11)
      exact z_ret_v B dX2_tick_64 ⟨⟨rfl, v_7, v_12, v_8, v_13, h_14⟩, rfl, hI8, (fun b9 h9 => ((hF6 b9 (fun j9 h8 h7 => h9 j9 h8 (fq_262 j9 h7))).trans ((fset_fr hΦ2 (fun h8 => h9 (80) h8 (show 46 ≤ 80 ∧ 80 < 95 by decide))).trans ((hF5 b9 (fun j9 h8 h7 => h9 j9 h8 (fq_261 j9 h7))).trans ((hF3 b9 (fun j9 h8 h7 => h9 j9 h8 (fq_267 j9 h7))).trans ((hF1 b9 (fun j9 h8 h7 => h9 j9 h8 (fq_261 j9 h7))).trans ((fset_fr hΦ1 (fun h8 => h9 (80) h8 (show 46 ≤ 80 ∧ 80 < 95 by decide))).trans rfl)))))))⟩

theorem hu_X2_takePackets_X2 : ∀ w ∈ u_ws RX2 TX2 13, w ∈ wsX2_takePackets := fun _ h => List.mem_cons_of_mem _ (List.mem_append_left _ (List.mem_append_left _ (List.mem_append_left _ (List.mem_append_left _ (List.mem_append_left _ (List.mem_append_left _ (List.mem_append_left _ (List.mem_append_left _ (List.mem_append_left _ (List.mem_append_right _ (h)))))))))))

theorem hv_X2_takePackets_43 : Cond.fieldLink RX2 43 "FlowExporter$Exporter" (TX2 10).2.1 (TX2 10).2.2.1 ∈ wsX2_takePackets := List.mem_cons_of_mem _ (List.mem_append_left _ (List.mem_append_left _ (List.mem_append_left _ (List.mem_append_left _ (List.mem_append_left _ (List.mem_append_left _ (List.mem_append_left _ (List.mem_append_left _ (List.mem_append_left _ (List.mem_append_left _ (List.mem_append_left _ (List.mem_of_getElem? (i := 0) rfl))))))))))))

theorem fq_270 {x : Nat} : ∀ j9 : Nat, x + 80 = x + j9 → (95 ≤ j9 ∧ j9 < 121) → False := by
  intro j9 h1 h2
  omega

theorem hv_X2_takePackets_47 : Cond.fieldLink RX2 47 "FlowExporter$Exporter" (TX2 11).2.1 (TX2 11).2.2.1 ∈ wsX2_takePackets := List.mem_cons_of_mem _ (List.mem_append_left _ (List.mem_append_left _ (List.mem_append_left _ (List.mem_append_left _ (List.mem_append_left _ (List.mem_append_left _ (List.mem_append_left _ (List.mem_append_left _ (List.mem_append_left _ (List.mem_append_left _ (List.mem_append_left _ (List.mem_of_getElem? (i := 1) rfl))))))))))))

theorem hv_X2_takePackets_57 : Cond.fieldLink RX2 57 "FlowExporter$Exporter" (TX2 1).2.1 (TX2 1).2.2.1 ∈ wsX2_takePackets := List.mem_cons_of_mem _ (List.mem_append_left _ (List.mem_append_left _ (List.mem_append_left _ (List.mem_append_left _ (List.mem_append_left _ (List.mem_append_left _ (List.mem_append_left _ (List.mem_append_left _ (List.mem_append_left _ (List.mem_append_left _ (List.mem_append_left _ (List.mem_of_getElem? (i := 2) rfl))))))))))))

theorem hv_X2_takePackets_23 : Cond.fieldLink RX2 23 "FlowExporter$Exporter" (TX2 4).2.1 (TX2 4).2.2.1 ∈ wsX2_takePackets := List.mem_cons_of_mem _ (List.mem_append_left _ (List.mem_append_left _ (List.mem_append_left _ (List.mem_append_left _ (List.mem_append_left _ (List.mem_append_left _ (List.mem_append_left _ (List.mem_append_left _ (List.mem_append_left _ (List.mem_append_left _ (List.mem_append_left _ (List.mem_of_getElem? (i := 3) rfl))))))))))))

theorem fq_274 : ∀ j9 : Nat, (95 ≤ j9 ∧ j9 < 121) → (46 ≤ j9 ∧ j9 < 121) := by
  intro j9 h
  omega

theorem fq_275 : ∀ j9 : Nat, (46 ≤ j9 ∧ j9 < 80) → (46 ≤ j9 ∧ j9 < 121) := by
  intro j9 h
  omega

theorem fq_276 : ∀ j9 : Nat, (j9 = 80) → (46 ≤ j9 ∧ j9 < 121) := by
  intro j9 h
  omega

theorem fq_277 : ∀ j9 : Nat, (74 ≤ j9 ∧ j9 < 95) → (46 ≤ j9 ∧ j9 < 121) := by
  intro j9 h
  omega

set_option maxHeartbeats 4000000 in
set_option maxRecDepth 100000 in
theorem s_X2_takePackets (G : EnvG) (l : Launch) (Φ : Hm) (sz x ca : Nat) (nw : Int32) (rt : Int32) (dw : Int32) (aq : Int32) (xp : Int32) (xb : Int32) (ob : Int64) (sm : Int64) (un : Int64) (a : Int64) (b : Int32) (n : Nat) (hx : G.2.2.2 ≤ x) (hI : In G x ca Φ) (hc0 : Φ (x + 80) = some (o_ 4 [.ref (x + 3), .ref (x + 74), .ref (x + 81), .ref (x + 95), .int nw, .int rt, .int dw, .int aq, .int xp, .int xb, .long ob, .long sm, .long un])) (hn : n ≤ 200) (had : aq = 0 ∨ aq = 1) : Ct G l yX2_takePackets wsX2_takePackets ({ frames := 5, cells := 0, slots := 0, locals := 125 }) 0 0 [.ref (x + 80), .long a, .int b, .int (nI n)] Φ sz (fun v Φ1 sz1 => ((∃ r9 : Int32, v = some (.int r9)) ∧ ∃ dw8 : Int32, ∃ xp8 : Int32, ∃ sm8 : Int64, ∃ un8 : Int64, Φ1 (x + 80) = some (o_ 4 [.ref (x + 3), .ref (x + 74), .ref (x + 81), .ref (x + 95), .int nw, .int rt, .int dw8, .int aq, .int xp8, .int xb, .long (ob + (nI n).toInt64), .long sm8, .long un8])) ∧ sz1 = sz ∧ In G x (ca) Φ1 ∧ Fr x (fun j9 => 46 ≤ j9 ∧ j9 < 121) Φ Φ1) := by
  refine Ct.of (cc := cX2_takePackets) (maxL := 7) (ret := (some .int)) (by decide) rfl (Nat.le_of_ble_eq_true rfl) ?_
  intro p9 e9 s9 m9 w9 t9 k9 B
  show Z p9 l e9 _ s9 m9 _ w9 t9 k9 _ G 7 0 [(0, .ref (x + 80)), (1, .long a), (3, .int b), (4, .int (nI n))] [] Φ sz 0 0
  refine z_aload_n B dX2_takePackets_0 rfl 0 rfl ?_
  refine z_dup B dX2_takePackets_1 rfl ?_
  refine z_get (ref := "FlowExporter$Exporter") (C := RX2) (T := TX2) (N := 13) (ci := 4) (v := .long ob) B hu_X2_takePackets_X2 rfl 10 (Nat.le_of_ble_eq_true rfl) hv_X2_takePackets_43 rfl hc0 rfl dX2_takePackets_2 ?_
  refine z_iload B dX2_takePackets_5 3 rfl ?_
  refine z_i2l (v := (nI n).toInt64) B dX2_takePackets_7 rfl ?_
  refine z_ladd B dX2_takePackets_8 ?_
  refine z_put (ref := "FlowExporter$Exporter") (C := RX2) (T := TX2) (N := 13) (ci := 4) (v := .long (ob + ((nI n).toInt64))) B hu_X2_takePackets_X2 tyX2 tyX2_ok nmX2 rfl 10 (Nat.le_of_ble_eq_true rfl) hv_X2_takePackets_43 rfl (Or.inl rfl) hc0 (Nat.le_trans hx (Nat.le_add_right x 80)) rfl rfl (Nat.le_of_ble_eq_true rfl) dX2_takePackets_9 (fun Φ1 hΦ1 => ?_)
  have h_1 : Φ1 (x + 80) = some (o_ 4 [.ref (x + 3), .ref (x + 74), .ref (x + 81), .ref (x + 95), .int nw, .int rt, .int dw, .int aq, .int xp, .int xb, .long (ob + ((nI n).toInt64)), .long sm, .long un]) := fset_at hΦ1
  have hI1 : In G x (ca) Φ1 := In.put (k := 80) hI hΦ1 (ok16 (k := 80) rfl ⟨nw, rt, dw, aq, xp, xb, ob + ((nI n).toInt64), sm, un, rfl, had⟩)
  refine z_aload_n B dX2_takePackets_12 rfl 0 rfl ?_
  refine z_lload_n B dX2_takePackets_13 rfl 1 rfl ?_
  refine z_iload_n B dX2_takePackets_14 rfl 2 rfl ?_
  refine z_iload B dX2_takePackets_15 3 rfl ?_
  refine z_callV (As := [.long a, .int b, .int (nI n)]) (rest := []) B (s_X2_remember G l Φ1 sz x (ca) a b (nI n) hx hI1 ) (cwV 3 B.1.2.2.2.2 gX2_takePackets_X2_remember rfl rfl rfl (by decide +kernel) ⟨Nat.le_of_ble_eq_true rfl, Nat.le_of_ble_eq_true rfl⟩) h_1 rfl rfl rfl rfl (Nat.le_of_ble_eq_true rfl) dX2_takePackets_17 ⟨Nat.le_of_ble_eq_true rfl, Nat.le_of_ble_eq_true rfl⟩ (fun r_1 Φ2 sz1 st1 hp1 hs1 => ?_)
  obtain ⟨rfl, hq1, hI2, hF1⟩ := hp1
  subst sz1
  replace hs1 : st1 = [] := hs1
  subst st1
  replace hI2 : In G x (ca) Φ2 := hI2
  refine z_iconst (v := 0) B dX2_takePackets_20 rfl ?_
  refine z_istore (lv' := [(5, .int 0), (0, .ref (x + 80)), (1, .long a), (3, .int b), (4, .int (nI n))]) B dX2_takePackets_21 (Nat.le_of_ble_eq_true rfl) rfl ?_
  refine z_iconst (v := 0) B dX2_takePackets_23 rfl ?_
  refine z_istore (lv' := [(6, .int 0), (5, .int 0), (0, .ref (x + 80)), (1, .long a), (3, .int b), (4, .int (nI n))]) B dX2_takePackets_24 (Nat.le_of_ble_eq_true rfl) rfl ?_
  refine z_lv [0, 1, 2, 3, 4, 5] rfl ?_
  have h_2 : Φ2 (x + 80) = some (o_ 4 [.ref (x + 3), .ref (x + 74), .ref (x + 81), .ref (x + 95), .int nw, .int rt, .int dw, .int aq, .int xp, .int xb, .long (ob + ((nI n).toInt64)), .long sm, .long un]) := ((hF1 (x + 80) fq_270).trans h_1)
  refine z_loop (α := Nat × Int32 × Int32 × Int32 × Int64) (fun (a9 : Nat × Int32 × Int32 × Int32 × Int64) Φi => In G x (ca) Φi ∧ Fr x (fun j9 => 46 ≤ j9 ∧ j9 < 121) Φ2 Φi ∧ (a9.1 ≤ n) ∧ (Φi (x + 80) = some (o_ 4 [.ref (x + 3), .ref (x + 74), .ref (x + 81), .ref (x + 95), .int nw, .int rt, .int a9.2.2.1, .int aq, .int a9.2.2.2.1, .int xb, .long (ob + ((nI n).toInt64)), .long sm, .long a9.2.2.2.2])) ∧ True) (fun a9 => [(6, .int (nI (a9.1))), (5, .int a9.2.1), (0, .ref (x + 80)), (1, .long a), (3, .int b), (4, .int (nI n))]) (fun a9 => n - a9.1) ?_ (0, 0, dw, xp, un) ⟨hI2, fun _ _ => rfl, (show 0 ≤ n by omega), h_2, trivial⟩
  rintro ⟨i_1, i_2, i_3, i_4, i_5⟩ Φl1 ⟨hI3, hF2, b_1, b_2, -⟩ ih1
  replace hI3 : In G x (ca) Φl1 := hI3
  replace b_1 : i_1 ≤ n := b_1
  replace b_2 : Φl1 (x + 80) = some (o_ 4 [.ref (x + 3), .ref (x + 74), .ref (x + 81), .ref (x + 95), .int nw, .int rt, .int i_3, .int aq, .int i_4, .int xb, .long (ob + ((nI n).toInt64)), .long sm, .long i_5]) := b_2
  show Z p9 l e9 _ s9 m9 _ w9 t9 k9 _ G 7 26 [(6, .int (nI i_1)), (5, .int i_2), (0, .ref (x + 80)), (1, .long a), (3, .int b), (4, .int (nI n))] [] Φl1 _ _ _
  refine z_iload B dX2_takePackets_26 0 rfl ?_
  refine z_iload B dX2_takePackets_28 5 rfl ?_
  refine z_icmp_ge (tgt := 55) B dX2_takePackets_30 rfl (fun c_1 => ?_) (fun c_1 => ?_)
  · have e_1 : n ≤ i_1 := (nI_leI (a := n) (b := i_1) (by omega) (by omega)).mp c_1
    refine z_aload_n B dX2_takePackets_55 rfl 2 rfl ?_
    refine z_dup B dX2_takePackets_56 rfl ?_
    refine z_get (ref := "FlowExporter$Exporter") (C := RX2) (T := TX2) (N := 13) (ci := 4) (v := .long sm) B hu_X2_takePackets_X2 rfl 11 (Nat.le_of_ble_eq_true rfl) hv_X2_takePackets_47 rfl b_2 rfl dX2_takePackets_57 ?_
    refine z_iload B dX2_takePackets_60 1 rfl ?_
    refine z_i2l (v := i_2.toInt64) B dX2_takePackets_62 rfl ?_
    refine z_fl (fun v_1 => ?_)
    refine z_ladd B dX2_takePackets_63 ?_
    refine z_fl (fun v_2 => ?_)
    refine z_put (ref := "FlowExporter$Exporter") (C := RX2) (T := TX2) (N := 13) (ci := 4) (v := .long v_2) B hu_X2_takePackets_X2 tyX2 tyX2_ok nmX2 rfl 11 (Nat.le_of_ble_eq_true rfl) hv_X2_takePackets_47 rfl (Or.inl rfl) b_2 (Nat.le_trans hx (Nat.le_add_right x 80)) rfl rfl (Nat.le_of_ble_eq_true rfl) dX2_takePackets_64 (fun Φ3 hΦ2 => ?_)
    have h_3 : Φ3 (x + 80) = some (o_ 4 [.ref (x + 3), .ref (x + 74), .ref (x + 81), .ref (x + 95), .int nw, .int rt, .int i_3, .int aq, .int i_4, .int xb, .long (ob + ((nI n).toInt64)), .long v_2, .long i_5]) := fset_at hΦ2
    have hI4 : In G x (ca) Φ3 := In.put (k := 80) hI3 hΦ2 (ok16 (k := 80) rfl ⟨nw, rt, i_3, aq, i_4, xb, ob + ((nI n).toInt64), v_2, i_5, rfl, had⟩)
    refine z_aload_n B dX2_takePackets_67 rfl 2 rfl ?_
    refine z_get (ref := "FlowExporter$Exporter") (C := RX2) (T := TX2) (N := 13) (ci := 4) (v := .ref (x + 74)) B hu_X2_takePackets_X2 rfl 1 (Nat.le_of_ble_eq_true rfl) hv_X2_takePackets_57 rfl h_3 rfl dX2_takePackets_68 ?_
    refine z_aload_n B dX2_takePackets_71 rfl 2 rfl ?_
    refine z_get (ref := "FlowExporter$Exporter") (C := RX2) (T := TX2) (N := 13) (ci := 4) (v := .int nw) B hu_X2_takePackets_X2 rfl 4 (Nat.le_of_ble_eq_true rfl) hv_X2_takePackets_23 rfl h_3 rfl dX2_takePackets_72 ?_
    obtain ⟨n_1, v_3, v_4, v_5, h_4, b_3⟩ := in13 (k := 74) hI4 rfl
    have h_5 : Φ3 (x + 74) = some (o_ 10 [.ref (x + 3), .ref (x + 46), .ref (x + 75), .ref (x + 77), .int (nI n_1), .ref (x + 78), .ref (x + 79), .int v_3, .long v_4, .int v_5]) := h_4
    refine z_callV (As := [.int nw]) (rest := []) B (s_X8_sendPending G l Φ3 sz x (ca) nw hx hI4 ) (cwV 1 B.1.2.2.2.2 gX2_takePackets_X8_sendPending rfl rfl rfl (by decide +kernel) ⟨Nat.le_of_ble_eq_true rfl, Nat.le_of_ble_eq_true rfl⟩) h_5 rfl rfl rfl rfl (Nat.le_of_ble_eq_true rfl) dX2_takePackets_75 ⟨Nat.le_of_ble_eq_true rfl, Nat.le_of_ble_eq_true rfl⟩ (fun r_2 Φ4 sz2 st2 hp2 hs2 => ?_)
    obtain ⟨rfl, hq2, hI5, hF3⟩ := hp2
    subst sz2
    replace hs2 : st2 = [] := hs2
    subst st2
    replace hI5 : In G x (ca) Φ4 := hI5
    refine z_iload B dX2_takePackets_78 1 rfl ?_
    have h_6 : Φ4 (x + 80) = some (o_ 4 [.ref (x + 3), .ref (x + 74), .ref (x + 81), .ref (x + 95), .int nw, .int rt, .int i_3, .int aq, .int i_4, .int xb, .long (ob + ((nI n).toInt64)), .long v_2, .long i_5]) := ((hF3 (x + 80) fq_260).trans h_3)
    exact z_ret_i B dX2_takePackets_80 ⟨⟨⟨_, rfl⟩, i_3, i_4, v_2, i_5, h_6⟩, rfl, hI5, (fun b9 h9 => ((hF3 b9 (fun j9 h8 h7 => h9 j9 h8 (fq_275 j9 h7))).trans ((fset_fr hΦ2 (fun h8 => h9 (80) h8 (show 46 ≤ 80 ∧ 80 < 121 by decide))).trans ((hF2 b9 h9).trans ((hF1 b9 (fun j9 h8 h7 => h9 j9 h8 (fq_274 j9 h7))).trans ((fset_fr hΦ1 (fun h8 => h9 (80) h8 (show 46 ≤ 80 ∧ 80 < 121 by decide))).trans rfl))))))⟩
  · have e_2 : ¬ (n ≤ i_1) := fun h9 => c_1 ((nI_leI (a := n) (b := i_1) (by omega) (by omega)).mpr h9)
    refine z_aload_n B dX2_takePackets_33 rfl 2 rfl ?_
    refine z_callV (As := []) (rest := []) B (s_X2_isSampled G l Φl1 sz x (ca) nw rt i_3 aq i_4 xb (ob + ((nI n).toInt64)) sm i_5 hx hI3 b_2 had) (cwV 0 B.1.2.2.2.2 gX2_takePackets_X2_isSampled rfl rfl rfl (by decide +kernel) ⟨Nat.le_of_ble_eq_true rfl, Nat.le_of_ble_eq_true rfl⟩) b_2 rfl rfl rfl rfl (Nat.le_of_ble_eq_true rfl) dX2_takePackets_34 ⟨Nat.le_of_ble_eq_true rfl, Nat.le_of_ble_eq_true rfl⟩ (fun r_3 Φ5 sz3 st3 hp3 hs3 => ?_)
    obtain ⟨⟨⟨v_6, rfl, b_4⟩, v_7, h_7⟩, hq3, hI6, hF4⟩ := hp3
    subst sz3
    replace hs3 : st3 = [.int v_6] := hs3
    subst st3
    replace hI6 : In G x (ca) Φ5 := hI6
    refine z_if_eq (tgt := 49) B dX2_takePackets_37 rfl (fun c_2 => ?_) (fun c_2 => ?_)
    · refine z_iinc (k := 0) (v := nI (i_1 + 1)) (lv' := [(6, .int (nI (i_1 + 1))), (5, .int i_2), (0, .ref (x + 80)), (1, .long a), (3, .int b), (4, .int (nI n))]) B dX2_takePackets_49 rfl (nI_add i_1 1) (Nat.le_of_ble_eq_true rfl) rfl ?_
      refine z_goto (tgt := 26) B dX2_takePackets_52 rfl ?_
      refine z_lv [0, 1, 2, 3, 4, 5] rfl ?_
      exact ih1 (i_1 + 1, i_2, v_7, i_4, i_5) Φ5 (show n - (i_1 + 1) < n - i_1 by omega) ⟨hI6, (fun b9 h9 => ((hF4 b9 (fun j9 h8 h7 => h9 j9 h8 (fq_276 j9 h7))).trans ((hF2 b9 h9).trans rfl))), (show (i_1 + 1) ≤ n by omega), h_7, trivial⟩
    · refine z_aload_n B dX2_takePackets_40 rfl 2 rfl ?_
      refine z_lload_n B dX2_takePackets_41 rfl 3 rfl ?_
      refine z_iload_n B dX2_takePackets_42 rfl 4 rfl ?_
      refine z_callV (As := [.long a, .int b]) (rest := []) B (s_X2_addToFlow G l Φ5 sz x (ca) nw rt v_7 aq i_4 xb (ob + ((nI n).toInt64)) sm i_5 a b hx hI6 h_7 had) (cwV 2 B.1.2.2.2.2 gX2_takePackets_X2_addToFlow rfl rfl rfl (by decide +kernel) ⟨Nat.le_of_ble_eq_true rfl, Nat.le_of_ble_eq_true rfl⟩) h_7 rfl rfl rfl rfl (Nat.le_of_ble_eq_true rfl) dX2_takePackets_43 ⟨Nat.le_of_ble_eq_true rfl, Nat.le_of_ble_eq_true rfl⟩ (fun r_4 Φ6 sz4 st4 hp4 hs4 => ?_)
      obtain ⟨⟨rfl, v_8, v_9, h_8⟩, hq4, hI7, hF5⟩ := hp4
      subst sz4
      replace hs4 : st4 = [] := hs4
      subst st4
      replace hI7 : In G x (ca) Φ6 := hI7
      refine z_iinc (k := 1) (v := i_2 + 1) (lv' := [(5, .int (i_2 + 1)), (6, .int (nI i_1)), (0, .ref (x + 80)), (1, .long a), (3, .int b), (4, .int (nI n))]) B dX2_takePackets_46 rfl rfl (Nat.le_of_ble_eq_true rfl) rfl ?_
      refine z_iinc (k := 1) (v := nI (i_1 + 1)) (lv' := [(6, .int (nI (i_1 + 1))), (5, .int (i_2 + 1)), (0, .ref (x + 80)), (1, .long a), (3, .int b), (4, .int (nI n))]) B dX2_takePackets_49 rfl (nI_add i_1 1) (Nat.le_of_ble_eq_true rfl) rfl ?_
      refine z_goto (tgt := 26) B dX2_takePackets_52 rfl ?_
      refine z_lv [0, 1, 2, 3, 4, 5] rfl ?_
      exact ih1 (i_1 + 1, i_2 + 1, v_7, v_8, v_9) Φ6 (show n - (i_1 + 1) < n - i_1 by omega) ⟨hI7, (fun b9 h9 => ((hF5 b9 (fun j9 h8 h7 => h9 j9 h8 (fq_277 j9 h7))).trans ((hF4 b9 (fun j9 h8 h7 => h9 j9 h8 (fq_276 j9 h7))).trans ((hF2 b9 h9).trans rfl)))), (show (i_1 + 1) ≤ n by omega), h_8, trivial⟩

theorem hu_X0_hasStarted_X0 : ∀ w ∈ u_ws RX0 TX0 12, w ∈ wsX0_hasStarted := fun _ h => List.mem_cons_of_mem _ (List.mem_append_right _ (h))

theorem hv_X0_hasStarted_39 : Cond.fieldLink RX0 39 "FlowExporter$Collector" (TX0 9).2.1 (TX0 9).2.2.1 ∈ wsX0_hasStarted := List.mem_cons_of_mem _ (List.mem_append_left _ (List.mem_of_getElem? (i := 0) rfl))

set_option maxHeartbeats 4000000 in
set_option maxRecDepth 100000 in
theorem s_X0_hasStarted (G : EnvG) (l : Launch) (Φ : Hm) (sz x ca : Nat)  (hx : G.2.2.2 ≤ x) (hI : In G x ca Φ) (hca : ca < 1000000) : Ct G l yX0_hasStarted wsX0_hasStarted ({ frames := 0, cells := 0, slots := 0, locals := 0 }) 0 0 [.ref (x + 132)] Φ sz (fun v Φ1 sz1 => (∃ r9 : Int32, v = some (.int r9) ∧ (r9 = 0 ∨ r9 = 1)) ∧ sz1 = sz ∧ In G x (ca) Φ1 ∧ Fr x (fun j9 => False) Φ Φ1) := by
  refine Ct.of (cc := cX0_hasStarted) (maxL := 1) (ret := (some .boolean)) (by decide) rfl (Nat.le_of_ble_eq_true rfl) ?_
  intro p9 e9 s9 m9 w9 t9 k9 B
  show Z p9 l e9 _ s9 m9 _ w9 t9 k9 _ G 1 0 [(0, .ref (x + 132))] [] Φ sz 0 0
  refine z_aload_n B dX0_hasStarted_0 rfl 0 rfl ?_
  obtain ⟨n_1, v_1, v_2, h_1, b_1⟩ := in25 (k := 132) hI rfl
  have h_2 : Φ (x + 132) = some (o_ 2 [.ref (x + 3), .ref (x + 121), .ref (x + 133), .ref (x + 134), .ref (x + 135), .ref (x + 137), .ref (x + 138), .ref (x + 139), .ref (x + 140), .int (nI n_1), .int v_1, .int v_2]) := h_1
  refine z_get (ref := "FlowExporter$Collector") (C := RX0) (T := TX0) (N := 12) (ci := 2) (v := .int (nI n_1)) B hu_X0_hasStarted_X0 rfl 9 (Nat.le_of_ble_eq_true rfl) hv_X0_hasStarted_39 rfl h_2 rfl dX0_hasStarted_1 ?_
  refine z_if_le (tgt := 11) B dX0_hasStarted_4 rfl (fun c_1 => ?_) (fun c_1 => ?_)
  · have e_1 : n_1 ≤ 0 := (nI_leI (a := n_1) (b := 0) (by omega) (by omega)).mp c_1
    refine z_iconst (v := 0) B dX0_hasStarted_11 rfl ?_
    exact z_ret_z B dX0_hasStarted_12 (by decide) ⟨⟨_, rfl, by decide⟩, rfl, hI, (fun b9 h9 => rfl)⟩
  · have e_2 : ¬ (n_1 ≤ 0) := fun h9 => c_1 ((nI_leI (a := n_1) (b := 0) (by omega) (by omega)).mpr h9)
    refine z_iconst (v := 1) B dX0_hasStarted_7 rfl ?_
    refine z_goto (tgt := 12) B dX0_hasStarted_8 rfl ?_
    exact z_ret_z B dX0_hasStarted_12 (by decide) ⟨⟨_, rfl, by decide⟩, rfl, hI, (fun b9 h9 => rfl)⟩

theorem hu_X0_restart_X0 : ∀ w ∈ u_ws RX0 TX0 12, w ∈ wsX0_restart := fun _ h => List.mem_cons_of_mem _ (List.mem_append_left _ (List.mem_append_right _ (h)))

theorem hv_X0_restart_39 : Cond.fieldLink RX0 39 "FlowExporter$Collector" (TX0 9).2.1 (TX0 9).2.2.1 ∈ wsX0_restart := List.mem_cons_of_mem _ (List.mem_append_left _ (List.mem_append_left _ (List.mem_of_getElem? (i := 2) rfl)))

theorem hv_X0_restart_11 : Cond.fieldLink RX0 11 "FlowExporter$Collector" (TX0 2).2.1 (TX0 2).2.2.1 ∈ wsX0_restart := List.mem_cons_of_mem _ (List.mem_append_left _ (List.mem_append_left _ (List.mem_of_getElem? (i := 0) rfl)))

theorem hu_X0_restart_X10 : ∀ w ∈ u_ws RX10 TX10 4, w ∈ wsX0_restart := fun _ h => List.mem_cons_of_mem _ (List.mem_append_right _ (h))

theorem hv_X0_restart_67 : Cond.fieldLink RX0 67 "FlowExporter$Template" (TX10 1).2.1 (TX10 1).2.2.1 ∈ wsX0_restart := List.mem_cons_of_mem _ (List.mem_append_left _ (List.mem_append_left _ (List.mem_of_getElem? (i := 1) rfl)))

set_option maxHeartbeats 4000000 in
set_option maxRecDepth 100000 in
theorem s_X0_restart (G : EnvG) (l : Launch) (Φ : Hm) (sz x ca : Nat)  (hx : G.2.2.2 ≤ x) (hI : In G x ca Φ)  : Ct G l yX0_restart wsX0_restart ({ frames := 1, cells := 0, slots := 0, locals := 20 }) 0 0 [.ref (x + 132)] Φ sz (fun v Φ1 sz1 => (∃ r9 : Int32, v = some (.int r9)) ∧ sz1 = sz ∧ In G x (ca) Φ1 ∧ Fr x (fun j9 => 132 ≤ j9 ∧ j9 < 149) Φ Φ1) := by
  refine Ct.of (cc := cX0_restart) (maxL := 3) (ret := (some .int)) (by decide) rfl (Nat.le_of_ble_eq_true rfl) ?_
  intro p9 e9 s9 m9 w9 t9 k9 B
  show Z p9 l e9 _ s9 m9 _ w9 t9 k9 _ G 3 0 [(0, .ref (x + 132))] [] Φ sz 0 0
  refine z_iconst (v := 0) B dX0_restart_0 rfl ?_
  refine z_istore_n (lv' := [(1, .int 0), (0, .ref (x + 132))]) B dX0_restart_1 rfl (Nat.le_of_ble_eq_true rfl) rfl ?_
  refine z_iconst (v := 0) B dX0_restart_2 rfl ?_
  refine z_istore_n (lv' := [(2, .int 0), (1, .int 0), (0, .ref (x + 132))]) B dX0_restart_3 rfl (Nat.le_of_ble_eq_true rfl) rfl ?_
  refine z_lv [0, 1, 2] rfl ?_
  refine z_loop (α := Nat × Int32) (fun (a9 : Nat × Int32) Φi => In G x (ca) Φi ∧ Fr x (fun j9 => 132 ≤ j9 ∧ j9 < 149) Φ Φi ∧ (a9.1 ≤ 4) ∧ True) (fun a9 => [(2, .int (nI (a9.1))), (1, .int a9.2), (0, .ref (x + 132))]) (fun a9 => 4 - a9.1) ?_ (0, 0) ⟨hI, fun _ _ => rfl, (show 0 ≤ 4 by omega), trivial⟩
  rintro ⟨i_1, i_2⟩ Φl1 ⟨hI1, hF1, b_1, -⟩ ih1
  replace hI1 : In G x (ca) Φl1 := hI1
  replace b_1 : i_1 ≤ 4 := b_1
  show Z p9 l e9 _ s9 m9 _ w9 t9 k9 _ G 3 4 [(2, .int (nI i_1)), (1, .int i_2), (0, .ref (x + 132))] [] Φl1 _ _ _
  refine z_iload_n B dX0_restart_4 rfl 0 rfl ?_
  refine z_iconst (v := 4) B dX0_restart_5 rfl ?_
  refine z_icmp_ge (tgt := 39) B dX0_restart_6 rfl (fun c_1 => ?_) (fun c_1 => ?_)
  · have e_1 : 4 ≤ i_1 := (nI_leI (a := 4) (b := i_1) (by omega) (by omega)).mp c_1
    refine z_aload_n B dX0_restart_39 rfl 2 rfl ?_
    refine z_iconst (v := 0) B dX0_restart_40 rfl ?_
    obtain ⟨n_1, v_1, v_2, h_1, b_2⟩ := in25 (k := 132) hI1 rfl
    have h_2 : Φl1 (x + 132) = some (o_ 2 [.ref (x + 3), .ref (x + 121), .ref (x + 133), .ref (x + 134), .ref (x + 135), .ref (x + 137), .ref (x + 138), .ref (x + 139), .ref (x + 140), .int (nI n_1), .int v_1, .int v_2]) := h_1
    refine z_put (ref := "FlowExporter$Collector") (C := RX0) (T := TX0) (N := 12) (ci := 2) (v := .int 0) B hu_X0_restart_X0 tyX0 tyX0_ok nmX0 rfl 9 (Nat.le_of_ble_eq_true rfl) hv_X0_restart_39 rfl (Or.inl rfl) h_2 (Nat.le_trans hx (Nat.le_add_right x 132)) rfl rfl (Nat.le_of_ble_eq_true rfl) dX0_restart_41 (fun Φ1 hΦ1 => ?_)
    have h_3 : Φ1 (x + 132) = some (o_ 2 [.ref (x + 3), .ref (x + 121), .ref (x + 133), .ref (x + 134), .ref (x + 135), .ref (x + 137), .ref (x + 138), .ref (x + 139), .ref (x + 140), .int 0, .int v_1, .int v_2]) := fset_at hΦ1
    have hI2 : In G x (ca) Φ1 := In.put (k := 132) hI1 hΦ1 (ok25 (k := 132) rfl ⟨0, v_1, v_2, rfl, (show 0 ≤ ca by omega)⟩)
    refine z_iload_n B dX0_restart_44 rfl 1 rfl ?_
    exact z_ret_i B dX0_restart_45 ⟨⟨_, rfl⟩, rfl, hI2, (fun b9 h9 => ((fset_fr hΦ1 (fun h8 => h9 (132) h8 (show 132 ≤ 132 ∧ 132 < 149 by decide))).trans ((hF1 b9 h9).trans rfl)))⟩
  · have e_2 : ¬ (4 ≤ i_1) := fun h9 => c_1 ((nI_leI (a := 4) (b := i_1) (by omega) (by omega)).mpr h9)
    refine z_aload_n B dX0_restart_9 rfl 2 rfl ?_
    obtain ⟨n_2, v_3, v_4, h_4, b_3⟩ := in25 (k := 132) hI1 rfl
    have h_5 : Φl1 (x + 132) = some (o_ 2 [.ref (x + 3), .ref (x + 121), .ref (x + 133), .ref (x + 134), .ref (x + 135), .ref (x + 137), .ref (x + 138), .ref (x + 139), .ref (x + 140), .int (nI n_2), .int v_3, .int v_4]) := h_4
    refine z_get (ref := "FlowExporter$Collector") (C := RX0) (T := TX0) (N := 12) (ci := 2) (v := .ref (x + 133)) B hu_X0_restart_X0 rfl 2 (Nat.le_of_ble_eq_true rfl) hv_X0_restart_11 rfl h_5 rfl dX0_restart_10 ?_
    refine z_iload_n B dX0_restart_13 rfl 0 rfl ?_
    obtain ⟨f_1, h_6, r_1⟩ := in26 (k := 133) hI1 rfl
    have h_7 : Φl1 (x + 133) = some (aq_ G 4 4 f_1) := h_6
    refine z_aald (b := x + (133 + 8 + 2 * i_1)) B rfl h_7 (vp_in_nI (by omega) (by omega)) ((congrArg f_1 (nI_clamp (by omega))).trans (r_1 i_1 (by omega))) dX0_restart_14 ?_
    obtain ⟨n_3, v_5, v_6, h_8, b_4⟩ := in8 (k := 133 + 8 + 2 * i_1) hI1 (kd_k (by omega))
    have h_9 : Φl1 (x + (133 + 8 + 2 * i_1)) = some (o_ 12 [.ref (x + (133 + 8 + 2 * i_1 + 1)), .int (nI n_3), .int v_5, .int v_6]) := h_8
    refine z_get (ref := "FlowExporter$Template") (C := RX10) (T := TX10) (N := 4) (ci := 12) (v := .int (nI n_3)) B hu_X0_restart_X10 rfl 1 (Nat.le_of_ble_eq_true rfl) hv_X0_restart_67 rfl h_9 rfl dX0_restart_15 ?_
    refine z_if_le (tgt := 24) B dX0_restart_18 rfl (fun c_2 => ?_) (fun c_2 => ?_)
    · have e_3 : n_3 ≤ 0 := (nI_leI (a := n_3) (b := 0) (by omega) (by omega)).mp c_2
      refine z_aload_n B dX0_restart_24 rfl 2 rfl ?_
      refine z_get (ref := "FlowExporter$Collector") (C := RX0) (T := TX0) (N := 12) (ci := 2) (v := .ref (x + 133)) B hu_X0_restart_X0 rfl 2 (Nat.le_of_ble_eq_true rfl) hv_X0_restart_11 rfl h_5 rfl dX0_restart_25 ?_
      refine z_iload_n B dX0_restart_28 rfl 0 rfl ?_
      refine z_aald (b := x + (133 + 8 + 2 * i_1)) B rfl h_7 (vp_in_nI (by omega) (by omega)) ((congrArg f_1 (nI_clamp (by omega))).trans (r_1 i_1 (by omega))) dX0_restart_29 ?_
      refine z_callV (As := []) (rest := []) B (s_X10_clear G l Φl1 sz x (ca) (133 + 8 + 2 * i_1) hx hI1 (kd_k (by omega))) (cwV 0 B.1.2.2.2.2 gX0_restart_X10_clear rfl rfl rfl (by decide +kernel) ⟨Nat.le_of_ble_eq_true rfl, Nat.le_of_ble_eq_true rfl⟩) h_9 rfl rfl rfl rfl (Nat.le_of_ble_eq_true rfl) dX0_restart_30 ⟨Nat.le_of_ble_eq_true rfl, Nat.le_of_ble_eq_true rfl⟩ (fun r_2 Φ2 sz1 st1 hp1 hs1 => ?_)
      obtain ⟨rfl, hq1, hI3, hF2⟩ := hp1
      subst sz1
      replace hs1 : st1 = [] := hs1
      subst st1
      replace hI3 : In G x (ca) Φ2 := hI3
      refine z_iinc (k := 0) (v := nI (i_1 + 1)) (lv' := [(2, .int (nI (i_1 + 1))), (1, .int i_2), (0, .ref (x + 132))]) B dX0_restart_33 rfl (nI_add i_1 1) (Nat.le_of_ble_eq_true rfl) rfl ?_
      refine z_goto (tgt := 4) B dX0_restart_36 rfl ?_
      refine z_lv [0, 1, 2] rfl ?_
      exact ih1 (i_1 + 1, i_2) Φ2 (show 4 - (i_1 + 1) < 4 - i_1 by omega) ⟨hI3, (fun b9 h9 => ((hF2 b9 (fun j9 h8 h7 => h9 j9 h8 (show 132 ≤ j9 ∧ j9 < 149 by have h6 : j9 = (133 + 8 + 2 * i_1) := h7; omega))).trans ((hF1 b9 h9).trans rfl))), (show (i_1 + 1) ≤ 4 by omega), trivial⟩
    · have e_4 : ¬ (n_3 ≤ 0) := fun h9 => c_2 ((nI_leI (a := n_3) (b := 0) (by omega) (by omega)).mpr h9)
      refine z_iinc (k := 1) (v := i_2 + 1) (lv' := [(1, .int (i_2 + 1)), (2, .int (nI i_1)), (0, .ref (x + 132))]) B dX0_restart_21 rfl rfl (Nat.le_of_ble_eq_true rfl) rfl ?_
      refine z_aload_n B dX0_restart_24 rfl 2 rfl ?_
      refine z_get (ref := "FlowExporter$Collector") (C := RX0) (T := TX0) (N := 12) (ci := 2) (v := .ref (x + 133)) B hu_X0_restart_X0 rfl 2 (Nat.le_of_ble_eq_true rfl) hv_X0_restart_11 rfl h_5 rfl dX0_restart_25 ?_
      refine z_iload_n B dX0_restart_28 rfl 1 rfl ?_
      refine z_aald (b := x + (133 + 8 + 2 * i_1)) B rfl h_7 (vp_in_nI (by omega) (by omega)) ((congrArg f_1 (nI_clamp (by omega))).trans (r_1 i_1 (by omega))) dX0_restart_29 ?_
      refine z_callV (As := []) (rest := []) B (s_X10_clear G l Φl1 sz x (ca) (133 + 8 + 2 * i_1) hx hI1 (kd_k (by omega))) (cwV 0 B.1.2.2.2.2 gX0_restart_X10_clear rfl rfl rfl (by decide +kernel) ⟨Nat.le_of_ble_eq_true rfl, Nat.le_of_ble_eq_true rfl⟩) h_9 rfl rfl rfl rfl (Nat.le_of_ble_eq_true rfl) dX0_restart_30 ⟨Nat.le_of_ble_eq_true rfl, Nat.le_of_ble_eq_true rfl⟩ (fun r_3 Φ3 sz2 st2 hp2 hs2 => ?_)
      obtain ⟨rfl, hq2, hI4, hF3⟩ := hp2
      subst sz2
      replace hs2 : st2 = [] := hs2
      subst st2
      replace hI4 : In G x (ca) Φ3 := hI4
      refine z_iinc (k := 1) (v := nI (i_1 + 1)) (lv' := [(2, .int (nI (i_1 + 1))), (1, .int (i_2 + 1)), (0, .ref (x + 132))]) B dX0_restart_33 rfl (nI_add i_1 1) (Nat.le_of_ble_eq_true rfl) rfl ?_
      refine z_goto (tgt := 4) B dX0_restart_36 rfl ?_
      refine z_lv [0, 1, 2] rfl ?_
      exact ih1 (i_1 + 1, i_2 + 1) Φ3 (show 4 - (i_1 + 1) < 4 - i_1 by omega) ⟨hI4, (fun b9 h9 => ((hF3 b9 (fun j9 h8 h7 => h9 j9 h8 (show 132 ≤ j9 ∧ j9 < 149 by have h6 : j9 = (133 + 8 + 2 * i_1) := h7; omega))).trans ((hF1 b9 h9).trans rfl))), (show (i_1 + 1) ≤ 4 by omega), trivial⟩

theorem hu_X0_clear_X0 : ∀ w ∈ u_ws RX0 TX0 12, w ∈ wsX0_clear := fun _ h => List.mem_cons_of_mem _ (List.mem_append_left _ (List.mem_append_right _ (h)))

theorem hv_X0_clear_32 : Cond.fieldLink RX0 32 "FlowExporter$Collector" (TX0 7).2.1 (TX0 7).2.2.1 ∈ wsX0_clear := List.mem_cons_of_mem _ (List.mem_append_left _ (List.mem_append_left _ (List.mem_of_getElem? (i := 0) rfl)))

set_option maxHeartbeats 4000000 in
set_option maxRecDepth 100000 in
theorem s_X0_clear (G : EnvG) (l : Launch) (Φ : Hm) (sz x ca : Nat)  (hx : G.2.2.2 ≤ x) (hI : In G x ca Φ)  : Ct G l yX0_clear wsX0_clear ({ frames := 2, cells := 0, slots := 0, locals := 42 }) 0 0 [.ref (x + 132)] Φ sz (fun v Φ1 sz1 => (v = none) ∧ sz1 = sz ∧ In G x (ca) Φ1 ∧ Fr x (fun j9 => 132 ≤ j9 ∧ j9 < 149) Φ Φ1) := by
  refine Ct.of (cc := cX0_clear) (maxL := 1) (ret := none) (by decide) rfl (Nat.le_of_ble_eq_true rfl) ?_
  intro p9 e9 s9 m9 w9 t9 k9 B
  show Z p9 l e9 _ s9 m9 _ w9 t9 k9 _ G 1 0 [(0, .ref (x + 132))] [] Φ sz 0 0
  refine z_aload_n B dX0_clear_0 rfl 0 rfl ?_
  obtain ⟨n_1, v_1, v_2, h_1, b_1⟩ := in25 (k := 132) hI rfl
  have h_2 : Φ (x + 132) = some (o_ 2 [.ref (x + 3), .ref (x + 121), .ref (x + 133), .ref (x + 134), .ref (x + 135), .ref (x + 137), .ref (x + 138), .ref (x + 139), .ref (x + 140), .int (nI n_1), .int v_1, .int v_2]) := h_1
  refine z_get (ref := "FlowExporter$Collector") (C := RX0) (T := TX0) (N := 12) (ci := 2) (v := .ref (x + 139)) B hu_X0_clear_X0 rfl 7 (Nat.le_of_ble_eq_true rfl) hv_X0_clear_32 rfl h_2 rfl dX0_clear_1 ?_
  refine z_lconst (v := 0) B dX0_clear_4 rfl ?_
  obtain ⟨f_1, h_3⟩ := in28 (k := 139) hI rfl
  have h_4 : Φ (x + 139) = some (al_ G 9 f_1) := h_3
  refine z_callS (As := [.ref (x + 139), .long 0]) (rest := []) B (c_J7_fill_d0a16 G l Φ sz (x + 139) 9 f_1 0 h_4 (Nat.le_trans hx (Nat.le_add_right x 139)) (by decide)) (va_cwS 2 B.1.2.2.2.2 gX0_clear_J7_fill_d0a16 rfl rfl rfl (by decide +kernel) ⟨Nat.le_of_ble_eq_true rfl, Nat.le_of_ble_eq_true rfl⟩) rfl rfl (Nat.le_of_ble_eq_true rfl) dX0_clear_5 ⟨Nat.le_of_ble_eq_true rfl, Nat.le_of_ble_eq_true rfl⟩ (fun r_1 Φ1 sz1 st1 hp1 hs1 => ?_)
  obtain ⟨rfl, hq1, fr1, h_5⟩ := hp1
  subst sz1
  replace hs1 : st1 = [] := hs1
  subst st1
  have hΦ1 : Φ1 = fset Φ (x + 139) (al_ G 9 (fun _ => 0)) := fset_of fr1 h_5
  have h_6 : Φ1 (x + 139) = some (al_ G 9 (fun _ => 0)) := fset_at hΦ1
  have hI1 : In G x (ca) Φ1 := In.put (k := 139) hI hΦ1 (ok28 (k := 139) rfl ⟨_, rfl⟩)
  refine z_aload_n B dX0_clear_8 rfl 0 rfl ?_
  have h_7 : Φ1 (x + 132) = some (o_ 2 [.ref (x + 3), .ref (x + 121), .ref (x + 133), .ref (x + 134), .ref (x + 135), .ref (x + 137), .ref (x + 138), .ref (x + 139), .ref (x + 140), .int (nI n_1), .int v_1, .int v_2]) := ((fset_fr hΦ1 (ne_off (x := x) (i := 132) (j := 139) rfl)).trans h_2)
  refine z_callV (As := []) (rest := []) B (s_X0_restart G l Φ1 sz x (ca)  hx hI1 ) (cwV 0 B.1.2.2.2.2 gX0_clear_X0_restart rfl rfl rfl (by decide +kernel) ⟨Nat.le_of_ble_eq_true rfl, Nat.le_of_ble_eq_true rfl⟩) h_7 rfl rfl rfl rfl (Nat.le_of_ble_eq_true rfl) dX0_clear_9 ⟨Nat.le_of_ble_eq_true rfl, Nat.le_of_ble_eq_true rfl⟩ (fun r_2 Φ2 sz2 st2 hp2 hs2 => ?_)
  obtain ⟨⟨v_3, rfl⟩, hq2, hI2, hF1⟩ := hp2
  subst sz2
  replace hs2 : st2 = [.int v_3] := hs2
  subst st2
  replace hI2 : In G x (ca) Φ2 := hI2
  refine z_pop B dX0_clear_12 rfl ?_
  exact z_ret_v B dX0_clear_13 ⟨rfl, rfl, hI2, (fun b9 h9 => ((hF1 b9 h9).trans ((fset_fr hΦ1 (fun h8 => h9 (139) h8 (show 132 ≤ 139 ∧ 139 < 149 by decide))).trans rfl)))⟩

theorem hu_X0_ageOf_X0 : ∀ w ∈ u_ws RX0 TX0 12, w ∈ wsX0_ageOf := fun _ h => List.mem_cons_of_mem _ (List.mem_append_left _ (List.mem_append_left _ (List.mem_append_right _ (h))))

theorem hv_X0_ageOf_11 : Cond.fieldLink RX0 11 "FlowExporter$Collector" (TX0 2).2.1 (TX0 2).2.2.1 ∈ wsX0_ageOf := List.mem_cons_of_mem _ (List.mem_append_left _ (List.mem_append_left _ (List.mem_append_left _ (List.mem_of_getElem? (i := 0) rfl))))

theorem hu_X0_ageOf_X10 : ∀ w ∈ u_ws RX10 TX10 4, w ∈ wsX0_ageOf := fun _ h => List.mem_cons_of_mem _ (List.mem_append_left _ (List.mem_append_right _ (h)))

theorem hv_X0_ageOf_67 : Cond.fieldLink RX0 67 "FlowExporter$Template" (TX10 1).2.1 (TX10 1).2.2.1 ∈ wsX0_ageOf := List.mem_cons_of_mem _ (List.mem_append_left _ (List.mem_append_left _ (List.mem_append_left _ (List.mem_of_getElem? (i := 1) rfl))))

theorem hv_X0_ageOf_17 : Cond.fieldLink RX0 17 "FlowExporter$Collector" (TX0 3).2.1 (TX0 3).2.2.1 ∈ wsX0_ageOf := List.mem_cons_of_mem _ (List.mem_append_left _ (List.mem_append_left _ (List.mem_append_left _ (List.mem_of_getElem? (i := 2) rfl))))

set_option maxHeartbeats 4000000 in
set_option maxRecDepth 100000 in
theorem s_X0_ageOf (G : EnvG) (l : Launch) (Φ : Hm) (sz x ca : Nat) (a : Int32) (b : Int32) (hx : G.2.2.2 ≤ x) (hI : In G x ca Φ)  : Ct G l yX0_ageOf wsX0_ageOf ({ frames := 0, cells := 0, slots := 0, locals := 0 }) 0 0 [.ref (x + 132), .int a, .int b] Φ sz (fun v Φ1 sz1 => (∃ r9 : Int32, v = some (.int r9)) ∧ sz1 = sz ∧ In G x (ca) Φ1 ∧ Fr x (fun j9 => False) Φ Φ1) := by
  refine Ct.of (cc := cX0_ageOf) (maxL := 3) (ret := (some .int)) (by decide) rfl (Nat.le_of_ble_eq_true rfl) ?_
  intro p9 e9 s9 m9 w9 t9 k9 B
  show Z p9 l e9 _ s9 m9 _ w9 t9 k9 _ G 3 0 [(0, .ref (x + 132)), (1, .int a), (2, .int b)] [] Φ sz 0 0
  refine z_iload_n B dX0_ageOf_0 rfl 1 rfl ?_
  refine z_if_lt (tgt := 21) B dX0_ageOf_1 rfl (fun c_1 => ?_) (fun c_1 => ?_)
  · refine z_iconst (v := (-1)) B dX0_ageOf_21 rfl ?_
    exact z_ret_i B dX0_ageOf_22 ⟨⟨_, rfl⟩, rfl, hI, (fun b9 h9 => rfl)⟩
  · obtain ⟨n_1, e_1, rfl⟩ := nI_of c_1
    refine z_iload_n B dX0_ageOf_4 rfl 1 rfl ?_
    refine z_iconst (v := 4) B dX0_ageOf_5 rfl ?_
    refine z_icmp_ge (tgt := 21) B dX0_ageOf_6 rfl (fun c_2 => ?_) (fun c_2 => ?_)
    · have e_2 : 4 ≤ n_1 := (nI_leI (a := 4) (b := n_1) (by omega) (by omega)).mp c_2
      refine z_iconst (v := (-1)) B dX0_ageOf_21 rfl ?_
      exact z_ret_i B dX0_ageOf_22 ⟨⟨_, rfl⟩, rfl, hI, (fun b9 h9 => rfl)⟩
    · have e_3 : ¬ (4 ≤ n_1) := fun h9 => c_2 ((nI_leI (a := 4) (b := n_1) (by omega) (by omega)).mpr h9)
      refine z_aload_n B dX0_ageOf_9 rfl 0 rfl ?_
      obtain ⟨n_2, v_1, v_2, h_1, b_1⟩ := in25 (k := 132) hI rfl
      have h_2 : Φ (x + 132) = some (o_ 2 [.ref (x + 3), .ref (x + 121), .ref (x + 133), .ref (x + 134), .ref (x + 135), .ref (x + 137), .ref (x + 138), .ref (x + 139), .ref (x + 140), .int (nI n_2), .int v_1, .int v_2]) := h_1
      refine z_get (ref := "FlowExporter$Collector") (C := RX0) (T := TX0) (N := 12) (ci := 2) (v := .ref (x + 133)) B hu_X0_ageOf_X0 rfl 2 (Nat.le_of_ble_eq_true rfl) hv_X0_ageOf_11 rfl h_2 rfl dX0_ageOf_10 ?_
      refine z_iload_n B dX0_ageOf_13 rfl 1 rfl ?_
      obtain ⟨f_1, h_3, r_1⟩ := in26 (k := 133) hI rfl
      have h_4 : Φ (x + 133) = some (aq_ G 4 4 f_1) := h_3
      refine z_aald (b := x + (133 + 8 + 2 * n_1)) B rfl h_4 (vp_in_nI (by omega) (by omega)) ((congrArg f_1 (nI_clamp (by omega))).trans (r_1 n_1 (by omega))) dX0_ageOf_14 ?_
      obtain ⟨n_3, v_3, v_4, h_5, b_2⟩ := in8 (k := 133 + 8 + 2 * n_1) hI (kd_k (by omega))
      have h_6 : Φ (x + (133 + 8 + 2 * n_1)) = some (o_ 12 [.ref (x + (133 + 8 + 2 * n_1 + 1)), .int (nI n_3), .int v_3, .int v_4]) := h_5
      refine z_get (ref := "FlowExporter$Template") (C := RX10) (T := TX10) (N := 4) (ci := 12) (v := .int (nI n_3)) B hu_X0_ageOf_X10 rfl 1 (Nat.le_of_ble_eq_true rfl) hv_X0_ageOf_67 rfl h_6 rfl dX0_ageOf_15 ?_
      refine z_if_ne (tgt := 23) B dX0_ageOf_18 rfl (fun c_3 => ?_) (fun c_3 => ?_)
      · have e_4 : ¬ (n_3 = 0) := fun h9 => c_3 ((nI_eq (a := n_3) (b := 0) (by omega) (by omega)).mpr h9)
        refine z_iload_n B dX0_ageOf_23 rfl 2 rfl ?_
        refine z_aload_n B dX0_ageOf_24 rfl 0 rfl ?_
        refine z_get (ref := "FlowExporter$Collector") (C := RX0) (T := TX0) (N := 12) (ci := 2) (v := .ref (x + 134)) B hu_X0_ageOf_X0 rfl 3 (Nat.le_of_ble_eq_true rfl) hv_X0_ageOf_17 rfl h_2 rfl dX0_ageOf_25 ?_
        refine z_iload_n B dX0_ageOf_28 rfl 1 rfl ?_
        obtain ⟨f_2, h_7⟩ := in15 (k := 134) hI rfl
        have h_8 : Φ (x + 134) = some (ai_ G 4 f_2) := h_7
        refine z_iald B h_8 (vp_in_nI (by omega) (by omega)) dX0_ageOf_29 ?_
        refine z_fi (fun v_5 => ?_)
        refine z_isub B dX0_ageOf_30 ?_
        refine z_fi (fun v_6 => ?_)
        exact z_ret_i B dX0_ageOf_31 ⟨⟨_, rfl⟩, rfl, hI, (fun b9 h9 => rfl)⟩
      · have e_5 : n_3 = 0 := (nI_eq (a := n_3) (b := 0) (by omega) (by omega)).mp c_3
        refine z_iconst (v := (-1)) B dX0_ageOf_21 rfl ?_
        exact z_ret_i B dX0_ageOf_22 ⟨⟨_, rfl⟩, rfl, hI, (fun b9 h9 => rfl)⟩

theorem hu_X0_isUsable_X0 : ∀ w ∈ u_ws RX0 TX0 12, w ∈ wsX0_isUsable := fun _ h => List.mem_cons_of_mem _ (List.mem_append_left _ (List.mem_append_left _ (List.mem_append_left _ (List.mem_append_right _ (h)))))

theorem hv_X0_isUsable_49 : Cond.fieldLink RX0 49 "FlowExporter$Collector" (TX0 0).2.1 (TX0 0).2.2.1 ∈ wsX0_isUsable := List.mem_cons_of_mem _ (List.mem_append_left _ (List.mem_append_left _ (List.mem_append_left _ (List.mem_append_left _ (List.mem_of_getElem? (i := 0) rfl)))))

set_option maxHeartbeats 4000000 in
set_option maxRecDepth 100000 in
theorem s_X0_isUsable (G : EnvG) (l : Launch) (Φ : Hm) (sz x ca : Nat) (a : Int32) (b : Int32) (hx : G.2.2.2 ≤ x) (hI : In G x ca Φ)  : Ct G l yX0_isUsable wsX0_isUsable ({ frames := 1, cells := 0, slots := 0, locals := 22 }) 0 0 [.ref (x + 132), .int a, .int b] Φ sz (fun v Φ1 sz1 => (∃ r9 : Int32, v = some (.int r9) ∧ (r9 = 0 ∨ r9 = 1)) ∧ sz1 = sz ∧ In G x (ca) Φ1 ∧ Fr x (fun j9 => False) Φ Φ1) := by
  refine Ct.of (cc := cX0_isUsable) (maxL := 4) (ret := (some .boolean)) (by decide) rfl (Nat.le_of_ble_eq_true rfl) ?_
  intro p9 e9 s9 m9 w9 t9 k9 B
  show Z p9 l e9 _ s9 m9 _ w9 t9 k9 _ G 4 0 [(0, .ref (x + 132)), (1, .int a), (2, .int b)] [] Φ sz 0 0
  refine z_aload_n B dX0_isUsable_0 rfl 0 rfl ?_
  refine z_iload_n B dX0_isUsable_1 rfl 1 rfl ?_
  refine z_iload_n B dX0_isUsable_2 rfl 2 rfl ?_
  obtain ⟨n_1, v_1, v_2, h_1, b_1⟩ := in25 (k := 132) hI rfl
  have h_2 : Φ (x + 132) = some (o_ 2 [.ref (x + 3), .ref (x + 121), .ref (x + 133), .ref (x + 134), .ref (x + 135), .ref (x + 137), .ref (x + 138), .ref (x + 139), .ref (x + 140), .int (nI n_1), .int v_1, .int v_2]) := h_1
  refine z_callV (As := [.int a, .int b]) (rest := []) B (s_X0_ageOf G l Φ sz x (ca) a b hx hI ) (cwV 2 B.1.2.2.2.2 gX0_isUsable_X0_ageOf rfl rfl rfl (by decide +kernel) ⟨Nat.le_of_ble_eq_true rfl, Nat.le_of_ble_eq_true rfl⟩) h_2 rfl rfl rfl rfl (Nat.le_of_ble_eq_true rfl) dX0_isUsable_3 ⟨Nat.le_of_ble_eq_true rfl, Nat.le_of_ble_eq_true rfl⟩ (fun r_1 Φ1 sz1 st1 hp1 hs1 => ?_)
  obtain ⟨⟨v_3, rfl⟩, hq1, hI1, hF1⟩ := hp1
  subst sz1
  replace hs1 : st1 = [.int v_3] := hs1
  subst st1
  replace hI1 : In G x (ca) Φ1 := hI1
  refine z_istore_n (lv' := [(3, .int v_3), (0, .ref (x + 132)), (1, .int a), (2, .int b)]) B dX0_isUsable_6 rfl (Nat.le_of_ble_eq_true rfl) rfl ?_
  refine z_iload_n B dX0_isUsable_7 rfl 0 rfl ?_
  refine z_iconst (v := (-1)) B dX0_isUsable_8 rfl ?_
  refine z_icmp_eq (tgt := 29) B dX0_isUsable_9 rfl (fun c_1 => ?_) (fun c_1 => ?_)
  · refine z_iconst (v := 0) B dX0_isUsable_29 rfl ?_
    exact z_ret_z B dX0_isUsable_30 (by decide) ⟨⟨_, rfl, by decide⟩, rfl, hI1, (fun b9 h9 => ((hF1 b9 (fun j9 h8 h7 => (show False from h7).elim)).trans rfl))⟩
  · refine z_iload_n B dX0_isUsable_12 rfl 0 rfl ?_
    refine z_aload_n B dX0_isUsable_13 rfl 1 rfl ?_
    have h_3 : Φ1 (x + 132) = some (o_ 2 [.ref (x + 3), .ref (x + 121), .ref (x + 133), .ref (x + 134), .ref (x + 135), .ref (x + 137), .ref (x + 138), .ref (x + 139), .ref (x + 140), .int (nI n_1), .int v_1, .int v_2]) := ((hF1 (x + 132) (fun j9 h8 h7 => (show False from h7).elim)).trans h_2)
    refine z_get (ref := "FlowExporter$Collector") (C := RX0) (T := TX0) (N := 12) (ci := 2) (v := .ref (x + 3)) B hu_X0_isUsable_X0 rfl 0 (Nat.le_of_ble_eq_true rfl) hv_X0_isUsable_49 rfl h_3 rfl dX0_isUsable_14 ?_
    refine z_bipush (v := 6) B dX0_isUsable_17 rfl ?_
    obtain ⟨v_4, v_5, h_4⟩ := in3 (k := 3) hI1 rfl
    have h_5 : Φ1 (x + 3) = some (o_ 3 [.ref (x + 4), .ref (x + 5), .ref (x + 6), .ref (x + 7), .int v_4, .int v_5]) := h_4
    refine z_callV (As := [.int 6]) (rest := [.int v_3]) B (s_X1_get G l Φ1 sz x (ca) 3 6 hx hI1 rfl) (cwV 1 B.1.2.2.2.2 gX0_isUsable_X1_get rfl rfl rfl (by decide +kernel) ⟨Nat.le_of_ble_eq_true rfl, Nat.le_of_ble_eq_true rfl⟩) h_5 rfl rfl rfl rfl (Nat.le_of_ble_eq_true rfl) dX0_isUsable_19 ⟨Nat.le_of_ble_eq_true rfl, Nat.le_of_ble_eq_true rfl⟩ (fun r_2 Φ2 sz2 st2 hp2 hs2 => ?_)
    obtain ⟨⟨n_2, rfl, b_2⟩, hq2, hI2, hF2⟩ := hp2
    subst sz2
    replace hs2 : st2 = [.int (nI n_2), .int v_3] := hs2
    subst st2
    replace hI2 : In G x (ca) Φ2 := hI2
    replace b_2 : n_2 < 2 ^ 31 := b_2
    refine z_icmp_gt (tgt := 29) B dX0_isUsable_22 rfl (fun c_2 => ?_) (fun c_2 => ?_)
    · refine z_iconst (v := 0) B dX0_isUsable_29 rfl ?_
      exact z_ret_z B dX0_isUsable_30 (by decide) ⟨⟨_, rfl, by decide⟩, rfl, hI2, (fun b9 h9 => ((hF2 b9 (fun j9 h8 h7 => (show False from h7).elim)).trans ((hF1 b9 (fun j9 h8 h7 => (show False from h7).elim)).trans rfl)))⟩
    · refine z_iconst (v := 1) B dX0_isUsable_25 rfl ?_
      refine z_goto (tgt := 30) B dX0_isUsable_26 rfl ?_
      exact z_ret_z B dX0_isUsable_30 (by decide) ⟨⟨_, rfl, by decide⟩, rfl, hI2, (fun b9 h9 => ((hF2 b9 (fun j9 h8 h7 => (show False from h7).elim)).trans ((hF1 b9 (fun j9 h8 h7 => (show False from h7).elim)).trans rfl)))⟩

set_option maxHeartbeats 4000000 in
set_option maxRecDepth 100000 in
theorem s_X0_usableTemplates (G : EnvG) (l : Launch) (Φ : Hm) (sz x ca : Nat) (a : Int32) (hx : G.2.2.2 ≤ x) (hI : In G x ca Φ)  : Ct G l yX0_usableTemplates wsX0_usableTemplates ({ frames := 2, cells := 0, slots := 0, locals := 45 }) 0 0 [.ref (x + 132), .int a] Φ sz (fun v Φ1 sz1 => (∃ r9 : Int32, v = some (.int r9)) ∧ sz1 = sz ∧ In G x (ca) Φ1 ∧ Fr x (fun j9 => False) Φ Φ1) := by
  refine Ct.of (cc := cX0_usableTemplates) (maxL := 4) (ret := (some .int)) (by decide) rfl (Nat.le_of_ble_eq_true rfl) ?_
  intro p9 e9 s9 m9 w9 t9 k9 B
  show Z p9 l e9 _ s9 m9 _ w9 t9 k9 _ G 4 0 [(0, .ref (x + 132)), (1, .int a)] [] Φ sz 0 0
  refine z_iconst (v := 0) B dX0_usableTemplates_0 rfl ?_
  refine z_istore_n (lv' := [(2, .int 0), (0, .ref (x + 132)), (1, .int a)]) B dX0_usableTemplates_1 rfl (Nat.le_of_ble_eq_true rfl) rfl ?_
  refine z_iconst (v := 0) B dX0_usableTemplates_2 rfl ?_
  refine z_istore_n (lv' := [(3, .int 0), (2, .int 0), (0, .ref (x + 132)), (1, .int a)]) B dX0_usableTemplates_3 rfl (Nat.le_of_ble_eq_true rfl) rfl ?_
  refine z_lv [0, 1, 2, 3] rfl ?_
  refine z_loop (α := Nat × Int32) (fun (a9 : Nat × Int32) Φi => In G x (ca) Φi ∧ Fr x (fun j9 => False) Φ Φi ∧ (a9.1 ≤ 4) ∧ True) (fun a9 => [(3, .int (nI (a9.1))), (2, .int a9.2), (0, .ref (x + 132)), (1, .int a)]) (fun a9 => 4 - a9.1) ?_ (0, 0) ⟨hI, fun _ _ => rfl, (show 0 ≤ 4 by omega), trivial⟩
  rintro ⟨i_1, i_2⟩ Φl1 ⟨hI1, hF1, b_1, -⟩ ih1
  replace hI1 : In G x (ca) Φl1 := hI1
  replace b_1 : i_1 ≤ 4 := b_1
  show Z p9 l e9 _ s9 m9 _ w9 t9 k9 _ G 4 4 [(3, .int (nI i_1)), (2, .int i_2), (0, .ref (x + 132)), (1, .int a)] [] Φl1 _ _ _
  refine z_iload_n B dX0_usableTemplates_4 rfl 0 rfl ?_
  refine z_iconst (v := 4) B dX0_usableTemplates_5 rfl ?_
  refine z_icmp_ge (tgt := 30) B dX0_usableTemplates_6 rfl (fun c_1 => ?_) (fun c_1 => ?_)
  · have e_1 : 4 ≤ i_1 := (nI_leI (a := 4) (b := i_1) (by omega) (by omega)).mp c_1
    refine z_iload_n B dX0_usableTemplates_30 rfl 1 rfl ?_
    exact z_ret_i B dX0_usableTemplates_31 ⟨⟨_, rfl⟩, rfl, hI1, (fun b9 h9 => ((hF1 b9 (fun j9 h8 h7 => (show False from h7).elim)).trans rfl))⟩
  · have e_2 : ¬ (4 ≤ i_1) := fun h9 => c_1 ((nI_leI (a := 4) (b := i_1) (by omega) (by omega)).mpr h9)
    refine z_aload_n B dX0_usableTemplates_9 rfl 2 rfl ?_
    refine z_iload_n B dX0_usableTemplates_10 rfl 0 rfl ?_
    refine z_iload_n B dX0_usableTemplates_11 rfl 3 rfl ?_
    obtain ⟨n_1, v_1, v_2, h_1, b_2⟩ := in25 (k := 132) hI1 rfl
    have h_2 : Φl1 (x + 132) = some (o_ 2 [.ref (x + 3), .ref (x + 121), .ref (x + 133), .ref (x + 134), .ref (x + 135), .ref (x + 137), .ref (x + 138), .ref (x + 139), .ref (x + 140), .int (nI n_1), .int v_1, .int v_2]) := h_1
    refine z_callV (As := [.int (nI i_1), .int a]) (rest := []) B (s_X0_isUsable G l Φl1 sz x (ca) (nI i_1) a hx hI1 ) (cwV 2 B.1.2.2.2.2 gX0_usableTemplates_X0_isUsable rfl rfl rfl (by decide +kernel) ⟨Nat.le_of_ble_eq_true rfl, Nat.le_of_ble_eq_true rfl⟩) h_2 rfl rfl rfl rfl (Nat.le_of_ble_eq_true rfl) dX0_usableTemplates_12 ⟨Nat.le_of_ble_eq_true rfl, Nat.le_of_ble_eq_true rfl⟩ (fun r_1 Φ1 sz1 st1 hp1 hs1 => ?_)
    obtain ⟨⟨v_3, rfl, b_3⟩, hq1, hI2, hF2⟩ := hp1
    subst sz1
    replace hs1 : st1 = [.int v_3] := hs1
    subst st1
    replace hI2 : In G x (ca) Φ1 := hI2
    refine z_if_eq (tgt := 24) B dX0_usableTemplates_15 rfl (fun c_2 => ?_) (fun c_2 => ?_)
    · refine z_iinc (k := 0) (v := nI (i_1 + 1)) (lv' := [(3, .int (nI (i_1 + 1))), (2, .int i_2), (0, .ref (x + 132)), (1, .int a)]) B dX0_usableTemplates_24 rfl (nI_add i_1 1) (Nat.le_of_ble_eq_true rfl) rfl ?_
      refine z_goto (tgt := 4) B dX0_usableTemplates_27 rfl ?_
      refine z_lv [0, 1, 2, 3] rfl ?_
      exact ih1 (i_1 + 1, i_2) Φ1 (show 4 - (i_1 + 1) < 4 - i_1 by omega) ⟨hI2, (fun b9 h9 => ((hF2 b9 (fun j9 h8 h7 => (show False from h7).elim)).trans ((hF1 b9 (fun j9 h8 h7 => (show False from h7).elim)).trans rfl))), (show (i_1 + 1) ≤ 4 by omega), trivial⟩
    · refine z_iload_n B dX0_usableTemplates_18 rfl 1 rfl ?_
      refine z_iconst (v := 1) B dX0_usableTemplates_19 rfl ?_
      refine z_iload_n B dX0_usableTemplates_20 rfl 0 rfl ?_
      refine z_ishl B dX0_usableTemplates_21 ?_
      refine z_fi (fun v_4 => ?_)
      refine z_ior B dX0_usableTemplates_22 ?_
      refine z_fi (fun v_5 => ?_)
      refine z_istore_n (lv' := [(2, .int v_5), (3, .int (nI i_1)), (0, .ref (x + 132)), (1, .int a)]) B dX0_usableTemplates_23 rfl (Nat.le_of_ble_eq_true rfl) rfl ?_
      refine z_iinc (k := 1) (v := nI (i_1 + 1)) (lv' := [(3, .int (nI (i_1 + 1))), (2, .int v_5), (0, .ref (x + 132)), (1, .int a)]) B dX0_usableTemplates_24 rfl (nI_add i_1 1) (Nat.le_of_ble_eq_true rfl) rfl ?_
      refine z_goto (tgt := 4) B dX0_usableTemplates_27 rfl ?_
      refine z_lv [0, 1, 2, 3] rfl ?_
      exact ih1 (i_1 + 1, v_5) Φ1 (show 4 - (i_1 + 1) < 4 - i_1 by omega) ⟨hI2, (fun b9 h9 => ((hF2 b9 (fun j9 h8 h7 => (show False from h7).elim)).trans ((hF1 b9 (fun j9 h8 h7 => (show False from h7).elim)).trans rfl))), (show (i_1 + 1) ≤ 4 by omega), trivial⟩

theorem hu_X0_isRecent_X0 : ∀ w ∈ u_ws RX0 TX0 12, w ∈ wsX0_isRecent := fun _ h => List.mem_cons_of_mem _ (List.mem_append_left _ (List.mem_append_right _ (h)))

theorem hv_X0_isRecent_39 : Cond.fieldLink RX0 39 "FlowExporter$Collector" (TX0 9).2.1 (TX0 9).2.2.1 ∈ wsX0_isRecent := List.mem_cons_of_mem _ (List.mem_append_left _ (List.mem_append_left _ (List.mem_of_getElem? (i := 0) rfl)))

theorem hv_X0_isRecent_26 : Cond.fieldLink RX0 26 "FlowExporter$Collector" (TX0 5).2.1 (TX0 5).2.2.1 ∈ wsX0_isRecent := List.mem_cons_of_mem _ (List.mem_append_left _ (List.mem_append_left _ (List.mem_of_getElem? (i := 1) rfl)))

theorem hv_X0_isRecent_29 : Cond.fieldLink RX0 29 "FlowExporter$Collector" (TX0 6).2.1 (TX0 6).2.2.1 ∈ wsX0_isRecent := List.mem_cons_of_mem _ (List.mem_append_left _ (List.mem_append_left _ (List.mem_of_getElem? (i := 2) rfl)))

set_option maxHeartbeats 4000000 in
set_option maxRecDepth 100000 in
theorem s_X0_isRecent (G : EnvG) (l : Launch) (Φ : Hm) (sz x ca : Nat) (a : Int32) (b : Int32) (hx : G.2.2.2 ≤ x) (hI : In G x ca Φ) (hca : ca < 1000000) : Ct G l yX0_isRecent wsX0_isRecent ({ frames := 0, cells := 0, slots := 0, locals := 0 }) 0 0 [.ref (x + 132), .int a, .int b] Φ sz (fun v Φ1 sz1 => (∃ r9 : Int32, v = some (.int r9) ∧ (r9 = 0 ∨ r9 = 1)) ∧ sz1 = sz ∧ In G x (ca) Φ1 ∧ Fr x (fun j9 => False) Φ Φ1) := by
  refine Ct.of (cc := cX0_isRecent) (maxL := 4) (ret := (some .boolean)) (by decide) rfl (Nat.le_of_ble_eq_true rfl) ?_
  intro p9 e9 s9 m9 w9 t9 k9 B
  show Z p9 l e9 _ s9 m9 _ w9 t9 k9 _ G 4 0 [(0, .ref (x + 132)), (1, .int a), (2, .int b)] [] Φ sz 0 0
  refine z_iconst (v := 0) B dX0_isRecent_0 rfl ?_
  refine z_istore_n (lv' := [(3, .int 0), (0, .ref (x + 132)), (1, .int a), (2, .int b)]) B dX0_isRecent_1 rfl (Nat.le_of_ble_eq_true rfl) rfl ?_
  refine z_lv [0, 1, 2, 3] rfl ?_
  refine z_loop (α := Nat) (fun (a9 : Nat) Φi => In G x (ca) Φi ∧ Fr x (fun j9 => False) Φ Φi ∧ (a9 ≤ 8) ∧ True) (fun a9 => [(3, .int (nI a9)), (0, .ref (x + 132)), (1, .int a), (2, .int b)]) (fun a9 => 8 - a9) ?_ (0) ⟨hI, fun _ _ => rfl, (show 0 ≤ 8 by omega), trivial⟩
  rintro i_1 Φl1 ⟨hI1, hF1, b_1, -⟩ ih1
  replace hI1 : In G x (ca) Φl1 := hI1
  replace b_1 : i_1 ≤ 8 := b_1
  show Z p9 l e9 _ s9 m9 _ w9 t9 k9 _ G 4 2 [(3, .int (nI i_1)), (0, .ref (x + 132)), (1, .int a), (2, .int b)] [] Φl1 _ _ _
  refine z_iload_n B dX0_isRecent_2 rfl 0 rfl ?_
  refine z_bipush (v := 8) B dX0_isRecent_3 rfl ?_
  refine z_icmp_ge (tgt := 44) B dX0_isRecent_5 rfl (fun c_1 => ?_) (fun c_1 => ?_)
  · have e_1 : 8 ≤ i_1 := (nI_leI (a := 8) (b := i_1) (by omega) (by omega)).mp c_1
    refine z_iconst (v := 0) B dX0_isRecent_44 rfl ?_
    exact z_ret_z B dX0_isRecent_45 (by decide) ⟨⟨_, rfl, by decide⟩, rfl, hI1, (fun b9 h9 => ((hF1 b9 (fun j9 h8 h7 => (show False from h7).elim)).trans rfl))⟩
  · have e_2 : ¬ (8 ≤ i_1) := fun h9 => c_1 ((nI_leI (a := 8) (b := i_1) (by omega) (by omega)).mpr h9)
    refine z_iload_n B dX0_isRecent_8 rfl 0 rfl ?_
    refine z_aload_n B dX0_isRecent_9 rfl 1 rfl ?_
    obtain ⟨n_1, v_1, v_2, h_1, b_2⟩ := in25 (k := 132) hI1 rfl
    have h_2 : Φl1 (x + 132) = some (o_ 2 [.ref (x + 3), .ref (x + 121), .ref (x + 133), .ref (x + 134), .ref (x + 135), .ref (x + 137), .ref (x + 138), .ref (x + 139), .ref (x + 140), .int (nI n_1), .int v_1, .int v_2]) := h_1
    refine z_get (ref := "FlowExporter$Collector") (C := RX0) (T := TX0) (N := 12) (ci := 2) (v := .int (nI n_1)) B hu_X0_isRecent_X0 rfl 9 (Nat.le_of_ble_eq_true rfl) hv_X0_isRecent_39 rfl h_2 rfl dX0_isRecent_10 ?_
    refine z_icmp_ge (tgt := 44) B dX0_isRecent_13 rfl (fun c_2 => ?_) (fun c_2 => ?_)
    · have e_3 : n_1 ≤ i_1 := (nI_leI (a := n_1) (b := i_1) (by omega) (by omega)).mp c_2
      refine z_iconst (v := 0) B dX0_isRecent_44 rfl ?_
      exact z_ret_z B dX0_isRecent_45 (by decide) ⟨⟨_, rfl, by decide⟩, rfl, hI1, (fun b9 h9 => ((hF1 b9 (fun j9 h8 h7 => (show False from h7).elim)).trans rfl))⟩
    · have e_4 : ¬ (n_1 ≤ i_1) := fun h9 => c_2 ((nI_leI (a := n_1) (b := i_1) (by omega) (by omega)).mpr h9)
      refine z_aload_n B dX0_isRecent_16 rfl 1 rfl ?_
      refine z_get (ref := "FlowExporter$Collector") (C := RX0) (T := TX0) (N := 12) (ci := 2) (v := .ref (x + 137)) B hu_X0_isRecent_X0 rfl 5 (Nat.le_of_ble_eq_true rfl) hv_X0_isRecent_26 rfl h_2 rfl dX0_isRecent_17 ?_
      refine z_iload_n B dX0_isRecent_20 rfl 0 rfl ?_
      obtain ⟨f_1, h_3⟩ := in27 (k := 137) hI1 rfl
      have h_4 : Φl1 (x + 137) = some (ai_ G 8 f_1) := h_3
      refine z_iald B h_4 (vp_in_nI (by omega) (by omega)) dX0_isRecent_21 ?_
      refine z_fi (fun v_3 => ?_)
      refine z_iload_n B dX0_isRecent_22 rfl 2 rfl ?_
      refine z_icmp_ne (tgt := 38) B dX0_isRecent_23 rfl (fun c_3 => ?_) (fun c_3 => ?_)
      · refine z_iinc (k := 0) (v := nI (i_1 + 1)) (lv' := [(3, .int (nI (i_1 + 1))), (0, .ref (x + 132)), (1, .int a), (2, .int b)]) B dX0_isRecent_38 rfl (nI_add i_1 1) (Nat.le_of_ble_eq_true rfl) rfl ?_
        refine z_goto (tgt := 2) B dX0_isRecent_41 rfl ?_
        refine z_lv [0, 1, 2, 3] rfl ?_
        exact ih1 (i_1 + 1) Φl1 (show 8 - (i_1 + 1) < 8 - i_1 by omega) ⟨hI1, (fun b9 h9 => ((hF1 b9 (fun j9 h8 h7 => (show False from h7).elim)).trans rfl)), (show (i_1 + 1) ≤ 8 by omega), trivial⟩
      · refine z_aload_n B dX0_isRecent_26 rfl 1 rfl ?_
        refine z_get (ref := "FlowExporter$Collector") (C := RX0) (T := TX0) (N := 12) (ci := 2) (v := .ref (x + 138)) B hu_X0_isRecent_X0 rfl 6 (Nat.le_of_ble_eq_true rfl) hv_X0_isRecent_29 rfl h_2 rfl dX0_isRecent_27 ?_
        refine z_iload_n B dX0_isRecent_30 rfl 0 rfl ?_
        obtain ⟨f_2, h_5⟩ := in27 (k := 138) hI1 rfl
        have h_6 : Φl1 (x + 138) = some (ai_ G 8 f_2) := h_5
        refine z_iald B h_6 (vp_in_nI (by omega) (by omega)) dX0_isRecent_31 ?_
        refine z_fi (fun v_4 => ?_)
        refine z_iload_n B dX0_isRecent_32 rfl 3 rfl ?_
        refine z_icmp_ne (tgt := 38) B dX0_isRecent_33 rfl (fun c_4 => ?_) (fun c_4 => ?_)
        · refine z_iinc (k := 0) (v := nI (i_1 + 1)) (lv' := [(3, .int (nI (i_1 + 1))), (0, .ref (x + 132)), (1, .int a), (2, .int b)]) B dX0_isRecent_38 rfl (nI_add i_1 1) (Nat.le_of_ble_eq_true rfl) rfl ?_
          refine z_goto (tgt := 2) B dX0_isRecent_41 rfl ?_
          refine z_lv [0, 1, 2, 3] rfl ?_
          exact ih1 (i_1 + 1) Φl1 (show 8 - (i_1 + 1) < 8 - i_1 by omega) ⟨hI1, (fun b9 h9 => ((hF1 b9 (fun j9 h8 h7 => (show False from h7).elim)).trans rfl)), (show (i_1 + 1) ≤ 8 by omega), trivial⟩
        · refine z_iconst (v := 1) B dX0_isRecent_36 rfl ?_
          exact z_ret_z B dX0_isRecent_37 (by decide) ⟨⟨_, rfl, by decide⟩, rfl, hI1, (fun b9 h9 => ((hF1 b9 (fun j9 h8 h7 => (show False from h7).elim)).trans rfl))⟩

theorem hu_X0_account_X0 : ∀ w ∈ u_ws RX0 TX0 12, w ∈ wsX0_account := fun _ h => List.mem_cons_of_mem _ (List.mem_append_left _ (List.mem_append_right _ (h)))

theorem hv_X0_account_46 : Cond.fieldLink RX0 46 "FlowExporter$Collector" (TX0 11).2.1 (TX0 11).2.2.1 ∈ wsX0_account := List.mem_cons_of_mem _ (List.mem_append_left _ (List.mem_append_left _ (List.mem_of_getElem? (i := 0) rfl)))

theorem hv_X0_account_39 : Cond.fieldLink RX0 39 "FlowExporter$Collector" (TX0 9).2.1 (TX0 9).2.2.1 ∈ wsX0_account := List.mem_cons_of_mem _ (List.mem_append_left _ (List.mem_append_left _ (List.mem_of_getElem? (i := 7) rfl)))

theorem hv_X0_account_26 : Cond.fieldLink RX0 26 "FlowExporter$Collector" (TX0 5).2.1 (TX0 5).2.2.1 ∈ wsX0_account := List.mem_cons_of_mem _ (List.mem_append_left _ (List.mem_append_left _ (List.mem_of_getElem? (i := 8) rfl)))

theorem hv_X0_account_29 : Cond.fieldLink RX0 29 "FlowExporter$Collector" (TX0 6).2.1 (TX0 6).2.2.1 ∈ wsX0_account := List.mem_cons_of_mem _ (List.mem_append_left _ (List.mem_append_left _ (List.mem_of_getElem? (i := 9) rfl)))

theorem hv_X0_account_43 : Cond.fieldLink RX0 43 "FlowExporter$Collector" (TX0 10).2.1 (TX0 10).2.2.1 ∈ wsX0_account := List.mem_cons_of_mem _ (List.mem_append_left _ (List.mem_append_left _ (List.mem_of_getElem? (i := 1) rfl)))

theorem hv_X0_account_32 : Cond.fieldLink RX0 32 "FlowExporter$Collector" (TX0 7).2.1 (TX0 7).2.2.1 ∈ wsX0_account := List.mem_cons_of_mem _ (List.mem_append_left _ (List.mem_append_left _ (List.mem_of_getElem? (i := 2) rfl)))

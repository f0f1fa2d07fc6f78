set_option maxRecDepth 20000 in
theorem ggX0_clear_J7_fill_d0a16 : GoodIn wsX0_clear wsJ7_fill_d0a16 := goodIn_r _ [5] (by decide +kernel) (by decide +kernel)
set_option maxRecDepth 20000 in
theorem gX0_clear_J7_fill_d0a16 : GoodIn wsX0_clear (va_wsS RX0 57 yJ7_fill_d0a16 wsJ7_fill_d0a16) := goodIn_app (goodIn_of _ (by decide +kernel)) ggX0_clear_J7_fill_d0a16
set_option maxRecDepth 20000 in
theorem ggX0_clear_X0_restart : GoodIn wsX0_clear wsX0_restart := goodIn_r _ [10, 11, 12, 13, 14, 15, 16, 17, 18, 19, 20, 21, 22, 23, 24, 25, 26, 27, 28, 29, 30, 31, 32, 33, 34, 35, 36, 37] (by decide +kernel) (by decide +kernel)
set_option maxRecDepth 20000 in
theorem gX0_clear_X0_restart : GoodIn wsX0_clear (wsV RX0 63 RX0 yX0_restart wsX0_restart) := goodIn_app (goodIn_of _ (by decide +kernel)) ggX0_clear_X0_restart
theorem dX0_clear_0 : decode cX0_clear 0 = .ok (.aload_n 0, 1) := by decide +kernel
theorem dX0_clear_1 : decode cX0_clear 1 = .ok (.getfield 32, 3) := by decide +kernel
theorem dX0_clear_4 : decode cX0_clear 4 = .ok (.lconst 0, 1) := by decide +kernel
theorem dX0_clear_5 : decode cX0_clear 5 = .ok (.invokestatic 57, 3) := by decide +kernel
theorem dX0_clear_8 : decode cX0_clear 8 = .ok (.aload_n 0, 1) := by decide +kernel
theorem dX0_clear_9 : decode cX0_clear 9 = .ok (.invokevirtual 63, 3) := by decide +kernel
theorem dX0_clear_12 : decode cX0_clear 12 = .ok (.pop, 1) := by decide +kernel
theorem dX0_clear_13 : decode cX0_clear 13 = .ok (.return_, 1) := by decide +kernel
set_option maxRecDepth 20000 in
theorem ggX0_restart_X10_clear : GoodIn wsX0_restart wsX10_clear := goodIn_r _ [8, 9, 10, 11, 24, 25, 26, 27] (by decide +kernel) (by decide +kernel)
set_option maxRecDepth 20000 in
theorem gX0_restart_X10_clear : GoodIn wsX0_restart (wsV RX0 70 RX10 yX10_clear wsX10_clear) := goodIn_app (goodIn_of _ (by decide +kernel)) ggX0_restart_X10_clear
theorem dX0_restart_0 : decode cX0_restart 0 = .ok (.iconst 0, 1) := by decide +kernel
theorem dX0_restart_1 : decode cX0_restart 1 = .ok (.istore_n 1, 1) := by decide +kernel
theorem dX0_restart_2 : decode cX0_restart 2 = .ok (.iconst 0, 1) := by decide +kernel
theorem dX0_restart_3 : decode cX0_restart 3 = .ok (.istore_n 2, 1) := by decide +kernel
theorem dX0_restart_4 : decode cX0_restart 4 = .ok (.iload_n 2, 1) := by decide +kernel
theorem dX0_restart_5 : decode cX0_restart 5 = .ok (.iconst 4, 1) := by decide +kernel
theorem dX0_restart_6 : decode cX0_restart 6 = .ok (.if_icmp .ge 33, 3) := by decide +kernel
theorem dX0_restart_9 : decode cX0_restart 9 = .ok (.aload_n 0, 1) := by decide +kernel
theorem dX0_restart_10 : decode cX0_restart 10 = .ok (.getfield 11, 3) := by decide +kernel
theorem dX0_restart_13 : decode cX0_restart 13 = .ok (.iload_n 2, 1) := by decide +kernel
theorem dX0_restart_14 : decode cX0_restart 14 = .ok (.aaload, 1) := by decide +kernel
theorem dX0_restart_15 : decode cX0_restart 15 = .ok (.getfield 67, 3) := by decide +kernel
theorem dX0_restart_18 : decode cX0_restart 18 = .ok (.ifCond .le 6, 3) := by decide +kernel
theorem dX0_restart_21 : decode cX0_restart 21 = .ok (.iinc 1 1, 3) := by decide +kernel
theorem dX0_restart_24 : decode cX0_restart 24 = .ok (.aload_n 0, 1) := by decide +kernel
theorem dX0_restart_25 : decode cX0_restart 25 = .ok (.getfield 11, 3) := by decide +kernel
theorem dX0_restart_28 : decode cX0_restart 28 = .ok (.iload_n 2, 1) := by decide +kernel
theorem dX0_restart_29 : decode cX0_restart 29 = .ok (.aaload, 1) := by decide +kernel
theorem dX0_restart_30 : decode cX0_restart 30 = .ok (.invokevirtual 70, 3) := by decide +kernel
theorem dX0_restart_33 : decode cX0_restart 33 = .ok (.iinc 2 1, 3) := by decide +kernel
theorem dX0_restart_36 : decode cX0_restart 36 = .ok (.goto (-32), 3) := by decide +kernel
theorem dX0_restart_39 : decode cX0_restart 39 = .ok (.aload_n 0, 1) := by decide +kernel
theorem dX0_restart_40 : decode cX0_restart 40 = .ok (.iconst 0, 1) := by decide +kernel
theorem dX0_restart_41 : decode cX0_restart 41 = .ok (.putfield 39, 3) := by decide +kernel
theorem dX0_restart_44 : decode cX0_restart 44 = .ok (.iload_n 1, 1) := by decide +kernel
theorem dX0_restart_45 : decode cX0_restart 45 = .ok (.ireturn, 1) := by decide +kernel
theorem dX0_hasStarted_0 : decode cX0_hasStarted 0 = .ok (.aload_n 0, 1) := by decide +kernel
theorem dX0_hasStarted_1 : decode cX0_hasStarted 1 = .ok (.getfield 39, 3) := by decide +kernel
theorem dX0_hasStarted_4 : decode cX0_hasStarted 4 = .ok (.ifCond .le 7, 3) := by decide +kernel
theorem dX0_hasStarted_7 : decode cX0_hasStarted 7 = .ok (.iconst 1, 1) := by decide +kernel
theorem dX0_hasStarted_8 : decode cX0_hasStarted 8 = .ok (.goto 4, 3) := by decide +kernel
theorem dX0_hasStarted_11 : decode cX0_hasStarted 11 = .ok (.iconst 0, 1) := by decide +kernel
theorem dX0_hasStarted_12 : decode cX0_hasStarted 12 = .ok (.ireturn, 1) := by decide +kernel
theorem dX0_ageOf_0 : decode cX0_ageOf 0 = .ok (.iload_n 1, 1) := by decide +kernel
theorem dX0_ageOf_1 : decode cX0_ageOf 1 = .ok (.ifCond .lt 20, 3) := by decide +kernel
theorem dX0_ageOf_4 : decode cX0_ageOf 4 = .ok (.iload_n 1, 1) := by decide +kernel
theorem dX0_ageOf_5 : decode cX0_ageOf 5 = .ok (.iconst 4, 1) := by decide +kernel
theorem dX0_ageOf_6 : decode cX0_ageOf 6 = .ok (.if_icmp .ge 15, 3) := by decide +kernel
theorem dX0_ageOf_9 : decode cX0_ageOf 9 = .ok (.aload_n 0, 1) := by decide +kernel
theorem dX0_ageOf_10 : decode cX0_ageOf 10 = .ok (.getfield 11, 3) := by decide +kernel
theorem dX0_ageOf_13 : decode cX0_ageOf 13 = .ok (.iload_n 1, 1) := by decide +kernel
theorem dX0_ageOf_14 : decode cX0_ageOf 14 = .ok (.aaload, 1) := by decide +kernel
theorem dX0_ageOf_15 : decode cX0_ageOf 15 = .ok (.getfield 67, 3) := by decide +kernel
theorem dX0_ageOf_18 : decode cX0_ageOf 18 = .ok (.ifCond .ne 5, 3) := by decide +kernel
theorem dX0_ageOf_21 : decode cX0_ageOf 21 = .ok (.iconst (-1), 1) := by decide +kernel
theorem dX0_ageOf_22 : decode cX0_ageOf 22 = .ok (.ireturn, 1) := by decide +kernel
theorem dX0_ageOf_23 : decode cX0_ageOf 23 = .ok (.iload_n 2, 1) := by decide +kernel
theorem dX0_ageOf_24 : decode cX0_ageOf 24 = .ok (.aload_n 0, 1) := by decide +kernel
theorem dX0_ageOf_25 : decode cX0_ageOf 25 = .ok (.getfield 17, 3) := by decide +kernel
theorem dX0_ageOf_28 : decode cX0_ageOf 28 = .ok (.iload_n 1, 1) := by decide +kernel
theorem dX0_ageOf_29 : decode cX0_ageOf 29 = .ok (.iaload, 1) := by decide +kernel
theorem dX0_ageOf_30 : decode cX0_ageOf 30 = .ok (.isub, 1) := by decide +kernel
theorem dX0_ageOf_31 : decode cX0_ageOf 31 = .ok (.ireturn, 1) := by decide +kernel
set_option maxRecDepth 20000 in
theorem ggX0_isUsable_X0_ageOf : GoodIn wsX0_isUsable wsX0_ageOf := goodIn_ca (goodIn_r _ [6, 7, 8, 9, 16, 17, 18, 19, 20, 21, 22, 23, 24, 25, 26, 27, 28, 29, 30, 31] (by decide +kernel) (by decide +kernel)) (goodIn_sub (fun _ h => List.mem_cons_of_mem _ (List.mem_append_right _ h)) (by decide +kernel))
set_option maxRecDepth 20000 in
theorem gX0_isUsable_X0_ageOf : GoodIn wsX0_isUsable (wsV RX0 73 RX0 yX0_ageOf wsX0_ageOf) := goodIn_app (goodIn_of _ (by decide +kernel)) ggX0_isUsable_X0_ageOf
set_option maxRecDepth 20000 in
theorem ggX0_isUsable_X1_get : GoodIn wsX0_isUsable wsX1_get := goodIn_ca (goodIn_r _ [14, 15, 32, 33, 34, 35, 36, 37] (by decide +kernel) (by decide +kernel)) (goodIn_sub (fun _ h => List.mem_cons_of_mem _ (List.mem_append_right _ h)) (by decide +kernel))
set_option maxRecDepth 20000 in
theorem gX0_isUsable_X1_get : GoodIn wsX0_isUsable (wsV RX0 77 RX1 yX1_get wsX1_get) := goodIn_app (goodIn_of _ (by decide +kernel)) ggX0_isUsable_X1_get
theorem dX0_isUsable_0 : decode cX0_isUsable 0 = .ok (.aload_n 0, 1) := by decide +kernel
theorem dX0_isUsable_1 : decode cX0_isUsable 1 = .ok (.iload_n 1, 1) := by decide +kernel
theorem dX0_isUsable_2 : decode cX0_isUsable 2 = .ok (.iload_n 2, 1) := by decide +kernel
theorem dX0_isUsable_3 : decode cX0_isUsable 3 = .ok (.invokevirtual 73, 3) := by decide +kernel
theorem dX0_isUsable_6 : decode cX0_isUsable 6 = .ok (.istore_n 3, 1) := by decide +kernel
theorem dX0_isUsable_7 : decode cX0_isUsable 7 = .ok (.iload_n 3, 1) := by decide +kernel
theorem dX0_isUsable_8 : decode cX0_isUsable 8 = .ok (.iconst (-1), 1) := by decide +kernel
theorem dX0_isUsable_9 : decode cX0_isUsable 9 = .ok (.if_icmp .eq 20, 3) := by decide +kernel
theorem dX0_isUsable_12 : decode cX0_isUsable 12 = .ok (.iload_n 3, 1) := by decide +kernel
theorem dX0_isUsable_13 : decode cX0_isUsable 13 = .ok (.aload_n 0, 1) := by decide +kernel
theorem dX0_isUsable_14 : decode cX0_isUsable 14 = .ok (.getfield 49, 3) := by decide +kernel
theorem dX0_isUsable_17 : decode cX0_isUsable 17 = .ok (.bipush 6, 2) := by decide +kernel
theorem dX0_isUsable_19 : decode cX0_isUsable 19 = .ok (.invokevirtual 77, 3) := by decide +kernel
theorem dX0_isUsable_22 : decode cX0_isUsable 22 = .ok (.if_icmp .gt 7, 3) := by decide +kernel
theorem dX0_isUsable_25 : decode cX0_isUsable 25 = .ok (.iconst 1, 1) := by decide +kernel
theorem dX0_isUsable_26 : decode cX0_isUsable 26 = .ok (.goto 4, 3) := by decide +kernel
theorem dX0_isUsable_29 : decode cX0_isUsable 29 = .ok (.iconst 0, 1) := by decide +kernel
theorem dX0_isUsable_30 : decode cX0_isUsable 30 = .ok (.ireturn, 1) := by decide +kernel
set_option maxRecDepth 20000 in
theorem ggX0_usableTemplates_X0_isUsable : GoodIn wsX0_usableTemplates wsX0_isUsable := goodIn_ca (goodIn_r _ [5, 6, 7, 8, 9, 4, 10, 11, 12, 13, 14, 15, 16, 17, 18, 19, 20, 21, 22, 23, 24, 25, 26, 27, 28, 29, 30, 31, 32, 33, 34, 35, 36, 37, 38, 39, 40, 41] (by decide +kernel) (by decide +kernel)) (goodIn_sub (fun _ h => List.mem_cons_of_mem _ (List.mem_append_right _ h)) (by decide +kernel))
set_option maxRecDepth 20000 in
theorem gX0_usableTemplates_X0_isUsable : GoodIn wsX0_usableTemplates (wsV RX0 83 RX0 yX0_isUsable wsX0_isUsable) := goodIn_app (goodIn_of _ (by decide +kernel)) ggX0_usableTemplates_X0_isUsable
theorem dX0_usableTemplates_0 : decode cX0_usableTemplates 0 = .ok (.iconst 0, 1) := by decide +kernel
theorem dX0_usableTemplates_1 : decode cX0_usableTemplates 1 = .ok (.istore_n 2, 1) := by decide +kernel
theorem dX0_usableTemplates_2 : decode cX0_usableTemplates 2 = .ok (.iconst 0, 1) := by decide +kernel
theorem dX0_usableTemplates_3 : decode cX0_usableTemplates 3 = .ok (.istore_n 3, 1) := by decide +kernel
theorem dX0_usableTemplates_4 : decode cX0_usableTemplates 4 = .ok (.iload_n 3, 1) := by decide +kernel
theorem dX0_usableTemplates_5 : decode cX0_usableTemplates 5 = .ok (.iconst 4, 1) := by decide +kernel
theorem dX0_usableTemplates_6 : decode cX0_usableTemplates 6 = .ok (.if_icmp .ge 24, 3) := by decide +kernel
theorem dX0_usableTemplates_9 : decode cX0_usableTemplates 9 = .ok (.aload_n 0, 1) := by decide +kernel
theorem dX0_usableTemplates_10 : decode cX0_usableTemplates 10 = .ok (.iload_n 3, 1) := by decide +kernel
theorem dX0_usableTemplates_11 : decode cX0_usableTemplates 11 = .ok (.iload_n 1, 1) := by decide +kernel
theorem dX0_usableTemplates_12 : decode cX0_usableTemplates 12 = .ok (.invokevirtual 83, 3) := by decide +kernel
theorem dX0_usableTemplates_15 : decode cX0_usableTemplates 15 = .ok (.ifCond .eq 9, 3) := by decide +kernel
theorem dX0_usableTemplates_18 : decode cX0_usableTemplates 18 = .ok (.iload_n 2, 1) := by decide +kernel
theorem dX0_usableTemplates_19 : decode cX0_usableTemplates 19 = .ok (.iconst 1, 1) := by decide +kernel
theorem dX0_usableTemplates_20 : decode cX0_usableTemplates 20 = .ok (.iload_n 3, 1) := by decide +kernel
theorem dX0_usableTemplates_21 : decode cX0_usableTemplates 21 = .ok (.ishl, 1) := by decide +kernel
theorem dX0_usableTemplates_22 : decode cX0_usableTemplates 22 = .ok (.ior, 1) := by decide +kernel
theorem dX0_usableTemplates_23 : decode cX0_usableTemplates 23 = .ok (.istore_n 2, 1) := by decide +kernel
theorem dX0_usableTemplates_24 : decode cX0_usableTemplates 24 = .ok (.iinc 3 1, 3) := by decide +kernel
theorem dX0_usableTemplates_27 : decode cX0_usableTemplates 27 = .ok (.goto (-23), 3) := by decide +kernel
theorem dX0_usableTemplates_30 : decode cX0_usableTemplates 30 = .ok (.iload_n 2, 1) := by decide +kernel
theorem dX0_usableTemplates_31 : decode cX0_usableTemplates 31 = .ok (.ireturn, 1) := by decide +kernel
set_option maxRecDepth 20000 in
theorem ggX0_take_X5_intAt : GoodIn wsX0_take wsX5_intAt := goodIn_ca (goodIn_r _ [11, 12, 13, 14, 10, 15, 16, 17, 164, 165] (by decide +kernel) (by decide +kernel)) (goodIn_sub (fun _ h => List.mem_cons_of_mem _ (List.mem_append_right _ h)) (by decide +kernel))
set_option maxRecDepth 20000 in
theorem gX0_take_X5_intAt : GoodIn wsX0_take (wsV RX0 92 RX5 yX5_intAt wsX5_intAt) := goodIn_app (goodIn_of _ (by decide +kernel)) ggX0_take_X5_intAt
set_option maxRecDepth 20000 in
theorem ggX0_take_X0_isRecent : GoodIn wsX0_take wsX0_isRecent := goodIn_ca (goodIn_r _ [22, 23, 24, 25, 152, 153, 154, 155, 156, 157, 158, 159, 160, 161, 162, 163] (by decide +kernel) (by decide +kernel)) (goodIn_sub (fun _ h => List.mem_cons_of_mem _ (List.mem_append_right _ h)) (by decide +kernel))
set_option maxRecDepth 20000 in
theorem gX0_take_X0_isRecent : GoodIn wsX0_take (wsV RX0 95 RX0 yX0_isRecent wsX0_isRecent) := goodIn_app (goodIn_of _ (by decide +kernel)) ggX0_take_X0_isRecent
set_option maxRecDepth 20000 in
theorem ggX0_take_X0_account : GoodIn wsX0_take wsX0_account := goodIn_ca (goodIn_r _ [29, 30, 31, 1, 32, 33, 5, 34, 23, 24, 25, 35, 36, 37, 21, 38, 152, 153, 154, 155, 156, 157, 158, 159, 160, 161, 162, 163] (by decide +kernel) (by decide +kernel)) (goodIn_sub (fun _ h => List.mem_cons_of_mem _ (List.mem_append_right _ h)) (by decide +kernel))
set_option maxRecDepth 20000 in
theorem gX0_take_X0_account : GoodIn wsX0_take (wsV RX0 103 RX0 yX0_account wsX0_account) := goodIn_app (goodIn_of _ (by decide +kernel)) ggX0_take_X0_account
set_option maxRecDepth 20000 in
theorem ggX0_take_X0_readSets : GoodIn wsX0_take wsX0_readSets := goodIn_ca (goodIn_r _ [42, 2, 1, 7, 8, 9, 10, 11, 12, 13, 14, 15, 16, 17, 43, 44, 45, 21, 46, 47, 48, 49, 50, 51, 52, 53, 54, 55, 56, 57, 58, 59, 60, 61, 62, 63, 64, 65, 66, 67, 68, 69, 70, 71, 72, 73, 74, 75, 76, 77, 78, 79, 80, 81, 82, 83, 84, 85, 86, 87, 88, 89, 90, 91, 92, 93, 94, 95, 96, 97, 98, 99, 100, 101, 102, 103, 104, 105, 106, 107, 108, 109, 110, 111, 112, 113, 114, 115, 116, 117, 118, 119, 120, 121, 122, 123, 124, 125, 126, 127, 128, 129, 130, 131, 132, 133, 134, 135, 136, 137, 138, 139, 140, 141, 142, 143, 144, 145, 146, 5, 147, 148, 149, 150, 151, 164, 165, 152, 153, 154, 155, 156, 157, 158, 159, 160, 161, 162, 163, 166, 167, 168, 169, 170, 171, 172, 173, 174, 175, 176, 177, 178, 179, 180] (by decide +kernel) (by decide +kernel)) (goodIn_sub (fun _ h => List.mem_cons_of_mem _ (List.mem_append_right _ h)) (by decide +kernel))
set_option maxRecDepth 20000 in
theorem gX0_take_X0_readSets : GoodIn wsX0_take (wsV RX0 107 RX0 yX0_readSets wsX0_readSets) := goodIn_app (goodIn_of _ (by decide +kernel)) ggX0_take_X0_readSets
theorem dX0_take_0 : decode cX0_take 0 = .ok (.aload_n 0, 1) := by decide +kernel
theorem dX0_take_1 : decode cX0_take 1 = .ok (.getfield 32, 3) := by decide +kernel
theorem dX0_take_4 : decode cX0_take 4 = .ok (.bipush 8, 2) := by decide +kernel
theorem dX0_take_6 : decode cX0_take 6 = .ok (.dup2, 1) := by decide +kernel
theorem dX0_take_7 : decode cX0_take 7 = .ok (.laload, 1) := by decide +kernel
theorem dX0_take_8 : decode cX0_take 8 = .ok (.lconst 1, 1) := by decide +kernel
theorem dX0_take_9 : decode cX0_take 9 = .ok (.ladd, 1) := by decide +kernel
theorem dX0_take_10 : decode cX0_take 10 = .ok (.lastore, 1) := by decide +kernel
theorem dX0_take_11 : decode cX0_take 11 = .ok (.aload_n 1, 1) := by decide +kernel
theorem dX0_take_12 : decode cX0_take 12 = .ok (.getfield 87, 3) := by decide +kernel
theorem dX0_take_15 : decode cX0_take 15 = .ok (.bipush 16, 2) := by decide +kernel
theorem dX0_take_17 : decode cX0_take 17 = .ok (.if_icmp .lt 27, 3) := by decide +kernel
theorem dX0_take_20 : decode cX0_take 20 = .ok (.aload_n 1, 1) := by decide +kernel
theorem dX0_take_21 : decode cX0_take 21 = .ok (.iconst 0, 1) := by decide +kernel
theorem dX0_take_22 : decode cX0_take 22 = .ok (.iconst 2, 1) := by decide +kernel
theorem dX0_take_23 : decode cX0_take 23 = .ok (.invokevirtual 92, 3) := by decide +kernel
theorem dX0_take_26 : decode cX0_take 26 = .ok (.bipush 10, 2) := by decide +kernel
theorem dX0_take_28 : decode cX0_take 28 = .ok (.if_icmp .ne 16, 3) := by decide +kernel
theorem dX0_take_31 : decode cX0_take 31 = .ok (.aload_n 1, 1) := by decide +kernel
theorem dX0_take_32 : decode cX0_take 32 = .ok (.iconst 2, 1) := by decide +kernel
theorem dX0_take_33 : decode cX0_take 33 = .ok (.iconst 2, 1) := by decide +kernel
theorem dX0_take_34 : decode cX0_take 34 = .ok (.invokevirtual 92, 3) := by decide +kernel
theorem dX0_take_37 : decode cX0_take 37 = .ok (.aload_n 1, 1) := by decide +kernel
theorem dX0_take_38 : decode cX0_take 38 = .ok (.getfield 87, 3) := by decide +kernel
theorem dX0_take_41 : decode cX0_take 41 = .ok (.if_icmp .eq 15, 3) := by decide +kernel
theorem dX0_take_44 : decode cX0_take 44 = .ok (.aload_n 0, 1) := by decide +kernel
theorem dX0_take_45 : decode cX0_take 45 = .ok (.getfield 32, 3) := by decide +kernel
theorem dX0_take_48 : decode cX0_take 48 = .ok (.iconst 4, 1) := by decide +kernel
theorem dX0_take_49 : decode cX0_take 49 = .ok (.dup2, 1) := by decide +kernel
theorem dX0_take_50 : decode cX0_take 50 = .ok (.laload, 1) := by decide +kernel
theorem dX0_take_51 : decode cX0_take 51 = .ok (.lconst 1, 1) := by decide +kernel
theorem dX0_take_52 : decode cX0_take 52 = .ok (.ladd, 1) := by decide +kernel
theorem dX0_take_53 : decode cX0_take 53 = .ok (.lastore, 1) := by decide +kernel
theorem dX0_take_54 : decode cX0_take 54 = .ok (.iconst 0, 1) := by decide +kernel
theorem dX0_take_55 : decode cX0_take 55 = .ok (.ireturn, 1) := by decide +kernel
theorem dX0_take_56 : decode cX0_take 56 = .ok (.aload_n 1, 1) := by decide +kernel
theorem dX0_take_57 : decode cX0_take 57 = .ok (.iconst 4, 1) := by decide +kernel
theorem dX0_take_58 : decode cX0_take 58 = .ok (.iconst 4, 1) := by decide +kernel
theorem dX0_take_59 : decode cX0_take 59 = .ok (.invokevirtual 92, 3) := by decide +kernel
theorem dX0_take_62 : decode cX0_take 62 = .ok (.istore_n 3, 1) := by decide +kernel
theorem dX0_take_63 : decode cX0_take 63 = .ok (.aload_n 1, 1) := by decide +kernel
theorem dX0_take_64 : decode cX0_take 64 = .ok (.bipush 8, 2) := by decide +kernel
theorem dX0_take_66 : decode cX0_take 66 = .ok (.iconst 4, 1) := by decide +kernel
theorem dX0_take_67 : decode cX0_take 67 = .ok (.invokevirtual 92, 3) := by decide +kernel
theorem dX0_take_70 : decode cX0_take 70 = .ok (.istore 4, 2) := by decide +kernel
theorem dX0_take_72 : decode cX0_take 72 = .ok (.aload_n 0, 1) := by decide +kernel
theorem dX0_take_73 : decode cX0_take 73 = .ok (.iload 4, 2) := by decide +kernel
theorem dX0_take_75 : decode cX0_take 75 = .ok (.iload_n 3, 1) := by decide +kernel
theorem dX0_take_76 : decode cX0_take 76 = .ok (.invokevirtual 95, 3) := by decide +kernel
theorem dX0_take_79 : decode cX0_take 79 = .ok (.ifCond .eq 15, 3) := by decide +kernel
theorem dX0_take_82 : decode cX0_take 82 = .ok (.aload_n 0, 1) := by decide +kernel
theorem dX0_take_83 : decode cX0_take 83 = .ok (.getfield 32, 3) := by decide +kernel
theorem dX0_take_86 : decode cX0_take 86 = .ok (.iconst 2, 1) := by decide +kernel
theorem dX0_take_87 : decode cX0_take 87 = .ok (.dup2, 1) := by decide +kernel
theorem dX0_take_88 : decode cX0_take 88 = .ok (.laload, 1) := by decide +kernel
theorem dX0_take_89 : decode cX0_take 89 = .ok (.lconst 1, 1) := by decide +kernel
theorem dX0_take_90 : decode cX0_take 90 = .ok (.ladd, 1) := by decide +kernel
theorem dX0_take_91 : decode cX0_take 91 = .ok (.lastore, 1) := by decide +kernel
theorem dX0_take_92 : decode cX0_take 92 = .ok (.iconst 0, 1) := by decide +kernel
theorem dX0_take_93 : decode cX0_take 93 = .ok (.ireturn, 1) := by decide +kernel
theorem dX0_take_94 : decode cX0_take 94 = .ok (.aload_n 0, 1) := by decide +kernel
theorem dX0_take_95 : decode cX0_take 95 = .ok (.iload 4, 2) := by decide +kernel
theorem dX0_take_97 : decode cX0_take 97 = .ok (.iload_n 3, 1) := by decide +kernel
theorem dX0_take_98 : decode cX0_take 98 = .ok (.iconst 0, 1) := by decide +kernel
theorem dX0_take_99 : decode cX0_take 99 = .ok (.aload_n 1, 1) := by decide +kernel
theorem dX0_take_100 : decode cX0_take 100 = .ok (.bipush 12, 2) := by decide +kernel
theorem dX0_take_102 : decode cX0_take 102 = .ok (.iconst 4, 1) := by decide +kernel
theorem dX0_take_103 : decode cX0_take 103 = .ok (.invokevirtual 92, 3) := by decide +kernel
theorem dX0_take_106 : decode cX0_take 106 = .ok (.invokestatic 98, 3) := by decide +kernel
theorem dX0_take_109 : decode cX0_take 109 = .ok (.invokevirtual 103, 3) := by decide +kernel
theorem dX0_take_112 : decode cX0_take 112 = .ok (.aload_n 0, 1) := by decide +kernel
theorem dX0_take_113 : decode cX0_take 113 = .ok (.aload_n 1, 1) := by decide +kernel
theorem dX0_take_114 : decode cX0_take 114 = .ok (.iload_n 2, 1) := by decide +kernel
theorem dX0_take_115 : decode cX0_take 115 = .ok (.invokevirtual 107, 3) := by decide +kernel
theorem dX0_take_118 : decode cX0_take 118 = .ok (.ireturn, 1) := by decide +kernel
theorem dX0_isRecent_0 : decode cX0_isRecent 0 = .ok (.iconst 0, 1) := by decide +kernel
theorem dX0_isRecent_1 : decode cX0_isRecent 1 = .ok (.istore_n 3, 1) := by decide +kernel
theorem dX0_isRecent_2 : decode cX0_isRecent 2 = .ok (.iload_n 3, 1) := by decide +kernel
theorem dX0_isRecent_3 : decode cX0_isRecent 3 = .ok (.bipush 8, 2) := by decide +kernel
theorem dX0_isRecent_5 : decode cX0_isRecent 5 = .ok (.if_icmp .ge 39, 3) := by decide +kernel
theorem dX0_isRecent_8 : decode cX0_isRecent 8 = .ok (.iload_n 3, 1) := by decide +kernel
theorem dX0_isRecent_9 : decode cX0_isRecent 9 = .ok (.aload_n 0, 1) := by decide +kernel
theorem dX0_isRecent_10 : decode cX0_isRecent 10 = .ok (.getfield 39, 3) := by decide +kernel
theorem dX0_isRecent_13 : decode cX0_isRecent 13 = .ok (.if_icmp .ge 31, 3) := by decide +kernel
theorem dX0_isRecent_16 : decode cX0_isRecent 16 = .ok (.aload_n 0, 1) := by decide +kernel
theorem dX0_isRecent_17 : decode cX0_isRecent 17 = .ok (.getfield 26, 3) := by decide +kernel
theorem dX0_isRecent_20 : decode cX0_isRecent 20 = .ok (.iload_n 3, 1) := by decide +kernel
theorem dX0_isRecent_21 : decode cX0_isRecent 21 = .ok (.iaload, 1) := by decide +kernel
theorem dX0_isRecent_22 : decode cX0_isRecent 22 = .ok (.iload_n 1, 1) := by decide +kernel
theorem dX0_isRecent_23 : decode cX0_isRecent 23 = .ok (.if_icmp .ne 15, 3) := by decide +kernel
theorem dX0_isRecent_26 : decode cX0_isRecent 26 = .ok (.aload_n 0, 1) := by decide +kernel
theorem dX0_isRecent_27 : decode cX0_isRecent 27 = .ok (.getfield 29, 3) := by decide +kernel
theorem dX0_isRecent_30 : decode cX0_isRecent 30 = .ok (.iload_n 3, 1) := by decide +kernel
theorem dX0_isRecent_31 : decode cX0_isRecent 31 = .ok (.iaload, 1) := by decide +kernel
theorem dX0_isRecent_32 : decode cX0_isRecent 32 = .ok (.iload_n 2, 1) := by decide +kernel
theorem dX0_isRecent_33 : decode cX0_isRecent 33 = .ok (.if_icmp .ne 5, 3) := by decide +kernel
theorem dX0_isRecent_36 : decode cX0_isRecent 36 = .ok (.iconst 1, 1) := by decide +kernel
theorem dX0_isRecent_37 : decode cX0_isRecent 37 = .ok (.ireturn, 1) := by decide +kernel
theorem dX0_isRecent_38 : decode cX0_isRecent 38 = .ok (.iinc 3 1, 3) := by decide +kernel
theorem dX0_isRecent_41 : decode cX0_isRecent 41 = .ok (.goto (-39), 3) := by decide +kernel
theorem dX0_isRecent_44 : decode cX0_isRecent 44 = .ok (.iconst 0, 1) := by decide +kernel
theorem dX0_isRecent_45 : decode cX0_isRecent 45 = .ok (.ireturn, 1) := by decide +kernel
set_option maxRecDepth 20000 in
theorem ggX0_account_X0_hasStarted : GoodIn wsX0_account wsX0_hasStarted := goodIn_r _ [15, 8, 16, 17, 18, 19, 20, 21, 22, 23, 24, 25, 26, 27] (by decide +kernel) (by decide +kernel)
set_option maxRecDepth 20000 in
theorem gX0_account_X0_hasStarted : GoodIn wsX0_account (wsV RX0 111 RX0 yX0_hasStarted wsX0_hasStarted) := goodIn_app (goodIn_of _ (by decide +kernel)) ggX0_account_X0_hasStarted
theorem dX0_account_0 : decode cX0_account 0 = .ok (.aload_n 0, 1) := by decide +kernel
theorem dX0_account_1 : decode cX0_account 1 = .ok (.invokevirtual 111, 3) := by decide +kernel
theorem dX0_account_4 : decode cX0_account 4 = .ok (.ifCond .eq 12, 3) := by decide +kernel
theorem dX0_account_7 : decode cX0_account 7 = .ok (.iload_n 1, 1) := by decide +kernel
theorem dX0_account_8 : decode cX0_account 8 = .ok (.aload_n 0, 1) := by decide +kernel
theorem dX0_account_9 : decode cX0_account 9 = .ok (.getfield 46, 3) := by decide +kernel
theorem dX0_account_12 : decode cX0_account 12 = .ok (.isub, 1) := by decide +kernel
theorem dX0_account_13 : decode cX0_account 13 = .ok (.goto 4, 3) := by decide +kernel
theorem dX0_account_16 : decode cX0_account 16 = .ok (.iconst 0, 1) := by decide +kernel
theorem dX0_account_17 : decode cX0_account 17 = .ok (.istore 4, 2) := by decide +kernel
theorem dX0_account_19 : decode cX0_account 19 = .ok (.iload 4, 2) := by decide +kernel
theorem dX0_account_21 : decode cX0_account 21 = .ok (.ifCond .ge 19, 3) := by decide +kernel
theorem dX0_account_24 : decode cX0_account 24 = .ok (.iload_n 1, 1) := by decide +kernel
theorem dX0_account_25 : decode cX0_account 25 = .ok (.ifCond .ne 15, 3) := by decide +kernel
theorem dX0_account_28 : decode cX0_account 28 = .ok (.iload_n 2, 1) := by decide +kernel
theorem dX0_account_29 : decode cX0_account 29 = .ok (.aload_n 0, 1) := by decide +kernel
theorem dX0_account_30 : decode cX0_account 30 = .ok (.getfield 43, 3) := by decide +kernel
theorem dX0_account_33 : decode cX0_account 33 = .ok (.if_icmp .le 7, 3) := by decide +kernel
theorem dX0_account_36 : decode cX0_account 36 = .ok (.iconst 1, 1) := by decide +kernel
theorem dX0_account_37 : decode cX0_account 37 = .ok (.goto 4, 3) := by decide +kernel
theorem dX0_account_40 : decode cX0_account 40 = .ok (.iconst 0, 1) := by decide +kernel
theorem dX0_account_41 : decode cX0_account 41 = .ok (.istore 5, 2) := by decide +kernel
theorem dX0_account_43 : decode cX0_account 43 = .ok (.iload 4, 2) := by decide +kernel
theorem dX0_account_45 : decode cX0_account 45 = .ok (.ifCond .ge 12, 3) := by decide +kernel
theorem dX0_account_48 : decode cX0_account 48 = .ok (.iload 5, 2) := by decide +kernel
theorem dX0_account_50 : decode cX0_account 50 = .ok (.ifCond .ne 7, 3) := by decide +kernel
theorem dX0_account_53 : decode cX0_account 53 = .ok (.iconst 1, 1) := by decide +kernel
theorem dX0_account_54 : decode cX0_account 54 = .ok (.goto 4, 3) := by decide +kernel
theorem dX0_account_57 : decode cX0_account 57 = .ok (.iconst 0, 1) := by decide +kernel
theorem dX0_account_58 : decode cX0_account 58 = .ok (.istore 6, 2) := by decide +kernel
theorem dX0_account_60 : decode cX0_account 60 = .ok (.iload 4, 2) := by decide +kernel
theorem dX0_account_62 : decode cX0_account 62 = .ok (.ifCond .le 15, 3) := by decide +kernel
theorem dX0_account_65 : decode cX0_account 65 = .ok (.aload_n 0, 1) := by decide +kernel
theorem dX0_account_66 : decode cX0_account 66 = .ok (.getfield 32, 3) := by decide +kernel
theorem dX0_account_69 : decode cX0_account 69 = .ok (.iconst 0, 1) := by decide +kernel
theorem dX0_account_70 : decode cX0_account 70 = .ok (.dup2, 1) := by decide +kernel
theorem dX0_account_71 : decode cX0_account 71 = .ok (.laload, 1) := by decide +kernel
theorem dX0_account_72 : decode cX0_account 72 = .ok (.iload 4, 2) := by decide +kernel
theorem dX0_account_74 : decode cX0_account 74 = .ok (.i2l, 1) := by decide +kernel
theorem dX0_account_75 : decode cX0_account 75 = .ok (.ladd, 1) := by decide +kernel
theorem dX0_account_76 : decode cX0_account 76 = .ok (.lastore, 1) := by decide +kernel
theorem dX0_account_77 : decode cX0_account 77 = .ok (.iload 5, 2) := by decide +kernel
theorem dX0_account_79 : decode cX0_account 79 = .ok (.ifCond .eq 13, 3) := by decide +kernel
theorem dX0_account_82 : decode cX0_account 82 = .ok (.aload_n 0, 1) := by decide +kernel
theorem dX0_account_83 : decode cX0_account 83 = .ok (.getfield 32, 3) := by decide +kernel
theorem dX0_account_86 : decode cX0_account 86 = .ok (.iconst 5, 1) := by decide +kernel
theorem dX0_account_87 : decode cX0_account 87 = .ok (.dup2, 1) := by decide +kernel
theorem dX0_account_88 : decode cX0_account 88 = .ok (.laload, 1) := by decide +kernel
theorem dX0_account_89 : decode cX0_account 89 = .ok (.lconst 1, 1) := by decide +kernel
theorem dX0_account_90 : decode cX0_account 90 = .ok (.ladd, 1) := by decide +kernel
theorem dX0_account_91 : decode cX0_account 91 = .ok (.lastore, 1) := by decide +kernel
theorem dX0_account_92 : decode cX0_account 92 = .ok (.iload 6, 2) := by decide +kernel
theorem dX0_account_94 : decode cX0_account 94 = .ok (.ifCond .eq 35, 3) := by decide +kernel
theorem dX0_account_97 : decode cX0_account 97 = .ok (.aload_n 0, 1) := by decide +kernel
theorem dX0_account_98 : decode cX0_account 98 = .ok (.getfield 32, 3) := by decide +kernel
theorem dX0_account_101 : decode cX0_account 101 = .ok (.iconst 1, 1) := by decide +kernel
theorem dX0_account_102 : decode cX0_account 102 = .ok (.dup2, 1) := by decide +kernel
theorem dX0_account_103 : decode cX0_account 103 = .ok (.laload, 1) := by decide +kernel
theorem dX0_account_104 : decode cX0_account 104 = .ok (.lconst 1, 1) := by decide +kernel
theorem dX0_account_105 : decode cX0_account 105 = .ok (.ladd, 1) := by decide +kernel
theorem dX0_account_106 : decode cX0_account 106 = .ok (.lastore, 1) := by decide +kernel
theorem dX0_account_107 : decode cX0_account 107 = .ok (.aload_n 0, 1) := by decide +kernel
theorem dX0_account_108 : decode cX0_account 108 = .ok (.getfield 32, 3) := by decide +kernel
theorem dX0_account_111 : decode cX0_account 111 = .ok (.iconst 0, 1) := by decide +kernel
theorem dX0_account_112 : decode cX0_account 112 = .ok (.lconst 0, 1) := by decide +kernel
theorem dX0_account_113 : decode cX0_account 113 = .ok (.aload_n 0, 1) := by decide +kernel
theorem dX0_account_114 : decode cX0_account 114 = .ok (.getfield 32, 3) := by decide +kernel
theorem dX0_account_117 : decode cX0_account 117 = .ok (.iconst 0, 1) := by decide +kernel
theorem dX0_account_118 : decode cX0_account 118 = .ok (.laload, 1) := by decide +kernel
theorem dX0_account_119 : decode cX0_account 119 = .ok (.iload_n 3, 1) := by decide +kernel
theorem dX0_account_120 : decode cX0_account 120 = .ok (.i2l, 1) := by decide +kernel
theorem dX0_account_121 : decode cX0_account 121 = .ok (.lsub, 1) := by decide +kernel
theorem dX0_account_122 : decode cX0_account 122 = .ok (.invokestatic 115, 3) := by decide +kernel
theorem dX0_account_125 : decode cX0_account 125 = .ok (.lastore, 1) := by decide +kernel
theorem dX0_account_126 : decode cX0_account 126 = .ok (.goto 10, 3) := by decide +kernel
theorem dX0_account_129 : decode cX0_account 129 = .ok (.aload_n 0, 1) := by decide +kernel
theorem dX0_account_130 : decode cX0_account 130 = .ok (.iload_n 1, 1) := by decide +kernel
theorem dX0_account_131 : decode cX0_account 131 = .ok (.iload_n 3, 1) := by decide +kernel
theorem dX0_account_132 : decode cX0_account 132 = .ok (.iadd, 1) := by decide +kernel
theorem dX0_account_133 : decode cX0_account 133 = .ok (.putfield 46, 3) := by decide +kernel
theorem dX0_account_136 : decode cX0_account 136 = .ok (.aload_n 0, 1) := by decide +kernel
theorem dX0_account_137 : decode cX0_account 137 = .ok (.getfield 39, 3) := by decide +kernel
theorem dX0_account_140 : decode cX0_account 140 = .ok (.bipush 8, 2) := by decide +kernel
theorem dX0_account_142 : decode cX0_account 142 = .ok (.irem, 1) := by decide +kernel
theorem dX0_account_143 : decode cX0_account 143 = .ok (.istore 7, 2) := by decide +kernel
theorem dX0_account_145 : decode cX0_account 145 = .ok (.aload_n 0, 1) := by decide +kernel
theorem dX0_account_146 : decode cX0_account 146 = .ok (.getfield 26, 3) := by decide +kernel
theorem dX0_account_149 : decode cX0_account 149 = .ok (.iload 7, 2) := by decide +kernel
theorem dX0_account_151 : decode cX0_account 151 = .ok (.iload_n 1, 1) := by decide +kernel
theorem dX0_account_152 : decode cX0_account 152 = .ok (.iastore, 1) := by decide +kernel
theorem dX0_account_153 : decode cX0_account 153 = .ok (.aload_n 0, 1) := by decide +kernel
theorem dX0_account_154 : decode cX0_account 154 = .ok (.getfield 29, 3) := by decide +kernel
theorem dX0_account_157 : decode cX0_account 157 = .ok (.iload 7, 2) := by decide +kernel
theorem dX0_account_159 : decode cX0_account 159 = .ok (.iload_n 2, 1) := by decide +kernel
theorem dX0_account_160 : decode cX0_account 160 = .ok (.iastore, 1) := by decide +kernel
theorem dX0_account_161 : decode cX0_account 161 = .ok (.aload_n 0, 1) := by decide +kernel
theorem dX0_account_162 : decode cX0_account 162 = .ok (.dup, 1) := by decide +kernel
theorem dX0_account_163 : decode cX0_account 163 = .ok (.getfield 39, 3) := by decide +kernel
theorem dX0_account_166 : decode cX0_account 166 = .ok (.iconst 1, 1) := by decide +kernel
theorem dX0_account_167 : decode cX0_account 167 = .ok (.iadd, 1) := by decide +kernel
theorem dX0_account_168 : decode cX0_account 168 = .ok (.putfield 39, 3) := by decide +kernel
theorem dX0_account_171 : decode cX0_account 171 = .ok (.aload_n 0, 1) := by decide +kernel
theorem dX0_account_172 : decode cX0_account 172 = .ok (.iload_n 2, 1) := by decide +kernel
theorem dX0_account_173 : decode cX0_account 173 = .ok (.putfield 43, 3) := by decide +kernel
theorem dX0_account_176 : decode cX0_account 176 = .ok (.return_, 1) := by decide +kernel
set_option maxRecDepth 20000 in
theorem ggX0_readSets_X5_intAt : GoodIn wsX0_readSets wsX5_intAt := goodIn_ca (goodIn_r _ [7, 8, 9, 10, 6, 11, 12, 13, 125, 126] (by decide +kernel) (by decide +kernel)) (goodIn_sub (fun _ h => List.mem_cons_of_mem _ (List.mem_append_right _ h)) (by decide +kernel))
set_option maxRecDepth 20000 in
theorem gX0_readSets_X5_intAt : GoodIn wsX0_readSets (wsV RX0 92 RX5 yX5_intAt wsX5_intAt) := goodIn_app (goodIn_of _ (by decide +kernel)) ggX0_readSets_X5_intAt
set_option maxRecDepth 20000 in
theorem ggX0_readSets_X0_readTemplates : GoodIn wsX0_readSets wsX0_readTemplates := goodIn_ca (goodIn_r _ [18, 19, 20, 21, 3, 4, 5, 6, 7, 8, 9, 10, 11, 12, 13, 22, 23, 24, 17, 25, 26, 27, 28, 29, 30, 31, 32, 33, 34, 35, 36, 37, 38, 39, 40, 41, 42, 43, 44, 45, 46, 47, 48, 49, 50, 51, 52, 53, 54, 55, 56, 57, 127, 128, 129, 130, 131, 132, 133, 134, 135, 136, 137, 138, 125, 126, 139, 140, 141, 142] (by decide +kernel) (by decide +kernel)) (goodIn_sub (fun _ h => List.mem_cons_of_mem _ (List.mem_append_right _ h)) (by decide +kernel))
set_option maxRecDepth 20000 in
theorem gX0_readSets_X0_readTemplates : GoodIn wsX0_readSets (wsV RX0 118 RX0 yX0_readTemplates wsX0_readTemplates) := goodIn_app (goodIn_of _ (by decide +kernel)) ggX0_readSets_X0_readTemplates
set_option maxRecDepth 20000 in
theorem ggX0_readSets_X0_readData : GoodIn wsX0_readSets wsX0_readData := goodIn_ca (goodIn_r _ [61, 2, 19, 62, 63, 64, 65, 17, 66, 67, 68, 69, 70, 71, 26, 21, 72, 73, 74, 75, 76, 77, 78, 79, 80, 81, 82, 83, 84, 85, 86, 87, 88, 54, 55, 30, 56, 32, 47, 89, 9, 10, 6, 11, 12, 13, 90, 91, 92, 93, 94, 95, 96, 97, 98, 99, 100, 101, 102, 103, 104, 105, 106, 107, 108, 109, 110, 111, 112, 113, 114, 115, 116, 117, 118, 119, 120, 121, 122, 123, 124, 127, 128, 129, 130, 131, 132, 133, 134, 135, 136, 137, 138, 139, 140, 141, 142, 143, 144, 145, 146, 147, 148, 125, 126, 149, 150, 151, 152, 153] (by decide +kernel) (by decide +kernel)) (goodIn_sub (fun _ h => List.mem_cons_of_mem _ (List.mem_append_right _ h)) (by decide +kernel))
set_option maxRecDepth 20000 in
theorem gX0_readSets_X0_readData : GoodIn wsX0_readSets (wsV RX0 122 RX0 yX0_readData wsX0_readData) := goodIn_app (goodIn_of _ (by decide +kernel)) ggX0_readSets_X0_readData
theorem dX0_readSets_0 : decode cX0_readSets 0 = .ok (.iconst 0, 1) := by decide +kernel
theorem dX0_readSets_1 : decode cX0_readSets 1 = .ok (.istore_n 3, 1) := by decide +kernel
theorem dX0_readSets_2 : decode cX0_readSets 2 = .ok (.bipush 16, 2) := by decide +kernel
theorem dX0_readSets_4 : decode cX0_readSets 4 = .ok (.istore 4, 2) := by decide +kernel
theorem dX0_readSets_6 : decode cX0_readSets 6 = .ok (.iconst 0, 1) := by decide +kernel
theorem dX0_readSets_7 : decode cX0_readSets 7 = .ok (.istore 5, 2) := by decide +kernel
theorem dX0_readSets_9 : decode cX0_readSets 9 = .ok (.iload 5, 2) := by decide +kernel
theorem dX0_readSets_11 : decode cX0_readSets 11 = .ok (.sipush 700, 3) := by decide +kernel
theorem dX0_readSets_14 : decode cX0_readSets 14 = .ok (.if_icmp .gt 149, 3) := by decide +kernel
theorem dX0_readSets_17 : decode cX0_readSets 17 = .ok (.iload 4, 2) := by decide +kernel
theorem dX0_readSets_19 : decode cX0_readSets 19 = .ok (.aload_n 1, 1) := by decide +kernel
theorem dX0_readSets_20 : decode cX0_readSets 20 = .ok (.getfield 87, 3) := by decide +kernel
theorem dX0_readSets_23 : decode cX0_readSets 23 = .ok (.if_icmp .ge 140, 3) := by decide +kernel
theorem dX0_readSets_26 : decode cX0_readSets 26 = .ok (.aload_n 1, 1) := by decide +kernel
theorem dX0_readSets_27 : decode cX0_readSets 27 = .ok (.getfield 87, 3) := by decide +kernel
theorem dX0_readSets_30 : decode cX0_readSets 30 = .ok (.iload 4, 2) := by decide +kernel
theorem dX0_readSets_32 : decode cX0_readSets 32 = .ok (.isub, 1) := by decide +kernel
theorem dX0_readSets_33 : decode cX0_readSets 33 = .ok (.istore 6, 2) := by decide +kernel
theorem dX0_readSets_35 : decode cX0_readSets 35 = .ok (.iload 6, 2) := by decide +kernel
theorem dX0_readSets_37 : decode cX0_readSets 37 = .ok (.iconst 4, 1) := by decide +kernel
theorem dX0_readSets_38 : decode cX0_readSets 38 = .ok (.if_icmp .ge 7, 3) := by decide +kernel
theorem dX0_readSets_41 : decode cX0_readSets 41 = .ok (.iconst 0, 1) := by decide +kernel
theorem dX0_readSets_42 : decode cX0_readSets 42 = .ok (.goto 12, 3) := by decide +kernel
theorem dX0_readSets_45 : decode cX0_readSets 45 = .ok (.aload_n 1, 1) := by decide +kernel
theorem dX0_readSets_46 : decode cX0_readSets 46 = .ok (.iload 4, 2) := by decide +kernel
theorem dX0_readSets_48 : decode cX0_readSets 48 = .ok (.iconst 2, 1) := by decide +kernel
theorem dX0_readSets_49 : decode cX0_readSets 49 = .ok (.iadd, 1) := by decide +kernel
theorem dX0_readSets_50 : decode cX0_readSets 50 = .ok (.iconst 2, 1) := by decide +kernel
theorem dX0_readSets_51 : decode cX0_readSets 51 = .ok (.invokevirtual 92, 3) := by decide +kernel
theorem dX0_readSets_54 : decode cX0_readSets 54 = .ok (.istore 7, 2) := by decide +kernel
theorem dX0_readSets_56 : decode cX0_readSets 56 = .ok (.iload 7, 2) := by decide +kernel
theorem dX0_readSets_58 : decode cX0_readSets 58 = .ok (.iconst 4, 1) := by decide +kernel
theorem dX0_readSets_59 : decode cX0_readSets 59 = .ok (.if_icmp .lt 10, 3) := by decide +kernel
theorem dX0_readSets_62 : decode cX0_readSets 62 = .ok (.iload 7, 2) := by decide +kernel
theorem dX0_readSets_64 : decode cX0_readSets 64 = .ok (.iload 6, 2) := by decide +kernel
theorem dX0_readSets_66 : decode cX0_readSets 66 = .ok (.if_icmp .le 15, 3) := by decide +kernel
theorem dX0_readSets_69 : decode cX0_readSets 69 = .ok (.aload_n 0, 1) := by decide +kernel
theorem dX0_readSets_70 : decode cX0_readSets 70 = .ok (.getfield 32, 3) := by decide +kernel
theorem dX0_readSets_73 : decode cX0_readSets 73 = .ok (.iconst 4, 1) := by decide +kernel
theorem dX0_readSets_74 : decode cX0_readSets 74 = .ok (.dup2, 1) := by decide +kernel
theorem dX0_readSets_75 : decode cX0_readSets 75 = .ok (.laload, 1) := by decide +kernel
theorem dX0_readSets_76 : decode cX0_readSets 76 = .ok (.lconst 1, 1) := by decide +kernel
theorem dX0_readSets_77 : decode cX0_readSets 77 = .ok (.ladd, 1) := by decide +kernel
theorem dX0_readSets_78 : decode cX0_readSets 78 = .ok (.lastore, 1) := by decide +kernel
theorem dX0_readSets_79 : decode cX0_readSets 79 = .ok (.iload_n 3, 1) := by decide +kernel
theorem dX0_readSets_80 : decode cX0_readSets 80 = .ok (.ireturn, 1) := by decide +kernel
theorem dX0_readSets_81 : decode cX0_readSets 81 = .ok (.aload_n 1, 1) := by decide +kernel
theorem dX0_readSets_82 : decode cX0_readSets 82 = .ok (.iload 4, 2) := by decide +kernel
theorem dX0_readSets_84 : decode cX0_readSets 84 = .ok (.iconst 2, 1) := by decide +kernel
theorem dX0_readSets_85 : decode cX0_readSets 85 = .ok (.invokevirtual 92, 3) := by decide +kernel
theorem dX0_readSets_88 : decode cX0_readSets 88 = .ok (.istore 8, 2) := by decide +kernel
theorem dX0_readSets_90 : decode cX0_readSets 90 = .ok (.iload 4, 2) := by decide +kernel
theorem dX0_readSets_92 : decode cX0_readSets 92 = .ok (.iconst 4, 1) := by decide +kernel
theorem dX0_readSets_93 : decode cX0_readSets 93 = .ok (.iadd, 1) := by decide +kernel
theorem dX0_readSets_94 : decode cX0_readSets 94 = .ok (.istore 9, 2) := by decide +kernel
theorem dX0_readSets_96 : decode cX0_readSets 96 = .ok (.iload 4, 2) := by decide +kernel
theorem dX0_readSets_98 : decode cX0_readSets 98 = .ok (.iload 7, 2) := by decide +kernel
theorem dX0_readSets_100 : decode cX0_readSets 100 = .ok (.iadd, 1) := by decide +kernel
theorem dX0_readSets_101 : decode cX0_readSets 101 = .ok (.istore 4, 2) := by decide +kernel
theorem dX0_readSets_103 : decode cX0_readSets 103 = .ok (.iload 8, 2) := by decide +kernel
theorem dX0_readSets_105 : decode cX0_readSets 105 = .ok (.iconst 2, 1) := by decide +kernel
theorem dX0_readSets_106 : decode cX0_readSets 106 = .ok (.if_icmp .ne 16, 3) := by decide +kernel
theorem dX0_readSets_109 : decode cX0_readSets 109 = .ok (.aload_n 0, 1) := by decide +kernel
theorem dX0_readSets_110 : decode cX0_readSets 110 = .ok (.aload_n 1, 1) := by decide +kernel
theorem dX0_readSets_111 : decode cX0_readSets 111 = .ok (.iload 9, 2) := by decide +kernel
theorem dX0_readSets_113 : decode cX0_readSets 113 = .ok (.iload 4, 2) := by decide +kernel
theorem dX0_readSets_115 : decode cX0_readSets 115 = .ok (.iload_n 2, 1) := by decide +kernel
theorem dX0_readSets_116 : decode cX0_readSets 116 = .ok (.invokevirtual 118, 3) := by decide +kernel
theorem dX0_readSets_119 : decode cX0_readSets 119 = .ok (.goto 38, 3) := by decide +kernel
theorem dX0_readSets_122 : decode cX0_readSets 122 = .ok (.iload 8, 2) := by decide +kernel
theorem dX0_readSets_124 : decode cX0_readSets 124 = .ok (.sipush 256, 3) := by decide +kernel
theorem dX0_readSets_127 : decode cX0_readSets 127 = .ok (.if_icmp .lt 30, 3) := by decide +kernel
theorem dX0_readSets_130 : decode cX0_readSets 130 = .ok (.iload 8, 2) := by decide +kernel
theorem dX0_readSets_132 : decode cX0_readSets 132 = .ok (.sipush 260, 3) := by decide +kernel
theorem dX0_readSets_135 : decode cX0_readSets 135 = .ok (.if_icmp .ge 22, 3) := by decide +kernel
theorem dX0_readSets_138 : decode cX0_readSets 138 = .ok (.iload_n 3, 1) := by decide +kernel
theorem dX0_readSets_139 : decode cX0_readSets 139 = .ok (.aload_n 0, 1) := by decide +kernel
theorem dX0_readSets_140 : decode cX0_readSets 140 = .ok (.aload_n 1, 1) := by decide +kernel
theorem dX0_readSets_141 : decode cX0_readSets 141 = .ok (.iload 9, 2) := by decide +kernel
theorem dX0_readSets_143 : decode cX0_readSets 143 = .ok (.iload 4, 2) := by decide +kernel
theorem dX0_readSets_145 : decode cX0_readSets 145 = .ok (.iload 8, 2) := by decide +kernel
theorem dX0_readSets_147 : decode cX0_readSets 147 = .ok (.sipush 256, 3) := by decide +kernel
theorem dX0_readSets_150 : decode cX0_readSets 150 = .ok (.isub, 1) := by decide +kernel
theorem dX0_readSets_151 : decode cX0_readSets 151 = .ok (.iload_n 2, 1) := by decide +kernel
theorem dX0_readSets_152 : decode cX0_readSets 152 = .ok (.invokevirtual 122, 3) := by decide +kernel
theorem dX0_readSets_155 : decode cX0_readSets 155 = .ok (.iadd, 1) := by decide +kernel
theorem dX0_readSets_156 : decode cX0_readSets 156 = .ok (.istore_n 3, 1) := by decide +kernel
theorem dX0_readSets_157 : decode cX0_readSets 157 = .ok (.iinc 5 1, 3) := by decide +kernel
theorem dX0_readSets_160 : decode cX0_readSets 160 = .ok (.goto (-151), 3) := by decide +kernel
theorem dX0_readSets_163 : decode cX0_readSets 163 = .ok (.iload_n 3, 1) := by decide +kernel
theorem dX0_readSets_164 : decode cX0_readSets 164 = .ok (.ireturn, 1) := by decide +kernel
set_option maxRecDepth 20000 in
theorem ggX0_readTemplates_X5_intAt : GoodIn wsX0_readTemplates wsX5_intAt := goodIn_ca (goodIn_r _ [8, 9, 10, 11, 7, 12, 13, 14, 64, 65] (by decide +kernel) (by decide +kernel)) (goodIn_sub (fun _ h => List.mem_cons_of_mem _ (List.mem_append_right _ h)) (by decide +kernel))
set_option maxRecDepth 20000 in
theorem gX0_readTemplates_X5_intAt : GoodIn wsX0_readTemplates (wsV RX0 92 RX5 yX5_intAt wsX5_intAt) := goodIn_app (goodIn_of _ (by decide +kernel)) ggX0_readTemplates_X5_intAt
set_option maxRecDepth 20000 in
theorem ggX0_readTemplates_X0_readCandidate : GoodIn wsX0_readTemplates wsX0_readCandidate := goodIn_ca (goodIn_r _ [19, 2, 20, 21, 22, 23, 24, 25, 26, 27, 28, 4, 5, 6, 7, 8, 9, 10, 11, 12, 13, 14, 29, 30, 31, 32, 33, 34, 35, 36, 37, 38, 39, 40, 41, 52, 53, 54, 55, 56, 57, 58, 59, 60, 61, 62, 63, 66, 67, 68, 69, 64, 65] (by decide +kernel) (by decide +kernel)) (goodIn_sub (fun _ h => List.mem_cons_of_mem _ (List.mem_append_right _ h)) (by decide +kernel))
set_option maxRecDepth 20000 in
theorem gX0_readTemplates_X0_readCandidate : GoodIn wsX0_readTemplates (wsV RX0 126 RX0 yX0_readCandidate wsX0_readCandidate) := goodIn_app (goodIn_of _ (by decide +kernel)) ggX0_readTemplates_X0_readCandidate
set_option maxRecDepth 20000 in
theorem ggX0_readTemplates_X10_copyFrom : GoodIn wsX0_readTemplates wsX10_copyFrom := goodIn_ca (goodIn_r _ [45, 26, 46, 22, 23, 24, 25, 27, 28, 47, 48, 49, 50, 41, 51, 38, 39, 40, 66, 67, 68, 69] (by decide +kernel) (by decide +kernel)) (goodIn_sub (fun _ h => List.mem_cons_of_mem _ (List.mem_append_right _ h)) (by decide +kernel))
set_option maxRecDepth 20000 in
theorem gX0_readTemplates_X10_copyFrom : GoodIn wsX0_readTemplates (wsV RX0 130 RX10 yX10_copyFrom wsX10_copyFrom) := goodIn_app (goodIn_of _ (by decide +kernel)) ggX0_readTemplates_X10_copyFrom
theorem dX0_readTemplates_0 : decode cX0_readTemplates 0 = .ok (.iload_n 2, 1) := by decide +kernel
theorem dX0_readTemplates_1 : decode cX0_readTemplates 1 = .ok (.istore 5, 2) := by decide +kernel
theorem dX0_readTemplates_3 : decode cX0_readTemplates 3 = .ok (.iconst 0, 1) := by decide +kernel
theorem dX0_readTemplates_4 : decode cX0_readTemplates 4 = .ok (.istore 6, 2) := by decide +kernel
theorem dX0_readTemplates_6 : decode cX0_readTemplates 6 = .ok (.iload 6, 2) := by decide +kernel
theorem dX0_readTemplates_8 : decode cX0_readTemplates 8 = .ok (.sipush 700, 3) := by decide +kernel
theorem dX0_readTemplates_11 : decode cX0_readTemplates 11 = .ok (.if_icmp .gt 115, 3) := by decide +kernel
theorem dX0_readTemplates_14 : decode cX0_readTemplates 14 = .ok (.iload_n 3, 1) := by decide +kernel
theorem dX0_readTemplates_15 : decode cX0_readTemplates 15 = .ok (.iload 5, 2) := by decide +kernel
theorem dX0_readTemplates_17 : decode cX0_readTemplates 17 = .ok (.isub, 1) := by decide +kernel
theorem dX0_readTemplates_18 : decode cX0_readTemplates 18 = .ok (.iconst 4, 1) := by decide +kernel
theorem dX0_readTemplates_19 : decode cX0_readTemplates 19 = .ok (.if_icmp .lt 107, 3) := by decide +kernel
theorem dX0_readTemplates_22 : decode cX0_readTemplates 22 = .ok (.aload_n 1, 1) := by decide +kernel
theorem dX0_readTemplates_23 : decode cX0_readTemplates 23 = .ok (.iload 5, 2) := by decide +kernel
theorem dX0_readTemplates_25 : decode cX0_readTemplates 25 = .ok (.iconst 2, 1) := by decide +kernel
theorem dX0_readTemplates_26 : decode cX0_readTemplates 26 = .ok (.invokevirtual 92, 3) := by decide +kernel
theorem dX0_readTemplates_29 : decode cX0_readTemplates 29 = .ok (.sipush 256, 3) := by decide +kernel
theorem dX0_readTemplates_32 : decode cX0_readTemplates 32 = .ok (.isub, 1) := by decide +kernel
theorem dX0_readTemplates_33 : decode cX0_readTemplates 33 = .ok (.istore 7, 2) := by decide +kernel
theorem dX0_readTemplates_35 : decode cX0_readTemplates 35 = .ok (.aload_n 1, 1) := by decide +kernel
theorem dX0_readTemplates_36 : decode cX0_readTemplates 36 = .ok (.iload 5, 2) := by decide +kernel
theorem dX0_readTemplates_38 : decode cX0_readTemplates 38 = .ok (.iconst 2, 1) := by decide +kernel
theorem dX0_readTemplates_39 : decode cX0_readTemplates 39 = .ok (.iadd, 1) := by decide +kernel
theorem dX0_readTemplates_40 : decode cX0_readTemplates 40 = .ok (.iconst 2, 1) := by decide +kernel
theorem dX0_readTemplates_41 : decode cX0_readTemplates 41 = .ok (.invokevirtual 92, 3) := by decide +kernel
theorem dX0_readTemplates_44 : decode cX0_readTemplates 44 = .ok (.istore 8, 2) := by decide +kernel
theorem dX0_readTemplates_46 : decode cX0_readTemplates 46 = .ok (.iinc 5 4, 3) := by decide +kernel
theorem dX0_readTemplates_49 : decode cX0_readTemplates 49 = .ok (.iload 7, 2) := by decide +kernel
theorem dX0_readTemplates_51 : decode cX0_readTemplates 51 = .ok (.ifCond .lt 20, 3) := by decide +kernel
theorem dX0_readTemplates_54 : decode cX0_readTemplates 54 = .ok (.iload 7, 2) := by decide +kernel
theorem dX0_readTemplates_56 : decode cX0_readTemplates 56 = .ok (.iconst 4, 1) := by decide +kernel
theorem dX0_readTemplates_57 : decode cX0_readTemplates 57 = .ok (.if_icmp .ge 14, 3) := by decide +kernel
theorem dX0_readTemplates_60 : decode cX0_readTemplates 60 = .ok (.iconst 4, 1) := by decide +kernel
theorem dX0_readTemplates_61 : decode cX0_readTemplates 61 = .ok (.iload 8, 2) := by decide +kernel
theorem dX0_readTemplates_63 : decode cX0_readTemplates 63 = .ok (.imul, 1) := by decide +kernel
theorem dX0_readTemplates_64 : decode cX0_readTemplates 64 = .ok (.iload_n 3, 1) := by decide +kernel
theorem dX0_readTemplates_65 : decode cX0_readTemplates 65 = .ok (.iload 5, 2) := by decide +kernel
theorem dX0_readTemplates_67 : decode cX0_readTemplates 67 = .ok (.isub, 1) := by decide +kernel
theorem dX0_readTemplates_68 : decode cX0_readTemplates 68 = .ok (.if_icmp .le 4, 3) := by decide +kernel
theorem dX0_readTemplates_71 : decode cX0_readTemplates 71 = .ok (.return_, 1) := by decide +kernel
theorem dX0_readTemplates_72 : decode cX0_readTemplates 72 = .ok (.aload_n 0, 1) := by decide +kernel
theorem dX0_readTemplates_73 : decode cX0_readTemplates 73 = .ok (.aload_n 1, 1) := by decide +kernel
theorem dX0_readTemplates_74 : decode cX0_readTemplates 74 = .ok (.iload 5, 2) := by decide +kernel
theorem dX0_readTemplates_76 : decode cX0_readTemplates 76 = .ok (.iload 8, 2) := by decide +kernel
theorem dX0_readTemplates_78 : decode cX0_readTemplates 78 = .ok (.invokevirtual 126, 3) := by decide +kernel
theorem dX0_readTemplates_81 : decode cX0_readTemplates 81 = .ok (.ifCond .ne 4, 3) := by decide +kernel
theorem dX0_readTemplates_84 : decode cX0_readTemplates 84 = .ok (.return_, 1) := by decide +kernel
theorem dX0_readTemplates_85 : decode cX0_readTemplates 85 = .ok (.aload_n 0, 1) := by decide +kernel
theorem dX0_readTemplates_86 : decode cX0_readTemplates 86 = .ok (.getfield 11, 3) := by decide +kernel
theorem dX0_readTemplates_89 : decode cX0_readTemplates 89 = .ok (.iload 7, 2) := by decide +kernel
theorem dX0_readTemplates_91 : decode cX0_readTemplates 91 = .ok (.aaload, 1) := by decide +kernel
theorem dX0_readTemplates_92 : decode cX0_readTemplates 92 = .ok (.aload_n 0, 1) := by decide +kernel
theorem dX0_readTemplates_93 : decode cX0_readTemplates 93 = .ok (.getfield 22, 3) := by decide +kernel
theorem dX0_readTemplates_96 : decode cX0_readTemplates 96 = .ok (.sipush 511, 3) := by decide +kernel
theorem dX0_readTemplates_99 : decode cX0_readTemplates 99 = .ok (.invokevirtual 130, 3) := by decide +kernel
theorem dX0_readTemplates_102 : decode cX0_readTemplates 102 = .ok (.aload_n 0, 1) := by decide +kernel
theorem dX0_readTemplates_103 : decode cX0_readTemplates 103 = .ok (.getfield 17, 3) := by decide +kernel
theorem dX0_readTemplates_106 : decode cX0_readTemplates 106 = .ok (.iload 7, 2) := by decide +kernel
theorem dX0_readTemplates_108 : decode cX0_readTemplates 108 = .ok (.iload 4, 2) := by decide +kernel
theorem dX0_readTemplates_110 : decode cX0_readTemplates 110 = .ok (.iastore, 1) := by decide +kernel
theorem dX0_readTemplates_111 : decode cX0_readTemplates 111 = .ok (.iload 5, 2) := by decide +kernel
theorem dX0_readTemplates_113 : decode cX0_readTemplates 113 = .ok (.iconst 4, 1) := by decide +kernel
theorem dX0_readTemplates_114 : decode cX0_readTemplates 114 = .ok (.iload 8, 2) := by decide +kernel
theorem dX0_readTemplates_116 : decode cX0_readTemplates 116 = .ok (.imul, 1) := by decide +kernel
theorem dX0_readTemplates_117 : decode cX0_readTemplates 117 = .ok (.iadd, 1) := by decide +kernel
theorem dX0_readTemplates_118 : decode cX0_readTemplates 118 = .ok (.istore 5, 2) := by decide +kernel
theorem dX0_readTemplates_120 : decode cX0_readTemplates 120 = .ok (.iinc 6 1, 3) := by decide +kernel
theorem dX0_readTemplates_123 : decode cX0_readTemplates 123 = .ok (.goto (-117), 3) := by decide +kernel
theorem dX0_readTemplates_126 : decode cX0_readTemplates 126 = .ok (.return_, 1) := by decide +kernel
set_option maxRecDepth 20000 in
theorem ggX0_readCandidate_X10_clear : GoodIn wsX0_readCandidate wsX10_clear := goodIn_r _ [7, 8, 9, 10, 47, 48, 49, 50] (by decide +kernel) (by decide +kernel)
set_option maxRecDepth 20000 in
theorem gX0_readCandidate_X10_clear : GoodIn wsX0_readCandidate (wsV RX0 70 RX10 yX10_clear wsX10_clear) := goodIn_app (goodIn_of _ (by decide +kernel)) ggX0_readCandidate_X10_clear
set_option maxRecDepth 20000 in
theorem ggX0_readCandidate_X5_intAt : GoodIn wsX0_readCandidate wsX5_intAt := goodIn_ca (goodIn_r _ [15, 16, 17, 18, 14, 19, 20, 21, 51, 52] (by decide +kernel) (by decide +kernel)) (goodIn_sub (fun _ h => List.mem_cons_of_mem _ (List.mem_append_right _ h)) (by decide +kernel))
set_option maxRecDepth 20000 in
theorem gX0_readCandidate_X5_intAt : GoodIn wsX0_readCandidate (wsV RX0 92 RX5 yX5_intAt wsX5_intAt) := goodIn_app (goodIn_of _ (by decide +kernel)) ggX0_readCandidate_X5_intAt
set_option maxRecDepth 20000 in
theorem ggX0_readCandidate_X11_lengthOf : GoodIn wsX0_readCandidate wsX11_lengthOf := goodIn_ca (goodIn_r _ [24, 25] (by decide +kernel) (by decide +kernel)) (goodIn_sub (fun _ h => List.mem_cons_of_mem _ (List.mem_append_right _ h)) (by decide +kernel))
set_option maxRecDepth 20000 in
theorem gX0_readCandidate_X11_lengthOf_n134 : GoodIn wsX0_readCandidate (wsX11_lengthOf) := ggX0_readCandidate_X11_lengthOf
set_option maxRecDepth 20000 in
theorem ggX0_readCandidate_X10_has : GoodIn wsX0_readCandidate wsX10_has := goodIn_r _ [29, 9, 47, 48, 49, 50] (by decide +kernel) (by decide +kernel)
set_option maxRecDepth 20000 in
theorem gX0_readCandidate_X10_has : GoodIn wsX0_readCandidate (wsV RX0 137 RX10 yX10_has wsX10_has) := goodIn_app (goodIn_of _ (by decide +kernel)) ggX0_readCandidate_X10_has
set_option maxRecDepth 20000 in
theorem ggX0_readCandidate_X10_addField : GoodIn wsX0_readCandidate wsX10_addField := goodIn_ca (goodIn_r _ [33, 8, 9, 34, 10, 47, 48, 49, 50] (by decide +kernel) (by decide +kernel)) (goodIn_sub (fun _ h => List.mem_cons_of_mem _ (List.mem_append_right _ h)) (by decide +kernel))
set_option maxRecDepth 20000 in
theorem gX0_readCandidate_X10_addField : GoodIn wsX0_readCandidate (wsV RX0 141 RX10 yX10_addField wsX10_addField) := goodIn_app (goodIn_of _ (by decide +kernel)) ggX0_readCandidate_X10_addField
theorem dX0_readCandidate_0 : decode cX0_readCandidate 0 = .ok (.aload_n 0, 1) := by decide +kernel
theorem dX0_readCandidate_1 : decode cX0_readCandidate 1 = .ok (.getfield 22, 3) := by decide +kernel
theorem dX0_readCandidate_4 : decode cX0_readCandidate 4 = .ok (.invokevirtual 70, 3) := by decide +kernel
theorem dX0_readCandidate_7 : decode cX0_readCandidate 7 = .ok (.iconst 0, 1) := by decide +kernel
theorem dX0_readCandidate_8 : decode cX0_readCandidate 8 = .ok (.istore 4, 2) := by decide +kernel
theorem dX0_readCandidate_10 : decode cX0_readCandidate 10 = .ok (.iload 4, 2) := by decide +kernel
theorem dX0_readCandidate_12 : decode cX0_readCandidate 12 = .ok (.iload_n 3, 1) := by decide +kernel
theorem dX0_readCandidate_13 : decode cX0_readCandidate 13 = .ok (.if_icmp .ge 77, 3) := by decide +kernel
theorem dX0_readCandidate_16 : decode cX0_readCandidate 16 = .ok (.aload_n 1, 1) := by decide +kernel
theorem dX0_readCandidate_17 : decode cX0_readCandidate 17 = .ok (.iload_n 2, 1) := by decide +kernel
theorem dX0_readCandidate_18 : decode cX0_readCandidate 18 = .ok (.iconst 4, 1) := by decide +kernel
theorem dX0_readCandidate_19 : decode cX0_readCandidate 19 = .ok (.iload 4, 2) := by decide +kernel
theorem dX0_readCandidate_21 : decode cX0_readCandidate 21 = .ok (.imul, 1) := by decide +kernel
theorem dX0_readCandidate_22 : decode cX0_readCandidate 22 = .ok (.iadd, 1) := by decide +kernel
theorem dX0_readCandidate_23 : decode cX0_readCandidate 23 = .ok (.iconst 2, 1) := by decide +kernel
theorem dX0_readCandidate_24 : decode cX0_readCandidate 24 = .ok (.invokevirtual 92, 3) := by decide +kernel
theorem dX0_readCandidate_27 : decode cX0_readCandidate 27 = .ok (.istore 5, 2) := by decide +kernel
theorem dX0_readCandidate_29 : decode cX0_readCandidate 29 = .ok (.aload_n 1, 1) := by decide +kernel
theorem dX0_readCandidate_30 : decode cX0_readCandidate 30 = .ok (.iload_n 2, 1) := by decide +kernel
theorem dX0_readCandidate_31 : decode cX0_readCandidate 31 = .ok (.iconst 4, 1) := by decide +kernel
theorem dX0_readCandidate_32 : decode cX0_readCandidate 32 = .ok (.iload 4, 2) := by decide +kernel
theorem dX0_readCandidate_34 : decode cX0_readCandidate 34 = .ok (.imul, 1) := by decide +kernel
theorem dX0_readCandidate_35 : decode cX0_readCandidate 35 = .ok (.iadd, 1) := by decide +kernel
theorem dX0_readCandidate_36 : decode cX0_readCandidate 36 = .ok (.iconst 2, 1) := by decide +kernel
theorem dX0_readCandidate_37 : decode cX0_readCandidate 37 = .ok (.iadd, 1) := by decide +kernel
theorem dX0_readCandidate_38 : decode cX0_readCandidate 38 = .ok (.iconst 2, 1) := by decide +kernel
theorem dX0_readCandidate_39 : decode cX0_readCandidate 39 = .ok (.invokevirtual 92, 3) := by decide +kernel
theorem dX0_readCandidate_42 : decode cX0_readCandidate 42 = .ok (.istore 6, 2) := by decide +kernel
theorem dX0_readCandidate_44 : decode cX0_readCandidate 44 = .ok (.iload 5, 2) := by decide +kernel
theorem dX0_readCandidate_46 : decode cX0_readCandidate 46 = .ok (.bipush 9, 2) := by decide +kernel
theorem dX0_readCandidate_48 : decode cX0_readCandidate 48 = .ok (.if_icmp .ge 25, 3) := by decide +kernel
theorem dX0_readCandidate_51 : decode cX0_readCandidate 51 = .ok (.iload 6, 2) := by decide +kernel
theorem dX0_readCandidate_53 : decode cX0_readCandidate 53 = .ok (.iload 5, 2) := by decide +kernel
theorem dX0_readCandidate_55 : decode cX0_readCandidate 55 = .ok (.invokestatic 134, 3) := by decide +kernel
theorem dX0_readCandidate_58 : decode cX0_readCandidate 58 = .ok (.if_icmp .ne 15, 3) := by decide +kernel
theorem dX0_readCandidate_61 : decode cX0_readCandidate 61 = .ok (.aload_n 0, 1) := by decide +kernel
theorem dX0_readCandidate_62 : decode cX0_readCandidate 62 = .ok (.getfield 22, 3) := by decide +kernel
theorem dX0_readCandidate_65 : decode cX0_readCandidate 65 = .ok (.iload 5, 2) := by decide +kernel
theorem dX0_readCandidate_67 : decode cX0_readCandidate 67 = .ok (.invokevirtual 137, 3) := by decide +kernel
theorem dX0_readCandidate_70 : decode cX0_readCandidate 70 = .ok (.ifCond .eq 5, 3) := by decide +kernel
theorem dX0_readCandidate_73 : decode cX0_readCandidate 73 = .ok (.iconst 0, 1) := by decide +kernel
theorem dX0_readCandidate_74 : decode cX0_readCandidate 74 = .ok (.ireturn, 1) := by decide +kernel
theorem dX0_readCandidate_75 : decode cX0_readCandidate 75 = .ok (.aload_n 0, 1) := by decide +kernel
theorem dX0_readCandidate_76 : decode cX0_readCandidate 76 = .ok (.getfield 22, 3) := by decide +kernel
theorem dX0_readCandidate_79 : decode cX0_readCandidate 79 = .ok (.iload 5, 2) := by decide +kernel
theorem dX0_readCandidate_81 : decode cX0_readCandidate 81 = .ok (.invokevirtual 141, 3) := by decide +kernel
theorem dX0_readCandidate_84 : decode cX0_readCandidate 84 = .ok (.iinc 4 1, 3) := by decide +kernel
theorem dX0_readCandidate_87 : decode cX0_readCandidate 87 = .ok (.goto (-77), 3) := by decide +kernel
theorem dX0_readCandidate_90 : decode cX0_readCandidate 90 = .ok (.aload_n 0, 1) := by decide +kernel
theorem dX0_readCandidate_91 : decode cX0_readCandidate 91 = .ok (.getfield 22, 3) := by decide +kernel
theorem dX0_readCandidate_94 : decode cX0_readCandidate 94 = .ok (.getfield 67, 3) := by decide +kernel
theorem dX0_readCandidate_97 : decode cX0_readCandidate 97 = .ok (.ifCond .le 7, 3) := by decide +kernel
theorem dX0_readCandidate_100 : decode cX0_readCandidate 100 = .ok (.iconst 1, 1) := by decide +kernel
theorem dX0_readCandidate_101 : decode cX0_readCandidate 101 = .ok (.goto 4, 3) := by decide +kernel
theorem dX0_readCandidate_104 : decode cX0_readCandidate 104 = .ok (.iconst 0, 1) := by decide +kernel
theorem dX0_readCandidate_105 : decode cX0_readCandidate 105 = .ok (.ireturn, 1) := by decide +kernel
set_option maxRecDepth 20000 in
theorem ggX0_readData_X0_isUsable : GoodIn wsX0_readData wsX0_isUsable := goodIn_ca (goodIn_r _ [8, 9, 10, 11, 12, 7, 13, 2, 14, 15, 16, 17, 18, 19, 20, 21, 81, 82, 83, 84, 85, 86, 87, 88, 89, 90, 91, 92, 93, 94, 95, 96, 97, 98, 99, 100, 101, 102] (by decide +kernel) (by decide +kernel)) (goodIn_sub (fun _ h => List.mem_cons_of_mem _ (List.mem_append_right _ h)) (by decide +kernel))
set_option maxRecDepth 20000 in
theorem gX0_readData_X0_isUsable : GoodIn wsX0_readData (wsV RX0 83 RX0 yX0_isUsable wsX0_isUsable) := goodIn_app (goodIn_of _ (by decide +kernel)) ggX0_readData_X0_isUsable
set_option maxRecDepth 20000 in
theorem ggX0_readData_X0_decode : GoodIn wsX0_readData wsX0_decode := goodIn_ca (goodIn_r _ [25, 26, 14, 27, 1, 9, 28, 29, 30, 31, 32, 33, 34, 35, 36, 37, 38, 39, 40, 41, 42, 43, 44, 45, 46, 47, 48, 49, 50, 51, 52, 53, 54, 55, 56, 57, 58, 59, 60, 61, 62, 63, 64, 65, 16, 17, 18, 19, 20, 21, 66, 67, 7, 68, 69, 70, 71, 72, 73, 74, 75, 76, 77, 78, 79, 80, 81, 82, 83, 84, 85, 86, 87, 88, 89, 90, 91, 92, 93, 94, 95, 96, 103, 104, 105, 106, 107, 108, 109, 97, 98, 99, 100, 101, 102] (by decide +kernel) (by decide +kernel)) (goodIn_sub (fun _ h => List.mem_cons_of_mem _ (List.mem_append_right _ h)) (by decide +kernel))
set_option maxRecDepth 20000 in
theorem gX0_readData_X0_decode : GoodIn wsX0_readData (wsV RX0 148 RX0 yX0_decode wsX0_decode) := goodIn_app (goodIn_of _ (by decide +kernel)) ggX0_readData_X0_decode
theorem dX0_readData_0 : decode cX0_readData 0 = .ok (.iload 4, 2) := by decide +kernel
theorem dX0_readData_2 : decode cX0_readData 2 = .ok (.ifCond .lt 20, 3) := by decide +kernel
theorem dX0_readData_5 : decode cX0_readData 5 = .ok (.iload 4, 2) := by decide +kernel
theorem dX0_readData_7 : decode cX0_readData 7 = .ok (.iconst 4, 1) := by decide +kernel
theorem dX0_readData_8 : decode cX0_readData 8 = .ok (.if_icmp .ge 14, 3) := by decide +kernel
theorem dX0_readData_11 : decode cX0_readData 11 = .ok (.aload_n 0, 1) := by decide +kernel
theorem dX0_readData_12 : decode cX0_readData 12 = .ok (.iload 4, 2) := by decide +kernel
theorem dX0_readData_14 : decode cX0_readData 14 = .ok (.iload 5, 2) := by decide +kernel
theorem dX0_readData_16 : decode cX0_readData 16 = .ok (.invokevirtual 83, 3) := by decide +kernel
theorem dX0_readData_19 : decode cX0_readData 19 = .ok (.ifCond .ne 15, 3) := by decide +kernel
theorem dX0_readData_22 : decode cX0_readData 22 = .ok (.aload_n 0, 1) := by decide +kernel
theorem dX0_readData_23 : decode cX0_readData 23 = .ok (.getfield 32, 3) := by decide +kernel
theorem dX0_readData_26 : decode cX0_readData 26 = .ok (.iconst 3, 1) := by decide +kernel
theorem dX0_readData_27 : decode cX0_readData 27 = .ok (.dup2, 1) := by decide +kernel
theorem dX0_readData_28 : decode cX0_readData 28 = .ok (.laload, 1) := by decide +kernel
theorem dX0_readData_29 : decode cX0_readData 29 = .ok (.lconst 1, 1) := by decide +kernel
theorem dX0_readData_30 : decode cX0_readData 30 = .ok (.ladd, 1) := by decide +kernel
theorem dX0_readData_31 : decode cX0_readData 31 = .ok (.lastore, 1) := by decide +kernel
theorem dX0_readData_32 : decode cX0_readData 32 = .ok (.iconst 0, 1) := by decide +kernel
theorem dX0_readData_33 : decode cX0_readData 33 = .ok (.ireturn, 1) := by decide +kernel
theorem dX0_readData_34 : decode cX0_readData 34 = .ok (.aload_n 0, 1) := by decide +kernel
theorem dX0_readData_35 : decode cX0_readData 35 = .ok (.getfield 11, 3) := by decide +kernel
theorem dX0_readData_38 : decode cX0_readData 38 = .ok (.iload 4, 2) := by decide +kernel
theorem dX0_readData_40 : decode cX0_readData 40 = .ok (.aaload, 1) := by decide +kernel
theorem dX0_readData_41 : decode cX0_readData 41 = .ok (.astore 6, 2) := by decide +kernel
theorem dX0_readData_43 : decode cX0_readData 43 = .ok (.iconst 0, 1) := by decide +kernel
theorem dX0_readData_44 : decode cX0_readData 44 = .ok (.istore 7, 2) := by decide +kernel
theorem dX0_readData_46 : decode cX0_readData 46 = .ok (.iload_n 2, 1) := by decide +kernel
theorem dX0_readData_47 : decode cX0_readData 47 = .ok (.istore 8, 2) := by decide +kernel
theorem dX0_readData_49 : decode cX0_readData 49 = .ok (.aload 6, 2) := by decide +kernel
theorem dX0_readData_51 : decode cX0_readData 51 = .ok (.getfield 145, 3) := by decide +kernel
theorem dX0_readData_54 : decode cX0_readData 54 = .ok (.ifCond .le 40, 3) := by decide +kernel
theorem dX0_readData_57 : decode cX0_readData 57 = .ok (.iload_n 3, 1) := by decide +kernel
theorem dX0_readData_58 : decode cX0_readData 58 = .ok (.iload 8, 2) := by decide +kernel
theorem dX0_readData_60 : decode cX0_readData 60 = .ok (.isub, 1) := by decide +kernel
theorem dX0_readData_61 : decode cX0_readData 61 = .ok (.aload 6, 2) := by decide +kernel
theorem dX0_readData_63 : decode cX0_readData 63 = .ok (.getfield 145, 3) := by decide +kernel
theorem dX0_readData_66 : decode cX0_readData 66 = .ok (.if_icmp .lt 28, 3) := by decide +kernel
theorem dX0_readData_69 : decode cX0_readData 69 = .ok (.aload_n 0, 1) := by decide +kernel
theorem dX0_readData_70 : decode cX0_readData 70 = .ok (.aload_n 1, 1) := by decide +kernel
theorem dX0_readData_71 : decode cX0_readData 71 = .ok (.iload 8, 2) := by decide +kernel
theorem dX0_readData_73 : decode cX0_readData 73 = .ok (.aload 6, 2) := by decide +kernel
theorem dX0_readData_75 : decode cX0_readData 75 = .ok (.invokevirtual 148, 3) := by decide +kernel
theorem dX0_readData_78 : decode cX0_readData 78 = .ok (.iinc 7 1, 3) := by decide +kernel
theorem dX0_readData_81 : decode cX0_readData 81 = .ok (.iload 8, 2) := by decide +kernel
theorem dX0_readData_83 : decode cX0_readData 83 = .ok (.aload 6, 2) := by decide +kernel
theorem dX0_readData_85 : decode cX0_readData 85 = .ok (.getfield 145, 3) := by decide +kernel
theorem dX0_readData_88 : decode cX0_readData 88 = .ok (.iadd, 1) := by decide +kernel
theorem dX0_readData_89 : decode cX0_readData 89 = .ok (.istore 8, 2) := by decide +kernel
theorem dX0_readData_91 : decode cX0_readData 91 = .ok (.goto (-42), 3) := by decide +kernel
theorem dX0_readData_94 : decode cX0_readData 94 = .ok (.aload_n 0, 1) := by decide +kernel
theorem dX0_readData_95 : decode cX0_readData 95 = .ok (.getfield 32, 3) := by decide +kernel
theorem dX0_readData_98 : decode cX0_readData 98 = .ok (.bipush 7, 2) := by decide +kernel
theorem dX0_readData_100 : decode cX0_readData 100 = .ok (.dup2, 1) := by decide +kernel
theorem dX0_readData_101 : decode cX0_readData 101 = .ok (.laload, 1) := by decide +kernel
theorem dX0_readData_102 : decode cX0_readData 102 = .ok (.iload 7, 2) := by decide +kernel
theorem dX0_readData_104 : decode cX0_readData 104 = .ok (.i2l, 1) := by decide +kernel
theorem dX0_readData_105 : decode cX0_readData 105 = .ok (.ladd, 1) := by decide +kernel
theorem dX0_readData_106 : decode cX0_readData 106 = .ok (.lastore, 1) := by decide +kernel
theorem dX0_readData_107 : decode cX0_readData 107 = .ok (.iload 7, 2) := by decide +kernel
theorem dX0_readData_109 : decode cX0_readData 109 = .ok (.ireturn, 1) := by decide +kernel
set_option maxRecDepth 20000 in
theorem ggX0_decode_J7_fill_d0a16 : GoodIn wsX0_decode wsJ7_fill_d0a16 := goodIn_r _ [9] (by decide +kernel) (by decide +kernel)
set_option maxRecDepth 20000 in
theorem gX0_decode_J7_fill_d0a16 : GoodIn wsX0_decode (va_wsS RX0 57 yJ7_fill_d0a16 wsJ7_fill_d0a16) := goodIn_app (goodIn_of _ (by decide +kernel)) ggX0_decode_J7_fill_d0a16
set_option maxRecDepth 20000 in
theorem ggX0_decode_X10_field : GoodIn wsX0_decode wsX10_field := goodIn_ca (goodIn_r _ [14, 15, 16, 78, 79, 80, 81] (by decide +kernel) (by decide +kernel)) (goodIn_sub (fun _ h => List.mem_cons_of_mem _ (List.mem_append_right _ h)) (by decide +kernel))
set_option maxRecDepth 20000 in
theorem gX0_decode_X10_field : GoodIn wsX0_decode (wsV RX0 152 RX10 yX10_field wsX10_field) := goodIn_app (goodIn_of _ (by decide +kernel)) ggX0_decode_X10_field
set_option maxRecDepth 20000 in
theorem ggX0_decode_X5_numberAt : GoodIn wsX0_decode wsX5_numberAt := goodIn_ca (goodIn_r _ [21, 22, 23, 82, 83] (by decide +kernel) (by decide +kernel)) (goodIn_sub (fun _ h => List.mem_cons_of_mem _ (List.mem_append_right _ h)) (by decide +kernel))
set_option maxRecDepth 20000 in
theorem gX0_decode_X5_numberAt : GoodIn wsX0_decode (wsV RX0 158 RX5 yX5_numberAt wsX5_numberAt) := goodIn_app (goodIn_of _ (by decide +kernel)) ggX0_decode_X5_numberAt
set_option maxRecDepth 20000 in
theorem ggX0_decode_X3_keyOf : GoodIn wsX0_decode wsX3_keyOf := goodIn_r _ [27, 28, 29] (by decide +kernel) (by decide +kernel)
set_option maxRecDepth 20000 in
theorem gX0_decode_X3_keyOf : GoodIn wsX0_decode (va_wsS RX0 162 yX3_keyOf wsX3_keyOf) := goodIn_app (goodIn_of _ (by decide +kernel)) ggX0_decode_X3_keyOf
set_option maxRecDepth 20000 in
theorem ggX0_decode_X9_indexOrNew : GoodIn wsX0_decode wsX9_indexOrNew := goodIn_ca (goodIn_r _ [34, 35, 36, 37, 38, 39, 40, 41, 42, 33, 43, 84, 85, 86, 87, 88] (by decide +kernel) (by decide +kernel)) (goodIn_sub (fun _ h => List.mem_cons_of_mem _ (List.mem_append_right _ h)) (by decide +kernel))
set_option maxRecDepth 20000 in
theorem gX0_decode_X9_indexOrNew : GoodIn wsX0_decode (wsV RX0 168 RX9 yX9_indexOrNew wsX9_indexOrNew) := goodIn_app (goodIn_of _ (by decide +kernel)) ggX0_decode_X9_indexOrNew
set_option maxRecDepth 20000 in
theorem ggX0_decode_X1_get : GoodIn wsX0_decode wsX1_get := goodIn_ca (goodIn_r _ [48, 49, 89, 90, 91, 92, 93, 94] (by decide +kernel) (by decide +kernel)) (goodIn_sub (fun _ h => List.mem_cons_of_mem _ (List.mem_append_right _ h)) (by decide +kernel))
set_option maxRecDepth 20000 in
theorem gX0_decode_X1_get : GoodIn wsX0_decode (wsV RX0 77 RX1 yX1_get wsX1_get) := goodIn_app (goodIn_of _ (by decide +kernel)) ggX0_decode_X1_get
set_option maxRecDepth 20000 in
theorem ggX0_decode_X0_rateOfBits : GoodIn wsX0_decode wsX0_rateOfBits := goodIn_r _ [53, 54, 55, 56, 57, 58, 59, 60, 61] (by decide +kernel) (by decide +kernel)
set_option maxRecDepth 20000 in
theorem gX0_decode_X0_rateOfBits : GoodIn wsX0_decode (va_wsS RX0 174 yX0_rateOfBits wsX0_rateOfBits) := goodIn_app (goodIn_of _ (by decide +kernel)) ggX0_decode_X0_rateOfBits
set_option maxRecDepth 20000 in
theorem ggX0_decode_X9_add : GoodIn wsX0_decode wsX9_add := goodIn_ca (goodIn_r _ [65, 35, 37, 38, 39, 84, 85, 86, 87, 88] (by decide +kernel) (by decide +kernel)) (goodIn_sub (fun _ h => List.mem_cons_of_mem _ (List.mem_append_right _ h)) (by decide +kernel))
set_option maxRecDepth 20000 in
theorem gX0_decode_X9_add : GoodIn wsX0_decode (wsV RX0 177 RX9 yX9_add wsX9_add) := goodIn_app (goodIn_of _ (by decide +kernel)) ggX0_decode_X9_add
theorem dX0_decode_0 : decode cX0_decode 0 = .ok (.aload_n 0, 1) := by decide +kernel
theorem dX0_decode_1 : decode cX0_decode 1 = .ok (.getfield 36, 3) := by decide +kernel
theorem dX0_decode_4 : decode cX0_decode 4 = .ok (.lconst 0, 1) := by decide +kernel
theorem dX0_decode_5 : decode cX0_decode 5 = .ok (.invokestatic 57, 3) := by decide +kernel
theorem dX0_decode_8 : decode cX0_decode 8 = .ok (.iload_n 2, 1) := by decide +kernel
theorem dX0_decode_9 : decode cX0_decode 9 = .ok (.istore 4, 2) := by decide +kernel
theorem dX0_decode_11 : decode cX0_decode 11 = .ok (.iconst 0, 1) := by decide +kernel
theorem dX0_decode_12 : decode cX0_decode 12 = .ok (.istore 5, 2) := by decide +kernel
theorem dX0_decode_14 : decode cX0_decode 14 = .ok (.iload 5, 2) := by decide +kernel
theorem dX0_decode_16 : decode cX0_decode 16 = .ok (.aload_n 3, 1) := by decide +kernel
theorem dX0_decode_17 : decode cX0_decode 17 = .ok (.getfield 67, 3) := by decide +kernel
theorem dX0_decode_20 : decode cX0_decode 20 = .ok (.if_icmp .ge 59, 3) := by decide +kernel
theorem dX0_decode_23 : decode cX0_decode 23 = .ok (.aload_n 3, 1) := by decide +kernel
theorem dX0_decode_24 : decode cX0_decode 24 = .ok (.iload 5, 2) := by decide +kernel
theorem dX0_decode_26 : decode cX0_decode 26 = .ok (.invokevirtual 152, 3) := by decide +kernel
theorem dX0_decode_29 : decode cX0_decode 29 = .ok (.istore 6, 2) := by decide +kernel
theorem dX0_decode_31 : decode cX0_decode 31 = .ok (.iload 6, 2) := by decide +kernel
theorem dX0_decode_33 : decode cX0_decode 33 = .ok (.ifCond .lt 40, 3) := by decide +kernel
theorem dX0_decode_36 : decode cX0_decode 36 = .ok (.iload 6, 2) := by decide +kernel
theorem dX0_decode_38 : decode cX0_decode 38 = .ok (.bipush 9, 2) := by decide +kernel
theorem dX0_decode_40 : decode cX0_decode 40 = .ok (.if_icmp .ge 33, 3) := by decide +kernel
theorem dX0_decode_43 : decode cX0_decode 43 = .ok (.aload_n 0, 1) := by decide +kernel
theorem dX0_decode_44 : decode cX0_decode 44 = .ok (.getfield 36, 3) := by decide +kernel
theorem dX0_decode_47 : decode cX0_decode 47 = .ok (.iload 6, 2) := by decide +kernel
theorem dX0_decode_49 : decode cX0_decode 49 = .ok (.aload_n 1, 1) := by decide +kernel
theorem dX0_decode_50 : decode cX0_decode 50 = .ok (.iload 4, 2) := by decide +kernel
theorem dX0_decode_52 : decode cX0_decode 52 = .ok (.getstatic 155, 3) := by decide +kernel
theorem dX0_decode_55 : decode cX0_decode 55 = .ok (.iload 6, 2) := by decide +kernel
theorem dX0_decode_57 : decode cX0_decode 57 = .ok (.iaload, 1) := by decide +kernel
theorem dX0_decode_58 : decode cX0_decode 58 = .ok (.invokevirtual 158, 3) := by decide +kernel
theorem dX0_decode_61 : decode cX0_decode 61 = .ok (.lastore, 1) := by decide +kernel
theorem dX0_decode_62 : decode cX0_decode 62 = .ok (.iload 4, 2) := by decide +kernel
theorem dX0_decode_64 : decode cX0_decode 64 = .ok (.getstatic 155, 3) := by decide +kernel
theorem dX0_decode_67 : decode cX0_decode 67 = .ok (.iload 6, 2) := by decide +kernel
theorem dX0_decode_69 : decode cX0_decode 69 = .ok (.iaload, 1) := by decide +kernel
theorem dX0_decode_70 : decode cX0_decode 70 = .ok (.iadd, 1) := by decide +kernel
theorem dX0_decode_71 : decode cX0_decode 71 = .ok (.istore 4, 2) := by decide +kernel
theorem dX0_decode_73 : decode cX0_decode 73 = .ok (.iinc 5 1, 3) := by decide +kernel
theorem dX0_decode_76 : decode cX0_decode 76 = .ok (.goto (-62), 3) := by decide +kernel
theorem dX0_decode_79 : decode cX0_decode 79 = .ok (.aload_n 0, 1) := by decide +kernel
theorem dX0_decode_80 : decode cX0_decode 80 = .ok (.getfield 36, 3) := by decide +kernel
theorem dX0_decode_83 : decode cX0_decode 83 = .ok (.iconst 0, 1) := by decide +kernel
theorem dX0_decode_84 : decode cX0_decode 84 = .ok (.laload, 1) := by decide +kernel
theorem dX0_decode_85 : decode cX0_decode 85 = .ok (.l2i, 1) := by decide +kernel
theorem dX0_decode_86 : decode cX0_decode 86 = .ok (.aload_n 0, 1) := by decide +kernel
theorem dX0_decode_87 : decode cX0_decode 87 = .ok (.getfield 36, 3) := by decide +kernel
theorem dX0_decode_90 : decode cX0_decode 90 = .ok (.iconst 1, 1) := by decide +kernel
theorem dX0_decode_91 : decode cX0_decode 91 = .ok (.laload, 1) := by decide +kernel
theorem dX0_decode_92 : decode cX0_decode 92 = .ok (.l2i, 1) := by decide +kernel
theorem dX0_decode_93 : decode cX0_decode 93 = .ok (.aload_n 0, 1) := by decide +kernel
theorem dX0_decode_94 : decode cX0_decode 94 = .ok (.getfield 36, 3) := by decide +kernel
theorem dX0_decode_97 : decode cX0_decode 97 = .ok (.iconst 2, 1) := by decide +kernel
theorem dX0_decode_98 : decode cX0_decode 98 = .ok (.laload, 1) := by decide +kernel
theorem dX0_decode_99 : decode cX0_decode 99 = .ok (.l2i, 1) := by decide +kernel
theorem dX0_decode_100 : decode cX0_decode 100 = .ok (.aload_n 0, 1) := by decide +kernel
theorem dX0_decode_101 : decode cX0_decode 101 = .ok (.getfield 36, 3) := by decide +kernel
theorem dX0_decode_104 : decode cX0_decode 104 = .ok (.iconst 3, 1) := by decide +kernel
theorem dX0_decode_105 : decode cX0_decode 105 = .ok (.laload, 1) := by decide +kernel
theorem dX0_decode_106 : decode cX0_decode 106 = .ok (.l2i, 1) := by decide +kernel
theorem dX0_decode_107 : decode cX0_decode 107 = .ok (.invokestatic 162, 3) := by decide +kernel
theorem dX0_decode_110 : decode cX0_decode 110 = .ok (.lstore 5, 2) := by decide +kernel
theorem dX0_decode_112 : decode cX0_decode 112 = .ok (.aload_n 0, 1) := by decide +kernel
theorem dX0_decode_113 : decode cX0_decode 113 = .ok (.getfield 53, 3) := by decide +kernel
theorem dX0_decode_116 : decode cX0_decode 116 = .ok (.lload 5, 2) := by decide +kernel
theorem dX0_decode_118 : decode cX0_decode 118 = .ok (.invokevirtual 168, 3) := by decide +kernel
theorem dX0_decode_121 : decode cX0_decode 121 = .ok (.istore 7, 2) := by decide +kernel
theorem dX0_decode_123 : decode cX0_decode 123 = .ok (.iload 7, 2) := by decide +kernel
theorem dX0_decode_125 : decode cX0_decode 125 = .ok (.iconst (-1), 1) := by decide +kernel
theorem dX0_decode_126 : decode cX0_decode 126 = .ok (.if_icmp .ne 15, 3) := by decide +kernel
theorem dX0_decode_129 : decode cX0_decode 129 = .ok (.aload_n 0, 1) := by decide +kernel
theorem dX0_decode_130 : decode cX0_decode 130 = .ok (.getfield 32, 3) := by decide +kernel
theorem dX0_decode_133 : decode cX0_decode 133 = .ok (.bipush 6, 2) := by decide +kernel
theorem dX0_decode_135 : decode cX0_decode 135 = .ok (.dup2, 1) := by decide +kernel
theorem dX0_decode_136 : decode cX0_decode 136 = .ok (.laload, 1) := by decide +kernel
theorem dX0_decode_137 : decode cX0_decode 137 = .ok (.lconst 1, 1) := by decide +kernel
theorem dX0_decode_138 : decode cX0_decode 138 = .ok (.ladd, 1) := by decide +kernel
theorem dX0_decode_139 : decode cX0_decode 139 = .ok (.lastore, 1) := by decide +kernel
theorem dX0_decode_140 : decode cX0_decode 140 = .ok (.return_, 1) := by decide +kernel
theorem dX0_decode_141 : decode cX0_decode 141 = .ok (.aload_n 0, 1) := by decide +kernel
theorem dX0_decode_142 : decode cX0_decode 142 = .ok (.getfield 36, 3) := by decide +kernel
theorem dX0_decode_145 : decode cX0_decode 145 = .ok (.bipush 8, 2) := by decide +kernel
theorem dX0_decode_147 : decode cX0_decode 147 = .ok (.laload, 1) := by decide +kernel
theorem dX0_decode_148 : decode cX0_decode 148 = .ok (.l2i, 1) := by decide +kernel
theorem dX0_decode_149 : decode cX0_decode 149 = .ok (.aload_n 0, 1) := by decide +kernel
theorem dX0_decode_150 : decode cX0_decode 150 = .ok (.getfield 49, 3) := by decide +kernel
theorem dX0_decode_153 : decode cX0_decode 153 = .ok (.bipush 8, 2) := by decide +kernel
theorem dX0_decode_155 : decode cX0_decode 155 = .ok (.invokevirtual 77, 3) := by decide +kernel
theorem dX0_decode_158 : decode cX0_decode 158 = .ok (.invokestatic 174, 3) := by decide +kernel
theorem dX0_decode_161 : decode cX0_decode 161 = .ok (.istore 8, 2) := by decide +kernel
theorem dX0_decode_163 : decode cX0_decode 163 = .ok (.aload_n 0, 1) := by decide +kernel
theorem dX0_decode_164 : decode cX0_decode 164 = .ok (.getfield 53, 3) := by decide +kernel
theorem dX0_decode_167 : decode cX0_decode 167 = .ok (.iload 7, 2) := by decide +kernel
theorem dX0_decode_169 : decode cX0_decode 169 = .ok (.aload_n 0, 1) := by decide +kernel
theorem dX0_decode_170 : decode cX0_decode 170 = .ok (.getfield 36, 3) := by decide +kernel
theorem dX0_decode_173 : decode cX0_decode 173 = .ok (.iconst 4, 1) := by decide +kernel
theorem dX0_decode_174 : decode cX0_decode 174 = .ok (.laload, 1) := by decide +kernel
theorem dX0_decode_175 : decode cX0_decode 175 = .ok (.aload_n 0, 1) := by decide +kernel
theorem dX0_decode_176 : decode cX0_decode 176 = .ok (.getfield 36, 3) := by decide +kernel
theorem dX0_decode_179 : decode cX0_decode 179 = .ok (.iconst 5, 1) := by decide +kernel
theorem dX0_decode_180 : decode cX0_decode 180 = .ok (.laload, 1) := by decide +kernel
theorem dX0_decode_181 : decode cX0_decode 181 = .ok (.iload 8, 2) := by decide +kernel
theorem dX0_decode_183 : decode cX0_decode 183 = .ok (.invokevirtual 177, 3) := by decide +kernel
theorem dX0_decode_186 : decode cX0_decode 186 = .ok (.return_, 1) := by decide +kernel
theorem dX0_rateOfBits_0 : decode cX0_rateOfBits 0 = .ok (.iload_n 0, 1) := by decide +kernel
theorem dX0_rateOfBits_1 : decode cX0_rateOfBits 1 = .ok (.ifCond .le 9, 3) := by decide +kernel
theorem dX0_rateOfBits_4 : decode cX0_rateOfBits 4 = .ok (.iload_n 0, 1) := by decide +kernel
theorem dX0_rateOfBits_5 : decode cX0_rateOfBits 5 = .ok (.ldc 181, 2) := by decide +kernel
theorem dX0_rateOfBits_7 : decode cX0_rateOfBits 7 = .ok (.if_icmp .le 5, 3) := by decide +kernel
theorem dX0_rateOfBits_10 : decode cX0_rateOfBits 10 = .ok (.iload_n 1, 1) := by decide +kernel
theorem dX0_rateOfBits_11 : decode cX0_rateOfBits 11 = .ok (.ireturn, 1) := by decide +kernel
theorem dX0_rateOfBits_12 : decode cX0_rateOfBits 12 = .ok (.iload_n 0, 1) := by decide +kernel
theorem dX0_rateOfBits_13 : decode cX0_rateOfBits 13 = .ok (.bipush 23, 2) := by decide +kernel
theorem dX0_rateOfBits_15 : decode cX0_rateOfBits 15 = .ok (.ishr, 1) := by decide +kernel
theorem dX0_rateOfBits_16 : decode cX0_rateOfBits 16 = .ok (.istore_n 2, 1) := by decide +kernel
theorem dX0_rateOfBits_17 : decode cX0_rateOfBits 17 = .ok (.iload_n 2, 1) := by decide +kernel
theorem dX0_rateOfBits_18 : decode cX0_rateOfBits 18 = .ok (.bipush 117, 2) := by decide +kernel
theorem dX0_rateOfBits_20 : decode cX0_rateOfBits 20 = .ok (.if_icmp .ge 7, 3) := by decide +kernel
theorem dX0_rateOfBits_23 : decode cX0_rateOfBits 23 = .ok (.sipush 1024, 3) := by decide +kernel
theorem dX0_rateOfBits_26 : decode cX0_rateOfBits 26 = .ok (.ireturn, 1) := by decide +kernel
theorem dX0_rateOfBits_27 : decode cX0_rateOfBits 27 = .ok (.iload_n 0, 1) := by decide +kernel
theorem dX0_rateOfBits_28 : decode cX0_rateOfBits 28 = .ok (.ldc 182, 2) := by decide +kernel
theorem dX0_rateOfBits_30 : decode cX0_rateOfBits 30 = .ok (.iand, 1) := by decide +kernel
theorem dX0_rateOfBits_31 : decode cX0_rateOfBits 31 = .ok (.ldc 183, 2) := by decide +kernel
theorem dX0_rateOfBits_33 : decode cX0_rateOfBits 33 = .ok (.ior, 1) := by decide +kernel
theorem dX0_rateOfBits_34 : decode cX0_rateOfBits 34 = .ok (.istore_n 3, 1) := by decide +kernel
theorem dX0_rateOfBits_35 : decode cX0_rateOfBits 35 = .ok (.iload_n 3, 1) := by decide +kernel
theorem dX0_rateOfBits_36 : decode cX0_rateOfBits 36 = .ok (.i2f, 1) := by decide +kernel
theorem dX0_rateOfBits_37 : decode cX0_rateOfBits 37 = .ok (.lconst 1, 1) := by decide +kernel
theorem dX0_rateOfBits_38 : decode cX0_rateOfBits 38 = .ok (.sipush 150, 3) := by decide +kernel
theorem dX0_rateOfBits_41 : decode cX0_rateOfBits 41 = .ok (.iload_n 2, 1) := by decide +kernel
theorem dX0_rateOfBits_42 : decode cX0_rateOfBits 42 = .ok (.isub, 1) := by decide +kernel
theorem dX0_rateOfBits_43 : decode cX0_rateOfBits 43 = .ok (.lshl, 1) := by decide +kernel
theorem dX0_rateOfBits_44 : decode cX0_rateOfBits 44 = .ok (.l2f, 1) := by decide +kernel
theorem dX0_rateOfBits_45 : decode cX0_rateOfBits 45 = .ok (.fdiv, 1) := by decide +kernel
theorem dX0_rateOfBits_46 : decode cX0_rateOfBits 46 = .ok (.fstore 4, 2) := by decide +kernel
theorem dX0_rateOfBits_48 : decode cX0_rateOfBits 48 = .ok (.fload 4, 2) := by decide +kernel
theorem dX0_rateOfBits_50 : decode cX0_rateOfBits 50 = .ok (.fconst 0, 1) := by decide +kernel
theorem dX0_rateOfBits_51 : decode cX0_rateOfBits 51 = .ok (.fcmp .l, 1) := by decide +kernel
theorem dX0_rateOfBits_52 : decode cX0_rateOfBits 52 = .ok (.ifCond .le 20, 3) := by decide +kernel
theorem dX0_rateOfBits_55 : decode cX0_rateOfBits 55 = .ok (.sipush 1024, 3) := by decide +kernel
theorem dX0_rateOfBits_58 : decode cX0_rateOfBits 58 = .ok (.fconst 1, 1) := by decide +kernel
theorem dX0_rateOfBits_59 : decode cX0_rateOfBits 59 = .ok (.fload 4, 2) := by decide +kernel
theorem dX0_rateOfBits_61 : decode cX0_rateOfBits 61 = .ok (.fdiv, 1) := by decide +kernel
theorem dX0_rateOfBits_62 : decode cX0_rateOfBits 62 = .ok (.ldc 184, 2) := by decide +kernel
theorem dX0_rateOfBits_64 : decode cX0_rateOfBits 64 = .ok (.fadd, 1) := by decide +kernel
theorem dX0_rateOfBits_65 : decode cX0_rateOfBits 65 = .ok (.f2i, 1) := by decide +kernel
theorem dX0_rateOfBits_66 : decode cX0_rateOfBits 66 = .ok (.invokestatic 185, 3) := by decide +kernel
theorem dX0_rateOfBits_69 : decode cX0_rateOfBits 69 = .ok (.goto 4, 3) := by decide +kernel
theorem dX0_rateOfBits_72 : decode cX0_rateOfBits 72 = .ok (.iload_n 1, 1) := by decide +kernel
theorem dX0_rateOfBits_73 : decode cX0_rateOfBits 73 = .ok (.ireturn, 1) := by decide +kernel
set_option maxRecDepth 20000 in
theorem ggX1_clear_J7_fill_53178 : GoodIn wsX1_clear wsJ7_fill_53178 := goodIn_r _ [13] (by decide +kernel) (by decide +kernel)
set_option maxRecDepth 20000 in
theorem gX1_clear_J7_fill_53178 : GoodIn wsX1_clear (va_wsS RX1 44 yJ7_fill_53178 wsJ7_fill_53178) := goodIn_app (goodIn_of _ (by decide +kernel)) ggX1_clear_J7_fill_53178
set_option maxRecDepth 20000 in
theorem ggX1_clear_X10_clear : GoodIn wsX1_clear wsX10_clear := goodIn_r _ [18, 19, 20, 21, 28, 29, 30, 31] (by decide +kernel) (by decide +kernel)
set_option maxRecDepth 20000 in
theorem gX1_clear_X10_clear : GoodIn wsX1_clear (wsV RX1 50 RX10 yX10_clear wsX10_clear) := goodIn_app (goodIn_of _ (by decide +kernel)) ggX1_clear_X10_clear
theorem dX1_clear_0 : decode cX1_clear 0 = .ok (.getstatic 35, 3) := by decide +kernel
theorem dX1_clear_3 : decode cX1_clear 3 = .ok (.iconst 0, 1) := by decide +kernel
theorem dX1_clear_4 : decode cX1_clear 4 = .ok (.aload_n 0, 1) := by decide +kernel
theorem dX1_clear_5 : decode cX1_clear 5 = .ok (.getfield 9, 3) := by decide +kernel
theorem dX1_clear_8 : decode cX1_clear 8 = .ok (.iconst 0, 1) := by decide +kernel
theorem dX1_clear_9 : decode cX1_clear 9 = .ok (.bipush 9, 2) := by decide +kernel
theorem dX1_clear_11 : decode cX1_clear 11 = .ok (.invokestatic 38, 3) := by decide +kernel
theorem dX1_clear_14 : decode cX1_clear 14 = .ok (.aload_n 0, 1) := by decide +kernel
theorem dX1_clear_15 : decode cX1_clear 15 = .ok (.getfield 15, 3) := by decide +kernel
theorem dX1_clear_18 : decode cX1_clear 18 = .ok (.iconst 0, 1) := by decide +kernel
theorem dX1_clear_19 : decode cX1_clear 19 = .ok (.invokestatic 44, 3) := by decide +kernel
theorem dX1_clear_22 : decode cX1_clear 22 = .ok (.iconst 0, 1) := by decide +kernel
theorem dX1_clear_23 : decode cX1_clear 23 = .ok (.istore_n 1, 1) := by decide +kernel
theorem dX1_clear_24 : decode cX1_clear 24 = .ok (.iload_n 1, 1) := by decide +kernel
theorem dX1_clear_25 : decode cX1_clear 25 = .ok (.iconst 4, 1) := by decide +kernel
theorem dX1_clear_26 : decode cX1_clear 26 = .ok (.if_icmp .ge 18, 3) := by decide +kernel
theorem dX1_clear_29 : decode cX1_clear 29 = .ok (.aload_n 0, 1) := by decide +kernel
theorem dX1_clear_30 : decode cX1_clear 30 = .ok (.getfield 20, 3) := by decide +kernel
theorem dX1_clear_33 : decode cX1_clear 33 = .ok (.iload_n 1, 1) := by decide +kernel
theorem dX1_clear_34 : decode cX1_clear 34 = .ok (.aaload, 1) := by decide +kernel
theorem dX1_clear_35 : decode cX1_clear 35 = .ok (.invokevirtual 50, 3) := by decide +kernel
theorem dX1_clear_38 : decode cX1_clear 38 = .ok (.iinc 1 1, 3) := by decide +kernel
theorem dX1_clear_41 : decode cX1_clear 41 = .ok (.goto (-17), 3) := by decide +kernel
theorem dX1_clear_44 : decode cX1_clear 44 = .ok (.aload_n 0, 1) := by decide +kernel
theorem dX1_clear_45 : decode cX1_clear 45 = .ok (.iconst 0, 1) := by decide +kernel
theorem dX1_clear_46 : decode cX1_clear 46 = .ok (.putfield 27, 3) := by decide +kernel
theorem dX1_clear_49 : decode cX1_clear 49 = .ok (.aload_n 0, 1) := by decide +kernel
theorem dX1_clear_50 : decode cX1_clear 50 = .ok (.sipush 511, 3) := by decide +kernel
theorem dX1_clear_53 : decode cX1_clear 53 = .ok (.putfield 31, 3) := by decide +kernel
theorem dX1_clear_56 : decode cX1_clear 56 = .ok (.return_, 1) := by decide +kernel
set_option maxRecDepth 20000 in
theorem ggX1_copyFrom_X10_copyFrom : GoodIn wsX1_copyFrom wsX10_copyFrom := goodIn_ca (goodIn_r _ [14, 15, 16, 17, 18, 13, 19, 20, 21, 22, 23, 24, 25, 26, 27, 28, 29, 30, 43, 44, 45, 46] (by decide +kernel) (by decide +kernel)) (goodIn_sub (fun _ h => List.mem_cons_of_mem _ (List.mem_append_right _ h)) (by decide +kernel))
set_option maxRecDepth 20000 in
theorem gX1_copyFrom_X10_copyFrom : GoodIn wsX1_copyFrom (wsV RX1 53 RX10 yX10_copyFrom wsX10_copyFrom) := goodIn_app (goodIn_of _ (by decide +kernel)) ggX1_copyFrom_X10_copyFrom
set_option maxRecDepth 20000 in
theorem ggX1_copyFrom_X1_support : GoodIn wsX1_copyFrom wsX1_support := goodIn_ca (goodIn_r _ [35, 9, 36, 7, 10, 11, 12, 13, 14, 15, 16, 17, 18, 19, 20, 21, 22, 23, 24, 25, 26, 27, 28, 29, 30, 37, 38, 39, 40, 41, 42, 43, 44, 45, 46] (by decide +kernel) (by decide +kernel)) (goodIn_sub (fun _ h => List.mem_cons_of_mem _ (List.mem_append_right _ h)) (by decide +kernel))
set_option maxRecDepth 20000 in
theorem gX1_copyFrom_X1_support : GoodIn wsX1_copyFrom (wsV RX1 57 RX1 yX1_support wsX1_support) := goodIn_app (goodIn_of _ (by decide +kernel)) ggX1_copyFrom_X1_support
theorem dX1_copyFrom_0 : decode cX1_copyFrom 0 = .ok (.aload_n 1, 1) := by decide +kernel
theorem dX1_copyFrom_1 : decode cX1_copyFrom 1 = .ok (.getfield 9, 3) := by decide +kernel
theorem dX1_copyFrom_4 : decode cX1_copyFrom 4 = .ok (.iconst 0, 1) := by decide +kernel
theorem dX1_copyFrom_5 : decode cX1_copyFrom 5 = .ok (.aload_n 0, 1) := by decide +kernel
theorem dX1_copyFrom_6 : decode cX1_copyFrom 6 = .ok (.getfield 9, 3) := by decide +kernel
theorem dX1_copyFrom_9 : decode cX1_copyFrom 9 = .ok (.iconst 0, 1) := by decide +kernel
theorem dX1_copyFrom_10 : decode cX1_copyFrom 10 = .ok (.bipush 9, 2) := by decide +kernel
theorem dX1_copyFrom_12 : decode cX1_copyFrom 12 = .ok (.invokestatic 38, 3) := by decide +kernel
theorem dX1_copyFrom_15 : decode cX1_copyFrom 15 = .ok (.aload_n 1, 1) := by decide +kernel
theorem dX1_copyFrom_16 : decode cX1_copyFrom 16 = .ok (.getfield 15, 3) := by decide +kernel
theorem dX1_copyFrom_19 : decode cX1_copyFrom 19 = .ok (.iconst 0, 1) := by decide +kernel
theorem dX1_copyFrom_20 : decode cX1_copyFrom 20 = .ok (.aload_n 0, 1) := by decide +kernel
theorem dX1_copyFrom_21 : decode cX1_copyFrom 21 = .ok (.getfield 15, 3) := by decide +kernel
theorem dX1_copyFrom_24 : decode cX1_copyFrom 24 = .ok (.iconst 0, 1) := by decide +kernel
theorem dX1_copyFrom_25 : decode cX1_copyFrom 25 = .ok (.sipush 256, 3) := by decide +kernel
theorem dX1_copyFrom_28 : decode cX1_copyFrom 28 = .ok (.invokestatic 38, 3) := by decide +kernel
theorem dX1_copyFrom_31 : decode cX1_copyFrom 31 = .ok (.iconst 0, 1) := by decide +kernel
theorem dX1_copyFrom_32 : decode cX1_copyFrom 32 = .ok (.istore_n 2, 1) := by decide +kernel
theorem dX1_copyFrom_33 : decode cX1_copyFrom 33 = .ok (.iload_n 2, 1) := by decide +kernel
theorem dX1_copyFrom_34 : decode cX1_copyFrom 34 = .ok (.iconst 4, 1) := by decide +kernel
theorem dX1_copyFrom_35 : decode cX1_copyFrom 35 = .ok (.if_icmp .ge 27, 3) := by decide +kernel
theorem dX1_copyFrom_38 : decode cX1_copyFrom 38 = .ok (.aload_n 0, 1) := by decide +kernel
theorem dX1_copyFrom_39 : decode cX1_copyFrom 39 = .ok (.getfield 20, 3) := by decide +kernel
theorem dX1_copyFrom_42 : decode cX1_copyFrom 42 = .ok (.iload_n 2, 1) := by decide +kernel
theorem dX1_copyFrom_43 : decode cX1_copyFrom 43 = .ok (.aaload, 1) := by decide +kernel
theorem dX1_copyFrom_44 : decode cX1_copyFrom 44 = .ok (.aload_n 1, 1) := by decide +kernel
theorem dX1_copyFrom_45 : decode cX1_copyFrom 45 = .ok (.getfield 20, 3) := by decide +kernel
theorem dX1_copyFrom_48 : decode cX1_copyFrom 48 = .ok (.iload_n 2, 1) := by decide +kernel
theorem dX1_copyFrom_49 : decode cX1_copyFrom 49 = .ok (.aaload, 1) := by decide +kernel
theorem dX1_copyFrom_50 : decode cX1_copyFrom 50 = .ok (.sipush 511, 3) := by decide +kernel
theorem dX1_copyFrom_53 : decode cX1_copyFrom 53 = .ok (.invokevirtual 53, 3) := by decide +kernel
theorem dX1_copyFrom_56 : decode cX1_copyFrom 56 = .ok (.iinc 2 1, 3) := by decide +kernel
theorem dX1_copyFrom_59 : decode cX1_copyFrom 59 = .ok (.goto (-26), 3) := by decide +kernel
theorem dX1_copyFrom_62 : decode cX1_copyFrom 62 = .ok (.aload_n 0, 1) := by decide +kernel
theorem dX1_copyFrom_63 : decode cX1_copyFrom 63 = .ok (.aload_n 1, 1) := by decide +kernel
theorem dX1_copyFrom_64 : decode cX1_copyFrom 64 = .ok (.getfield 27, 3) := by decide +kernel
theorem dX1_copyFrom_67 : decode cX1_copyFrom 67 = .ok (.putfield 27, 3) := by decide +kernel
theorem dX1_copyFrom_70 : decode cX1_copyFrom 70 = .ok (.aload_n 0, 1) := by decide +kernel
theorem dX1_copyFrom_71 : decode cX1_copyFrom 71 = .ok (.aload_n 1, 1) := by decide +kernel
theorem dX1_copyFrom_72 : decode cX1_copyFrom 72 = .ok (.getfield 31, 3) := by decide +kernel
theorem dX1_copyFrom_75 : decode cX1_copyFrom 75 = .ok (.invokevirtual 57, 3) := by decide +kernel
theorem dX1_copyFrom_78 : decode cX1_copyFrom 78 = .ok (.return_, 1) := by decide +kernel
set_option maxRecDepth 20000 in
theorem ggX1_support_X10_copyFrom : GoodIn wsX1_support wsX10_copyFrom := goodIn_ca (goodIn_r _ [8, 9, 10, 11, 12, 7, 13, 14, 15, 16, 17, 18, 19, 20, 21, 22, 23, 24, 31, 32, 33, 34] (by decide +kernel) (by decide +kernel)) (goodIn_sub (fun _ h => List.mem_cons_of_mem _ (List.mem_append_right _ h)) (by decide +kernel))
set_option maxRecDepth 20000 in
theorem gX1_support_X10_copyFrom : GoodIn wsX1_support (wsV RX1 53 RX10 yX10_copyFrom wsX10_copyFrom) := goodIn_app (goodIn_of _ (by decide +kernel)) ggX1_support_X10_copyFrom
theorem dX1_support_0 : decode cX1_support 0 = .ok (.aload_n 0, 1) := by decide +kernel
theorem dX1_support_1 : decode cX1_support 1 = .ok (.iload_n 1, 1) := by decide +kernel
theorem dX1_support_2 : decode cX1_support 2 = .ok (.putfield 31, 3) := by decide +kernel
theorem dX1_support_5 : decode cX1_support 5 = .ok (.iconst 0, 1) := by decide +kernel
theorem dX1_support_6 : decode cX1_support 6 = .ok (.istore_n 2, 1) := by decide +kernel
theorem dX1_support_7 : decode cX1_support 7 = .ok (.iload_n 2, 1) := by decide +kernel
theorem dX1_support_8 : decode cX1_support 8 = .ok (.iconst 4, 1) := by decide +kernel
theorem dX1_support_9 : decode cX1_support 9 = .ok (.if_icmp .ge 25, 3) := by decide +kernel
theorem dX1_support_12 : decode cX1_support 12 = .ok (.aload_n 0, 1) := by decide +kernel
theorem dX1_support_13 : decode cX1_support 13 = .ok (.getfield 24, 3) := by decide +kernel
theorem dX1_support_16 : decode cX1_support 16 = .ok (.iload_n 2, 1) := by decide +kernel
theorem dX1_support_17 : decode cX1_support 17 = .ok (.aaload, 1) := by decide +kernel
theorem dX1_support_18 : decode cX1_support 18 = .ok (.aload_n 0, 1) := by decide +kernel
theorem dX1_support_19 : decode cX1_support 19 = .ok (.getfield 20, 3) := by decide +kernel
theorem dX1_support_22 : decode cX1_support 22 = .ok (.iload_n 2, 1) := by decide +kernel
theorem dX1_support_23 : decode cX1_support 23 = .ok (.aaload, 1) := by decide +kernel
theorem dX1_support_24 : decode cX1_support 24 = .ok (.iload_n 1, 1) := by decide +kernel
theorem dX1_support_25 : decode cX1_support 25 = .ok (.invokevirtual 53, 3) := by decide +kernel
theorem dX1_support_28 : decode cX1_support 28 = .ok (.iinc 2 1, 3) := by decide +kernel
theorem dX1_support_31 : decode cX1_support 31 = .ok (.goto (-24), 3) := by decide +kernel
theorem dX1_support_34 : decode cX1_support 34 = .ok (.return_, 1) := by decide +kernel
set_option maxRecDepth 20000 in
theorem ggX1_addUsualTemplate_X10_addField : GoodIn wsX1_addUsualTemplate wsX10_addField := goodIn_ca (goodIn_r _ [7, 8, 9, 10, 11, 18, 19, 20, 21] (by decide +kernel) (by decide +kernel)) (goodIn_sub (fun _ h => List.mem_cons_of_mem _ (List.mem_append_right _ h)) (by decide +kernel))
set_option maxRecDepth 20000 in
theorem gX1_addUsualTemplate_X10_addField : GoodIn wsX1_addUsualTemplate (wsV RX1 61 RX10 yX10_addField wsX10_addField) := goodIn_app (goodIn_of _ (by decide +kernel)) ggX1_addUsualTemplate_X10_addField
theorem dX1_addUsualTemplate_0 : decode cX1_addUsualTemplate 0 = .ok (.aload_n 0, 1) := by decide +kernel
theorem dX1_addUsualTemplate_1 : decode cX1_addUsualTemplate 1 = .ok (.iconst 1, 1) := by decide +kernel
theorem dX1_addUsualTemplate_2 : decode cX1_addUsualTemplate 2 = .ok (.putfield 27, 3) := by decide +kernel
theorem dX1_addUsualTemplate_5 : decode cX1_addUsualTemplate 5 = .ok (.iconst 0, 1) := by decide +kernel
theorem dX1_addUsualTemplate_6 : decode cX1_addUsualTemplate 6 = .ok (.istore_n 1, 1) := by decide +kernel
theorem dX1_addUsualTemplate_7 : decode cX1_addUsualTemplate 7 = .ok (.iload_n 1, 1) := by decide +kernel
theorem dX1_addUsualTemplate_8 : decode cX1_addUsualTemplate 8 = .ok (.bipush 9, 2) := by decide +kernel
theorem dX1_addUsualTemplate_10 : decode cX1_addUsualTemplate 10 = .ok (.if_icmp .ge 19, 3) := by decide +kernel
theorem dX1_addUsualTemplate_13 : decode cX1_addUsualTemplate 13 = .ok (.aload_n 0, 1) := by decide +kernel
theorem dX1_addUsualTemplate_14 : decode cX1_addUsualTemplate 14 = .ok (.getfield 20, 3) := by decide +kernel
theorem dX1_addUsualTemplate_17 : decode cX1_addUsualTemplate 17 = .ok (.iconst 0, 1) := by decide +kernel
theorem dX1_addUsualTemplate_18 : decode cX1_addUsualTemplate 18 = .ok (.aaload, 1) := by decide +kernel
theorem dX1_addUsualTemplate_19 : decode cX1_addUsualTemplate 19 = .ok (.iload_n 1, 1) := by decide +kernel
theorem dX1_addUsualTemplate_20 : decode cX1_addUsualTemplate 20 = .ok (.invokevirtual 61, 3) := by decide +kernel
theorem dX1_addUsualTemplate_23 : decode cX1_addUsualTemplate 23 = .ok (.iinc 1 1, 3) := by decide +kernel
theorem dX1_addUsualTemplate_26 : decode cX1_addUsualTemplate 26 = .ok (.goto (-19), 3) := by decide +kernel
theorem dX1_addUsualTemplate_29 : decode cX1_addUsualTemplate 29 = .ok (.return_, 1) := by decide +kernel
theorem dX1_template_0 : decode cX1_template 0 = .ok (.aload_n 0, 1) := by decide +kernel
theorem dX1_template_1 : decode cX1_template 1 = .ok (.getfield 20, 3) := by decide +kernel
theorem dX1_template_4 : decode cX1_template 4 = .ok (.iload_n 1, 1) := by decide +kernel
theorem dX1_template_5 : decode cX1_template 5 = .ok (.ifCond .lt 12, 3) := by decide +kernel
theorem dX1_template_8 : decode cX1_template 8 = .ok (.iload_n 1, 1) := by decide +kernel
theorem dX1_template_9 : decode cX1_template 9 = .ok (.iconst 4, 1) := by decide +kernel
theorem dX1_template_10 : decode cX1_template 10 = .ok (.if_icmp .ge 7, 3) := by decide +kernel
theorem dX1_template_13 : decode cX1_template 13 = .ok (.iload_n 1, 1) := by decide +kernel
theorem dX1_template_14 : decode cX1_template 14 = .ok (.goto 4, 3) := by decide +kernel
theorem dX1_template_17 : decode cX1_template 17 = .ok (.iconst 0, 1) := by decide +kernel
theorem dX1_template_18 : decode cX1_template 18 = .ok (.aaload, 1) := by decide +kernel
theorem dX1_template_19 : decode cX1_template 19 = .ok (.areturn, 1) := by decide +kernel
theorem dX1_effective_0 : decode cX1_effective 0 = .ok (.aload_n 0, 1) := by decide +kernel
theorem dX1_effective_1 : decode cX1_effective 1 = .ok (.getfield 24, 3) := by decide +kernel
theorem dX1_effective_4 : decode cX1_effective 4 = .ok (.iload_n 1, 1) := by decide +kernel
theorem dX1_effective_5 : decode cX1_effective 5 = .ok (.ifCond .lt 12, 3) := by decide +kernel
theorem dX1_effective_8 : decode cX1_effective 8 = .ok (.iload_n 1, 1) := by decide +kernel
theorem dX1_effective_9 : decode cX1_effective 9 = .ok (.iconst 4, 1) := by decide +kernel
theorem dX1_effective_10 : decode cX1_effective 10 = .ok (.if_icmp .ge 7, 3) := by decide +kernel
theorem dX1_effective_13 : decode cX1_effective 13 = .ok (.iload_n 1, 1) := by decide +kernel
theorem dX1_effective_14 : decode cX1_effective 14 = .ok (.goto 4, 3) := by decide +kernel
theorem dX1_effective_17 : decode cX1_effective 17 = .ok (.iconst 0, 1) := by decide +kernel
theorem dX1_effective_18 : decode cX1_effective 18 = .ok (.aaload, 1) := by decide +kernel
theorem dX1_effective_19 : decode cX1_effective 19 = .ok (.areturn, 1) := by decide +kernel
theorem dX1_set_0 : decode cX1_set 0 = .ok (.iload_n 1, 1) := by decide +kernel
theorem dX1_set_1 : decode cX1_set 1 = .ok (.ifCond .lt 16, 3) := by decide +kernel
theorem dX1_set_4 : decode cX1_set 4 = .ok (.iload_n 1, 1) := by decide +kernel
theorem dX1_set_5 : decode cX1_set 5 = .ok (.bipush 9, 2) := by decide +kernel
theorem dX1_set_7 : decode cX1_set 7 = .ok (.if_icmp .ge 10, 3) := by decide +kernel
theorem dX1_set_10 : decode cX1_set 10 = .ok (.aload_n 0, 1) := by decide +kernel
theorem dX1_set_11 : decode cX1_set 11 = .ok (.getfield 9, 3) := by decide +kernel
theorem dX1_set_14 : decode cX1_set 14 = .ok (.iload_n 1, 1) := by decide +kernel
theorem dX1_set_15 : decode cX1_set 15 = .ok (.iload_n 2, 1) := by decide +kernel
theorem dX1_set_16 : decode cX1_set 16 = .ok (.iastore, 1) := by decide +kernel
theorem dX1_set_17 : decode cX1_set 17 = .ok (.return_, 1) := by decide +kernel
theorem dX1_get_0 : decode cX1_get 0 = .ok (.iload_n 1, 1) := by decide +kernel
theorem dX1_get_1 : decode cX1_get 1 = .ok (.ifCond .lt 18, 3) := by decide +kernel
theorem dX1_get_4 : decode cX1_get 4 = .ok (.iload_n 1, 1) := by decide +kernel
theorem dX1_get_5 : decode cX1_get 5 = .ok (.bipush 9, 2) := by decide +kernel
theorem dX1_get_7 : decode cX1_get 7 = .ok (.if_icmp .ge 12, 3) := by decide +kernel
theorem dX1_get_10 : decode cX1_get 10 = .ok (.aload_n 0, 1) := by decide +kernel
theorem dX1_get_11 : decode cX1_get 11 = .ok (.getfield 9, 3) := by decide +kernel
theorem dX1_get_14 : decode cX1_get 14 = .ok (.iload_n 1, 1) := by decide +kernel
theorem dX1_get_15 : decode cX1_get 15 = .ok (.iaload, 1) := by decide +kernel
theorem dX1_get_16 : decode cX1_get 16 = .ok (.goto 4, 3) := by decide +kernel
theorem dX1_get_19 : decode cX1_get 19 = .ok (.iconst 0, 1) := by decide +kernel
theorem dX1_get_20 : decode cX1_get 20 = .ok (.ireturn, 1) := by decide +kernel
theorem dX1_use_0 : decode cX1_use 0 = .ok (.iload_n 1, 1) := by decide +kernel
theorem dX1_use_1 : decode cX1_use 1 = .ok (.ifCond .lt 17, 3) := by decide +kernel
theorem dX1_use_4 : decode cX1_use 4 = .ok (.iload_n 1, 1) := by decide +kernel
theorem dX1_use_5 : decode cX1_use 5 = .ok (.sipush 256, 3) := by decide +kernel
theorem dX1_use_8 : decode cX1_use 8 = .ok (.if_icmp .ge 10, 3) := by decide +kernel
theorem dX1_use_11 : decode cX1_use 11 = .ok (.aload_n 0, 1) := by decide +kernel
theorem dX1_use_12 : decode cX1_use 12 = .ok (.getfield 15, 3) := by decide +kernel
theorem dX1_use_15 : decode cX1_use 15 = .ok (.iload_n 1, 1) := by decide +kernel
theorem dX1_use_16 : decode cX1_use 16 = .ok (.iload_n 2, 1) := by decide +kernel
theorem dX1_use_17 : decode cX1_use 17 = .ok (.iastore, 1) := by decide +kernel
theorem dX1_use_18 : decode cX1_use 18 = .ok (.return_, 1) := by decide +kernel
theorem dX1_templateOf_0 : decode cX1_templateOf 0 = .ok (.iload_n 1, 1) := by decide +kernel
theorem dX1_templateOf_1 : decode cX1_templateOf 1 = .ok (.ifCond .lt 19, 3) := by decide +kernel
theorem dX1_templateOf_4 : decode cX1_templateOf 4 = .ok (.iload_n 1, 1) := by decide +kernel
theorem dX1_templateOf_5 : decode cX1_templateOf 5 = .ok (.sipush 256, 3) := by decide +kernel
theorem dX1_templateOf_8 : decode cX1_templateOf 8 = .ok (.if_icmp .ge 12, 3) := by decide +kernel
theorem dX1_templateOf_11 : decode cX1_templateOf 11 = .ok (.aload_n 0, 1) := by decide +kernel
theorem dX1_templateOf_12 : decode cX1_templateOf 12 = .ok (.getfield 15, 3) := by decide +kernel
theorem dX1_templateOf_15 : decode cX1_templateOf 15 = .ok (.iload_n 1, 1) := by decide +kernel
theorem dX1_templateOf_16 : decode cX1_templateOf 16 = .ok (.iaload, 1) := by decide +kernel
theorem dX1_templateOf_17 : decode cX1_templateOf 17 = .ok (.goto 4, 3) := by decide +kernel
theorem dX1_templateOf_20 : decode cX1_templateOf 20 = .ok (.iconst 0, 1) := by decide +kernel
theorem dX1_templateOf_21 : decode cX1_templateOf 21 = .ok (.ireturn, 1) := by decide +kernel
set_option maxRecDepth 20000 in
theorem ggX2_clear_X1_get : GoodIn wsX2_clear wsX1_get := goodIn_ca (goodIn_r _ [18, 19, 35, 36, 37, 38, 39, 40] (by decide +kernel) (by decide +kernel)) (goodIn_sub (fun _ h => List.mem_cons_of_mem _ (List.mem_append_right _ h)) (by decide +kernel))
set_option maxRecDepth 20000 in
theorem gX2_clear_X1_get : GoodIn wsX2_clear (wsV RX2 64 RX1 yX1_get wsX1_get) := goodIn_app (goodIn_of _ (by decide +kernel)) ggX2_clear_X1_get
theorem dX2_clear_0 : decode cX2_clear 0 = .ok (.aload_n 0, 1) := by decide +kernel
theorem dX2_clear_1 : decode cX2_clear 1 = .ok (.getfield 14, 3) := by decide +kernel
theorem dX2_clear_4 : decode cX2_clear 4 = .ok (.iconst 0, 1) := by decide +kernel
theorem dX2_clear_5 : decode cX2_clear 5 = .ok (.putfield 61, 3) := by decide +kernel
theorem dX2_clear_8 : decode cX2_clear 8 = .ok (.aload_n 0, 1) := by decide +kernel
theorem dX2_clear_9 : decode cX2_clear 9 = .ok (.getfield 20, 3) := by decide +kernel
theorem dX2_clear_12 : decode cX2_clear 12 = .ok (.iconst 0, 1) := by decide +kernel
theorem dX2_clear_13 : decode cX2_clear 13 = .ok (.putfield 61, 3) := by decide +kernel
theorem dX2_clear_16 : decode cX2_clear 16 = .ok (.aload_n 0, 1) := by decide +kernel
theorem dX2_clear_17 : decode cX2_clear 17 = .ok (.iconst 0, 1) := by decide +kernel
theorem dX2_clear_18 : decode cX2_clear 18 = .ok (.putfield 23, 3) := by decide +kernel
theorem dX2_clear_21 : decode cX2_clear 21 = .ok (.aload_n 0, 1) := by decide +kernel
theorem dX2_clear_22 : decode cX2_clear 22 = .ok (.aload_n 0, 1) := by decide +kernel
theorem dX2_clear_23 : decode cX2_clear 23 = .ok (.getfield 53, 3) := by decide +kernel
theorem dX2_clear_26 : decode cX2_clear 26 = .ok (.iconst 0, 1) := by decide +kernel
theorem dX2_clear_27 : decode cX2_clear 27 = .ok (.invokevirtual 64, 3) := by decide +kernel
theorem dX2_clear_30 : decode cX2_clear 30 = .ok (.putfield 27, 3) := by decide +kernel
theorem dX2_clear_33 : decode cX2_clear 33 = .ok (.aload_n 0, 1) := by decide +kernel
theorem dX2_clear_34 : decode cX2_clear 34 = .ok (.iconst 1, 1) := by decide +kernel
theorem dX2_clear_35 : decode cX2_clear 35 = .ok (.putfield 30, 3) := by decide +kernel
theorem dX2_clear_38 : decode cX2_clear 38 = .ok (.aload_n 0, 1) := by decide +kernel
theorem dX2_clear_39 : decode cX2_clear 39 = .ok (.iconst 0, 1) := by decide +kernel
theorem dX2_clear_40 : decode cX2_clear 40 = .ok (.putfield 33, 3) := by decide +kernel
theorem dX2_clear_43 : decode cX2_clear 43 = .ok (.aload_n 0, 1) := by decide +kernel
theorem dX2_clear_44 : decode cX2_clear 44 = .ok (.iconst 0, 1) := by decide +kernel
theorem dX2_clear_45 : decode cX2_clear 45 = .ok (.putfield 37, 3) := by decide +kernel
theorem dX2_clear_48 : decode cX2_clear 48 = .ok (.aload_n 0, 1) := by decide +kernel
theorem dX2_clear_49 : decode cX2_clear 49 = .ok (.iconst 0, 1) := by decide +kernel
theorem dX2_clear_50 : decode cX2_clear 50 = .ok (.putfield 40, 3) := by decide +kernel
theorem dX2_clear_53 : decode cX2_clear 53 = .ok (.aload_n 0, 1) := by decide +kernel
theorem dX2_clear_54 : decode cX2_clear 54 = .ok (.lconst 0, 1) := by decide +kernel
theorem dX2_clear_55 : decode cX2_clear 55 = .ok (.putfield 43, 3) := by decide +kernel
theorem dX2_clear_58 : decode cX2_clear 58 = .ok (.aload_n 0, 1) := by decide +kernel
theorem dX2_clear_59 : decode cX2_clear 59 = .ok (.lconst 0, 1) := by decide +kernel
theorem dX2_clear_60 : decode cX2_clear 60 = .ok (.putfield 47, 3) := by decide +kernel
theorem dX2_clear_63 : decode cX2_clear 63 = .ok (.aload_n 0, 1) := by decide +kernel
theorem dX2_clear_64 : decode cX2_clear 64 = .ok (.lconst 0, 1) := by decide +kernel
theorem dX2_clear_65 : decode cX2_clear 65 = .ok (.putfield 50, 3) := by decide +kernel
theorem dX2_clear_68 : decode cX2_clear 68 = .ok (.return_, 1) := by decide +kernel
set_option maxRecDepth 20000 in
theorem ggX2_takePackets_X2_remember : GoodIn wsX2_takePackets wsX2_remember := goodIn_r _ [9, 10, 4, 11, 12, 13, 14, 15, 16, 17, 18, 19, 20, 21, 22, 23, 24, 25, 26, 27, 28, 29, 30, 31, 32, 33, 34, 35, 36, 37, 38, 39, 40, 41, 42, 43, 44, 45, 46, 47, 208, 209, 210, 211, 212, 213, 214, 215, 216, 217, 218, 219, 220, 221, 222, 223, 224, 225, 226, 227] (by decide +kernel) (by decide +kernel)
set_option maxRecDepth 20000 in
theorem gX2_takePackets_X2_remember : GoodIn wsX2_takePackets (wsV RX2 70 RX2 yX2_remember wsX2_remember) := goodIn_app (goodIn_of _ (by decide +kernel)) ggX2_takePackets_X2_remember
set_option maxRecDepth 20000 in
theorem ggX2_takePackets_X2_isSampled : GoodIn wsX2_takePackets wsX2_isSampled := goodIn_ca (goodIn_r _ [51, 52, 53, 54, 55, 208, 209, 210, 211, 212, 213, 214, 215, 216, 217, 218, 219, 220] (by decide +kernel) (by decide +kernel)) (goodIn_sub (fun _ h => List.mem_cons_of_mem _ (List.mem_append_left _ (List.mem_append_right _ h))) (by decide +kernel))
set_option maxRecDepth 20000 in
theorem gX2_takePackets_X2_isSampled : GoodIn wsX2_takePackets (wsV RX2 74 RX2 yX2_isSampled wsX2_isSampled) := goodIn_app (goodIn_of _ (by decide +kernel)) ggX2_takePackets_X2_isSampled
set_option maxRecDepth 20000 in
theorem ggX2_takePackets_X2_addToFlow : GoodIn wsX2_takePackets wsX2_addToFlow := goodIn_ca (goodIn_ca (goodIn_r _ [59, 60, 4, 11, 12, 61, 13, 14, 15, 16, 17, 18, 19, 20, 21, 22, 23, 24, 62, 63, 64, 65, 66, 67, 68, 69, 8, 70, 71, 72, 73, 74, 75, 3, 52, 76, 77, 78, 79, 33, 34, 35, 36, 80, 81, 40, 82, 83, 84, 85, 86, 87, 88, 89, 90, 91, 92, 93, 94, 95, 96, 97, 98, 99, 100, 101, 102, 103, 104, 105, 106, 107, 108, 109, 110, 111, 112, 113, 114, 115, 116, 117, 118, 119, 120, 121, 122, 43, 44, 45, 46, 42, 123, 124, 125, 126, 127, 128, 129, 130, 131, 132, 133, 134, 25, 26, 27, 28, 29, 30, 31, 32, 37, 38, 39, 41, 47, 208, 209, 210, 211, 212, 213, 214, 215, 216, 217, 218, 219, 220, 221, 222, 223, 224, 225, 226, 227, 228, 229, 230, 231, 232, 233, 234, 235, 236, 237, 238, 239, 240, 241, 242, 243, 244, 245, 246, 247, 248, 249] (by decide +kernel) (by decide +kernel)) (goodIn_sub (fun _ h => List.mem_cons_of_mem _ (List.mem_append_right _ h)) (by decide +kernel))) (goodIn_sub (fun _ h => List.mem_cons_of_mem _ (List.mem_append_left _ (List.mem_append_right _ h))) (by decide +kernel))
set_option maxRecDepth 20000 in
theorem gX2_takePackets_X2_addToFlow : GoodIn wsX2_takePackets (wsV RX2 78 RX2 yX2_addToFlow wsX2_addToFlow) := goodIn_app (goodIn_of _ (by decide +kernel)) ggX2_takePackets_X2_addToFlow
set_option maxRecDepth 20000 in
theorem ggX2_takePackets_X8_sendPending : GoodIn wsX2_takePackets wsX8_sendPending := goodIn_ca (goodIn_r _ [138, 105, 106, 107, 139, 140, 109, 141, 142, 143, 103, 144, 145, 146, 147, 148, 149, 150, 151, 152, 153, 154, 155, 156, 157, 158, 159, 128, 129, 130, 131, 132, 133, 134, 160, 161, 162, 163, 164, 165, 166, 167, 168, 169, 170, 171, 108, 111, 92, 93, 88, 94, 95, 172, 173, 174, 175, 176, 177, 178, 179, 180, 112, 113, 114, 115, 116, 117, 118, 124, 125, 126, 127, 181, 182, 183, 184, 185, 186, 187, 188, 189, 190, 191, 192, 193, 194, 195, 196, 197, 198, 199, 30, 31, 32, 200, 201, 202, 203, 204, 205, 206, 207, 238, 239, 240, 241, 242, 243, 244, 245, 246, 247, 228, 229, 230, 231, 248, 249, 250, 251, 252, 232, 233, 234, 235, 236, 237] (by decide +kernel) (by decide +kernel)) (goodIn_sub (fun _ h => List.mem_cons_of_mem _ (List.mem_append_right _ h)) (by decide +kernel))
set_option maxRecDepth 20000 in
theorem gX2_takePackets_X8_sendPending : GoodIn wsX2_takePackets (wsV RX2 82 RX8 yX8_sendPending wsX8_sendPending) := goodIn_app (goodIn_of _ (by decide +kernel)) ggX2_takePackets_X8_sendPending
theorem dX2_takePackets_0 : decode cX2_takePackets 0 = .ok (.aload_n 0, 1) := by decide +kernel
theorem dX2_takePackets_1 : decode cX2_takePackets 1 = .ok (.dup, 1) := by decide +kernel
theorem dX2_takePackets_2 : decode cX2_takePackets 2 = .ok (.getfield 43, 3) := by decide +kernel
theorem dX2_takePackets_5 : decode cX2_takePackets 5 = .ok (.iload 4, 2) := by decide +kernel
theorem dX2_takePackets_7 : decode cX2_takePackets 7 = .ok (.i2l, 1) := by decide +kernel
theorem dX2_takePackets_8 : decode cX2_takePackets 8 = .ok (.ladd, 1) := by decide +kernel
theorem dX2_takePackets_9 : decode cX2_takePackets 9 = .ok (.putfield 43, 3) := by decide +kernel
theorem dX2_takePackets_12 : decode cX2_takePackets 12 = .ok (.aload_n 0, 1) := by decide +kernel
theorem dX2_takePackets_13 : decode cX2_takePackets 13 = .ok (.lload_n 1, 1) := by decide +kernel
theorem dX2_takePackets_14 : decode cX2_takePackets 14 = .ok (.iload_n 3, 1) := by decide +kernel
theorem dX2_takePackets_15 : decode cX2_takePackets 15 = .ok (.iload 4, 2) := by decide +kernel
theorem dX2_takePackets_17 : decode cX2_takePackets 17 = .ok (.invokevirtual 70, 3) := by decide +kernel
theorem dX2_takePackets_20 : decode cX2_takePackets 20 = .ok (.iconst 0, 1) := by decide +kernel
theorem dX2_takePackets_21 : decode cX2_takePackets 21 = .ok (.istore 5, 2) := by decide +kernel
theorem dX2_takePackets_23 : decode cX2_takePackets 23 = .ok (.iconst 0, 1) := by decide +kernel
theorem dX2_takePackets_24 : decode cX2_takePackets 24 = .ok (.istore 6, 2) := by decide +kernel
theorem dX2_takePackets_26 : decode cX2_takePackets 26 = .ok (.iload 6, 2) := by decide +kernel
theorem dX2_takePackets_28 : decode cX2_takePackets 28 = .ok (.iload 4, 2) := by decide +kernel
theorem dX2_takePackets_30 : decode cX2_takePackets 30 = .ok (.if_icmp .ge 25, 3) := by decide +kernel
theorem dX2_takePackets_33 : decode cX2_takePackets 33 = .ok (.aload_n 0, 1) := by decide +kernel
theorem dX2_takePackets_34 : decode cX2_takePackets 34 = .ok (.invokevirtual 74, 3) := by decide +kernel
theorem dX2_takePackets_37 : decode cX2_takePackets 37 = .ok (.ifCond .eq 12, 3) := by decide +kernel
theorem dX2_takePackets_40 : decode cX2_takePackets 40 = .ok (.aload_n 0, 1) := by decide +kernel
theorem dX2_takePackets_41 : decode cX2_takePackets 41 = .ok (.lload_n 1, 1) := by decide +kernel
theorem dX2_takePackets_42 : decode cX2_takePackets 42 = .ok (.iload_n 3, 1) := by decide +kernel
theorem dX2_takePackets_43 : decode cX2_takePackets 43 = .ok (.invokevirtual 78, 3) := by decide +kernel
theorem dX2_takePackets_46 : decode cX2_takePackets 46 = .ok (.iinc 5 1, 3) := by decide +kernel
theorem dX2_takePackets_49 : decode cX2_takePackets 49 = .ok (.iinc 6 1, 3) := by decide +kernel
theorem dX2_takePackets_52 : decode cX2_takePackets 52 = .ok (.goto (-26), 3) := by decide +kernel
theorem dX2_takePackets_55 : decode cX2_takePackets 55 = .ok (.aload_n 0, 1) := by decide +kernel
theorem dX2_takePackets_56 : decode cX2_takePackets 56 = .ok (.dup, 1) := by decide +kernel
theorem dX2_takePackets_57 : decode cX2_takePackets 57 = .ok (.getfield 47, 3) := by decide +kernel
theorem dX2_takePackets_60 : decode cX2_takePackets 60 = .ok (.iload 5, 2) := by decide +kernel
theorem dX2_takePackets_62 : decode cX2_takePackets 62 = .ok (.i2l, 1) := by decide +kernel
theorem dX2_takePackets_63 : decode cX2_takePackets 63 = .ok (.ladd, 1) := by decide +kernel
theorem dX2_takePackets_64 : decode cX2_takePackets 64 = .ok (.putfield 47, 3) := by decide +kernel
theorem dX2_takePackets_67 : decode cX2_takePackets 67 = .ok (.aload_n 0, 1) := by decide +kernel
theorem dX2_takePackets_68 : decode cX2_takePackets 68 = .ok (.getfield 57, 3) := by decide +kernel
theorem dX2_takePackets_71 : decode cX2_takePackets 71 = .ok (.aload_n 0, 1) := by decide +kernel
theorem dX2_takePackets_72 : decode cX2_takePackets 72 = .ok (.getfield 23, 3) := by decide +kernel
theorem dX2_takePackets_75 : decode cX2_takePackets 75 = .ok (.invokevirtual 82, 3) := by decide +kernel
theorem dX2_takePackets_78 : decode cX2_takePackets 78 = .ok (.iload 5, 2) := by decide +kernel
theorem dX2_takePackets_80 : decode cX2_takePackets 80 = .ok (.ireturn, 1) := by decide +kernel
set_option maxRecDepth 20000 in
theorem ggX2_remember_X4_indexOf : GoodIn wsX2_remember wsX4_indexOf := goodIn_r _ [9, 10, 11, 12, 58, 59, 53, 54, 55, 56, 57] (by decide +kernel) (by decide +kernel)
set_option maxRecDepth 20000 in
theorem gX2_remember_X4_indexOf : GoodIn wsX2_remember (wsV RX2 87 RX4 yX4_indexOf wsX4_indexOf) := goodIn_app (goodIn_of _ (by decide +kernel)) ggX2_remember_X4_indexOf
set_option maxRecDepth 20000 in
theorem ggX2_remember_X4_isFull : GoodIn wsX2_remember wsX4_isFull := goodIn_r _ [16, 10, 11, 58, 59] (by decide +kernel) (by decide +kernel)
set_option maxRecDepth 20000 in
theorem gX2_remember_X4_isFull : GoodIn wsX2_remember (wsV RX2 91 RX4 yX4_isFull wsX4_isFull) := goodIn_app (goodIn_of _ (by decide +kernel)) ggX2_remember_X4_isFull
set_option maxRecDepth 20000 in
theorem ggX2_remember_X4_addFlow : GoodIn wsX2_remember wsX4_addFlow := goodIn_r _ [20, 10, 11, 21, 22, 23, 24, 25, 26, 27, 8, 28, 29, 30, 31, 32, 33, 34, 35, 36, 37, 38, 58, 59, 53, 54, 55, 56, 57] (by decide +kernel) (by decide +kernel)
set_option maxRecDepth 20000 in
theorem gX2_remember_X4_addFlow : GoodIn wsX2_remember (wsV RX2 94 RX4 yX4_addFlow wsX4_addFlow) := goodIn_app (goodIn_of _ (by decide +kernel)) ggX2_remember_X4_addFlow
set_option maxRecDepth 20000 in
theorem ggX2_remember_X4_flowAt : GoodIn wsX2_remember wsX4_flowAt := goodIn_r _ [28, 11, 58, 59] (by decide +kernel) (by decide +kernel)
set_option maxRecDepth 20000 in
theorem gX2_remember_X4_flowAt : GoodIn wsX2_remember (wsV RX2 98 RX4 yX4_flowAt wsX4_flowAt) := goodIn_app (goodIn_of _ (by decide +kernel)) ggX2_remember_X4_flowAt
theorem dX2_remember_0 : decode cX2_remember 0 = .ok (.aload_n 0, 1) := by decide +kernel
theorem dX2_remember_1 : decode cX2_remember 1 = .ok (.getfield 20, 3) := by decide +kernel
theorem dX2_remember_4 : decode cX2_remember 4 = .ok (.lload_n 1, 1) := by decide +kernel
theorem dX2_remember_5 : decode cX2_remember 5 = .ok (.invokevirtual 87, 3) := by decide +kernel
theorem dX2_remember_8 : decode cX2_remember 8 = .ok (.istore 5, 2) := by decide +kernel
theorem dX2_remember_10 : decode cX2_remember 10 = .ok (.iload 5, 2) := by decide +kernel
theorem dX2_remember_12 : decode cX2_remember 12 = .ok (.iconst (-1), 1) := by decide +kernel
theorem dX2_remember_13 : decode cX2_remember 13 = .ok (.if_icmp .ne 14, 3) := by decide +kernel
theorem dX2_remember_16 : decode cX2_remember 16 = .ok (.aload_n 0, 1) := by decide +kernel
theorem dX2_remember_17 : decode cX2_remember 17 = .ok (.getfield 20, 3) := by decide +kernel
theorem dX2_remember_20 : decode cX2_remember 20 = .ok (.invokevirtual 91, 3) := by decide +kernel
theorem dX2_remember_23 : decode cX2_remember 23 = .ok (.ifCond .eq 4, 3) := by decide +kernel
theorem dX2_remember_26 : decode cX2_remember 26 = .ok (.return_, 1) := by decide +kernel
theorem dX2_remember_27 : decode cX2_remember 27 = .ok (.iload 5, 2) := by decide +kernel
theorem dX2_remember_29 : decode cX2_remember 29 = .ok (.iconst (-1), 1) := by decide +kernel
theorem dX2_remember_30 : decode cX2_remember 30 = .ok (.if_icmp .ne 18, 3) := by decide +kernel
theorem dX2_remember_33 : decode cX2_remember 33 = .ok (.aload_n 0, 1) := by decide +kernel
theorem dX2_remember_34 : decode cX2_remember 34 = .ok (.getfield 20, 3) := by decide +kernel
theorem dX2_remember_37 : decode cX2_remember 37 = .ok (.lload_n 1, 1) := by decide +kernel
theorem dX2_remember_38 : decode cX2_remember 38 = .ok (.aload_n 0, 1) := by decide +kernel
theorem dX2_remember_39 : decode cX2_remember 39 = .ok (.getfield 23, 3) := by decide +kernel
theorem dX2_remember_42 : decode cX2_remember 42 = .ok (.invokevirtual 94, 3) := by decide +kernel
theorem dX2_remember_45 : decode cX2_remember 45 = .ok (.goto 12, 3) := by decide +kernel
theorem dX2_remember_48 : decode cX2_remember 48 = .ok (.aload_n 0, 1) := by decide +kernel
theorem dX2_remember_49 : decode cX2_remember 49 = .ok (.getfield 20, 3) := by decide +kernel
theorem dX2_remember_52 : decode cX2_remember 52 = .ok (.iload 5, 2) := by decide +kernel
theorem dX2_remember_54 : decode cX2_remember 54 = .ok (.invokevirtual 98, 3) := by decide +kernel
theorem dX2_remember_57 : decode cX2_remember 57 = .ok (.astore 6, 2) := by decide +kernel
theorem dX2_remember_59 : decode cX2_remember 59 = .ok (.aload 6, 2) := by decide +kernel
theorem dX2_remember_61 : decode cX2_remember 61 = .ok (.dup, 1) := by decide +kernel
theorem dX2_remember_62 : decode cX2_remember 62 = .ok (.getfield 102, 3) := by decide +kernel
theorem dX2_remember_65 : decode cX2_remember 65 = .ok (.iload 4, 2) := by decide +kernel
theorem dX2_remember_67 : decode cX2_remember 67 = .ok (.i2l, 1) := by decide +kernel
theorem dX2_remember_68 : decode cX2_remember 68 = .ok (.ladd, 1) := by decide +kernel
theorem dX2_remember_69 : decode cX2_remember 69 = .ok (.putfield 102, 3) := by decide +kernel
theorem dX2_remember_72 : decode cX2_remember 72 = .ok (.aload 6, 2) := by decide +kernel
theorem dX2_remember_74 : decode cX2_remember 74 = .ok (.dup, 1) := by decide +kernel
theorem dX2_remember_75 : decode cX2_remember 75 = .ok (.getfield 107, 3) := by decide +kernel
theorem dX2_remember_78 : decode cX2_remember 78 = .ok (.iload 4, 2) := by decide +kernel
theorem dX2_remember_80 : decode cX2_remember 80 = .ok (.i2l, 1) := by decide +kernel
theorem dX2_remember_81 : decode cX2_remember 81 = .ok (.iload_n 3, 1) := by decide +kernel
theorem dX2_remember_82 : decode cX2_remember 82 = .ok (.i2l, 1) := by decide +kernel
theorem dX2_remember_83 : decode cX2_remember 83 = .ok (.lmul, 1) := by decide +kernel
theorem dX2_remember_84 : decode cX2_remember 84 = .ok (.ladd, 1) := by decide +kernel
theorem dX2_remember_85 : decode cX2_remember 85 = .ok (.putfield 107, 3) := by decide +kernel
theorem dX2_remember_88 : decode cX2_remember 88 = .ok (.return_, 1) := by decide +kernel
set_option maxRecDepth 20000 in
theorem ggX2_trueValue_X4_indexOf : GoodIn wsX2_trueValue wsX4_indexOf := goodIn_r _ [6, 7, 8, 9, 42, 43, 44, 45, 46, 47, 48] (by decide +kernel) (by decide +kernel)
set_option maxRecDepth 20000 in
theorem gX2_trueValue_X4_indexOf : GoodIn wsX2_trueValue (wsV RX2 87 RX4 yX4_indexOf wsX4_indexOf) := goodIn_app (goodIn_of _ (by decide +kernel)) ggX2_trueValue_X4_indexOf
set_option maxRecDepth 20000 in
theorem ggX2_trueValue_X4_flowAt : GoodIn wsX2_trueValue wsX4_flowAt := goodIn_r _ [13, 8, 42, 43] (by decide +kernel) (by decide +kernel)
set_option maxRecDepth 20000 in
theorem gX2_trueValue_X4_flowAt : GoodIn wsX2_trueValue (wsV RX2 98 RX4 yX4_flowAt wsX4_flowAt) := goodIn_app (goodIn_of _ (by decide +kernel)) ggX2_trueValue_X4_flowAt
set_option maxRecDepth 20000 in
theorem ggX2_trueValue_X3_value : GoodIn wsX2_trueValue wsX3_value := goodIn_ca (goodIn_r _ [18, 19, 20, 21, 22, 23, 24, 25, 17, 26, 27, 28, 44, 45, 46, 47, 48] (by decide +kernel) (by decide +kernel)) (goodIn_sub (fun _ h => List.mem_cons_of_mem _ (List.mem_append_right _ h)) (by decide +kernel))
set_option maxRecDepth 20000 in
theorem gX2_trueValue_X3_value : GoodIn wsX2_trueValue (wsV RX2 110 RX3 yX3_value wsX3_value) := goodIn_app (goodIn_of _ (by decide +kernel)) ggX2_trueValue_X3_value
theorem dX2_trueValue_0 : decode cX2_trueValue 0 = .ok (.aload_n 0, 1) := by decide +kernel
theorem dX2_trueValue_1 : decode cX2_trueValue 1 = .ok (.getfield 20, 3) := by decide +kernel
theorem dX2_trueValue_4 : decode cX2_trueValue 4 = .ok (.lload_n 1, 1) := by decide +kernel
theorem dX2_trueValue_5 : decode cX2_trueValue 5 = .ok (.invokevirtual 87, 3) := by decide +kernel
theorem dX2_trueValue_8 : decode cX2_trueValue 8 = .ok (.istore 4, 2) := by decide +kernel
theorem dX2_trueValue_10 : decode cX2_trueValue 10 = .ok (.iload 4, 2) := by decide +kernel
theorem dX2_trueValue_12 : decode cX2_trueValue 12 = .ok (.iconst (-1), 1) := by decide +kernel
theorem dX2_trueValue_13 : decode cX2_trueValue 13 = .ok (.if_icmp .ne 7, 3) := by decide +kernel
theorem dX2_trueValue_16 : decode cX2_trueValue 16 = .ok (.lconst 0, 1) := by decide +kernel
theorem dX2_trueValue_17 : decode cX2_trueValue 17 = .ok (.goto 24, 3) := by decide +kernel
theorem dX2_trueValue_20 : decode cX2_trueValue 20 = .ok (.aload_n 0, 1) := by decide +kernel
theorem dX2_trueValue_21 : decode cX2_trueValue 21 = .ok (.getfield 20, 3) := by decide +kernel
theorem dX2_trueValue_24 : decode cX2_trueValue 24 = .ok (.iload 4, 2) := by decide +kernel
theorem dX2_trueValue_26 : decode cX2_trueValue 26 = .ok (.invokevirtual 98, 3) := by decide +kernel
theorem dX2_trueValue_29 : decode cX2_trueValue 29 = .ok (.iload_n 3, 1) := by decide +kernel
theorem dX2_trueValue_30 : decode cX2_trueValue 30 = .ok (.ifCond .ne 7, 3) := by decide +kernel
theorem dX2_trueValue_33 : decode cX2_trueValue 33 = .ok (.iconst 4, 1) := by decide +kernel
theorem dX2_trueValue_34 : decode cX2_trueValue 34 = .ok (.goto 4, 3) := by decide +kernel
theorem dX2_trueValue_37 : decode cX2_trueValue 37 = .ok (.iconst 5, 1) := by decide +kernel
theorem dX2_trueValue_38 : decode cX2_trueValue 38 = .ok (.invokevirtual 110, 3) := by decide +kernel
theorem dX2_trueValue_41 : decode cX2_trueValue 41 = .ok (.lreturn, 1) := by decide +kernel
theorem dX2_isSampled_0 : decode cX2_isSampled 0 = .ok (.aload_n 0, 1) := by decide +kernel
theorem dX2_isSampled_1 : decode cX2_isSampled 1 = .ok (.getfield 27, 3) := by decide +kernel
theorem dX2_isSampled_4 : decode cX2_isSampled 4 = .ok (.iconst 1, 1) := by decide +kernel
theorem dX2_isSampled_5 : decode cX2_isSampled 5 = .ok (.if_icmp .gt 5, 3) := by decide +kernel
theorem dX2_isSampled_8 : decode cX2_isSampled 8 = .ok (.iconst 1, 1) := by decide +kernel
theorem dX2_isSampled_9 : decode cX2_isSampled 9 = .ok (.ireturn, 1) := by decide +kernel
theorem dX2_isSampled_10 : decode cX2_isSampled 10 = .ok (.aload_n 0, 1) := by decide +kernel
theorem dX2_isSampled_11 : decode cX2_isSampled 11 = .ok (.ldc 114, 2) := by decide +kernel
theorem dX2_isSampled_13 : decode cX2_isSampled 13 = .ok (.aload_n 0, 1) := by decide +kernel
theorem dX2_isSampled_14 : decode cX2_isSampled 14 = .ok (.getfield 30, 3) := by decide +kernel
theorem dX2_isSampled_17 : decode cX2_isSampled 17 = .ok (.imul, 1) := by decide +kernel
theorem dX2_isSampled_18 : decode cX2_isSampled 18 = .ok (.sipush 12345, 3) := by decide +kernel
theorem dX2_isSampled_21 : decode cX2_isSampled 21 = .ok (.iadd, 1) := by decide +kernel
theorem dX2_isSampled_22 : decode cX2_isSampled 22 = .ok (.ldc 115, 2) := by decide +kernel
theorem dX2_isSampled_24 : decode cX2_isSampled 24 = .ok (.iand, 1) := by decide +kernel
theorem dX2_isSampled_25 : decode cX2_isSampled 25 = .ok (.putfield 30, 3) := by decide +kernel
theorem dX2_isSampled_28 : decode cX2_isSampled 28 = .ok (.aload_n 0, 1) := by decide +kernel
theorem dX2_isSampled_29 : decode cX2_isSampled 29 = .ok (.getfield 30, 3) := by decide +kernel
theorem dX2_isSampled_32 : decode cX2_isSampled 32 = .ok (.sipush 256, 3) := by decide +kernel
theorem dX2_isSampled_35 : decode cX2_isSampled 35 = .ok (.idiv, 1) := by decide +kernel
theorem dX2_isSampled_36 : decode cX2_isSampled 36 = .ok (.aload_n 0, 1) := by decide +kernel
theorem dX2_isSampled_37 : decode cX2_isSampled 37 = .ok (.getfield 27, 3) := by decide +kernel
theorem dX2_isSampled_40 : decode cX2_isSampled 40 = .ok (.irem, 1) := by decide +kernel
theorem dX2_isSampled_41 : decode cX2_isSampled 41 = .ok (.ifCond .ne 7, 3) := by decide +kernel
theorem dX2_isSampled_44 : decode cX2_isSampled 44 = .ok (.iconst 1, 1) := by decide +kernel
theorem dX2_isSampled_45 : decode cX2_isSampled 45 = .ok (.goto 4, 3) := by decide +kernel
theorem dX2_isSampled_48 : decode cX2_isSampled 48 = .ok (.iconst 0, 1) := by decide +kernel
theorem dX2_isSampled_49 : decode cX2_isSampled 49 = .ok (.ireturn, 1) := by decide +kernel
set_option maxRecDepth 20000 in
theorem ggX2_addToFlow_X4_indexOf : GoodIn wsX2_addToFlow wsX4_indexOf := goodIn_r _ [10, 11, 12, 13, 135, 136, 130, 131, 132, 133, 134] (by decide +kernel) (by decide +kernel)
set_option maxRecDepth 20000 in
theorem gX2_addToFlow_X4_indexOf : GoodIn wsX2_addToFlow (wsV RX2 87 RX4 yX4_indexOf wsX4_indexOf) := goodIn_app (goodIn_of _ (by decide +kernel)) ggX2_addToFlow_X4_indexOf
set_option maxRecDepth 20000 in
theorem ggX2_addToFlow_X4_isFull : GoodIn wsX2_addToFlow wsX4_isFull := goodIn_r _ [17, 11, 12, 135, 136] (by decide +kernel) (by decide +kernel)
set_option maxRecDepth 20000 in
theorem gX2_addToFlow_X4_isFull : GoodIn wsX2_addToFlow (wsV RX2 91 RX4 yX4_isFull wsX4_isFull) := goodIn_app (goodIn_of _ (by decide +kernel)) ggX2_addToFlow_X4_isFull
set_option maxRecDepth 20000 in
theorem ggX2_addToFlow_X4_indexOfEarliestLast : GoodIn wsX2_addToFlow wsX4_indexOfEarliestLast := goodIn_r _ [21, 11, 12, 22, 135, 136, 130, 131, 132, 133, 134] (by decide +kernel) (by decide +kernel)
set_option maxRecDepth 20000 in
theorem gX2_addToFlow_X4_indexOfEarliestLast : GoodIn wsX2_addToFlow (wsV RX2 116 RX4 yX4_indexOfEarliestLast wsX4_indexOfEarliestLast) := goodIn_app (goodIn_of _ (by decide +kernel)) ggX2_addToFlow_X4_indexOfEarliestLast
set_option maxRecDepth 20000 in
theorem ggX2_addToFlow_X2_exportAt : GoodIn wsX2_addToFlow wsX2_exportAt := goodIn_ca (goodIn_ca (goodIn_r _ [27, 1, 28, 29, 30, 31, 32, 33, 34, 35, 36, 37, 9, 38, 11, 12, 39, 40, 41, 42, 43, 44, 45, 46, 47, 48, 49, 50, 51, 52, 53, 54, 55, 56, 57, 58, 59, 60, 61, 26, 62, 63, 64, 65, 66, 67, 68, 69, 70, 71, 72, 73, 74, 75, 76, 77, 78, 79, 80, 81, 82, 83, 84, 85, 86, 87, 88, 89, 90, 91, 92, 93, 94, 95, 96, 97, 98, 99, 100, 101, 102, 103, 117, 118, 119, 120, 121, 122, 123, 124, 125, 126, 127, 128, 129, 130, 131, 132, 133, 134, 137, 138, 139, 140, 135, 136, 141, 142, 143, 144, 145, 146, 147, 148, 149, 150, 151, 152, 153, 154, 155, 156, 157, 158] (by decide +kernel) (by decide +kernel)) (goodIn_sub (fun _ h => List.mem_cons_of_mem _ (List.mem_append_left _ (List.mem_append_right _ h))) (by decide +kernel))) (goodIn_sub (fun _ h => List.mem_cons_of_mem _ (List.mem_append_right _ h)) (by decide +kernel))
set_option maxRecDepth 20000 in
theorem gX2_addToFlow_X2_exportAt : GoodIn wsX2_addToFlow (wsV RX2 120 RX2 yX2_exportAt wsX2_exportAt) := goodIn_app (goodIn_of _ (by decide +kernel)) ggX2_addToFlow_X2_exportAt
set_option maxRecDepth 20000 in
theorem ggX2_addToFlow_X4_addFlow : GoodIn wsX2_addToFlow wsX4_addFlow := goodIn_r _ [107, 11, 12, 108, 109, 110, 111, 39, 40, 41, 9, 42, 112, 113, 114, 45, 115, 91, 87, 88, 89, 90, 135, 136, 130, 131, 132, 133, 134] (by decide +kernel) (by decide +kernel)
set_option maxRecDepth 20000 in
theorem gX2_addToFlow_X4_addFlow : GoodIn wsX2_addToFlow (wsV RX2 94 RX4 yX4_addFlow wsX4_addFlow) := goodIn_app (goodIn_of _ (by decide +kernel)) ggX2_addToFlow_X4_addFlow
set_option maxRecDepth 20000 in
theorem ggX2_addToFlow_X4_flowAt : GoodIn wsX2_addToFlow wsX4_flowAt := goodIn_r _ [42, 12, 135, 136] (by decide +kernel) (by decide +kernel)
set_option maxRecDepth 20000 in
theorem gX2_addToFlow_X4_flowAt : GoodIn wsX2_addToFlow (wsV RX2 98 RX4 yX4_flowAt wsX4_flowAt) := goodIn_app (goodIn_of _ (by decide +kernel)) ggX2_addToFlow_X4_flowAt
theorem dX2_addToFlow_0 : decode cX2_addToFlow 0 = .ok (.aload_n 0, 1) := by decide +kernel
theorem dX2_addToFlow_1 : decode cX2_addToFlow 1 = .ok (.getfield 14, 3) := by decide +kernel
theorem dX2_addToFlow_4 : decode cX2_addToFlow 4 = .ok (.lload_n 1, 1) := by decide +kernel
theorem dX2_addToFlow_5 : decode cX2_addToFlow 5 = .ok (.invokevirtual 87, 3) := by decide +kernel
theorem dX2_addToFlow_8 : decode cX2_addToFlow 8 = .ok (.istore 4, 2) := by decide +kernel
theorem dX2_addToFlow_10 : decode cX2_addToFlow 10 = .ok (.iload 4, 2) := by decide +kernel
theorem dX2_addToFlow_12 : decode cX2_addToFlow 12 = .ok (.iconst (-1), 1) := by decide +kernel
theorem dX2_addToFlow_13 : decode cX2_addToFlow 13 = .ok (.if_icmp .ne 24, 3) := by decide +kernel
theorem dX2_addToFlow_16 : decode cX2_addToFlow 16 = .ok (.aload_n 0, 1) := by decide +kernel
theorem dX2_addToFlow_17 : decode cX2_addToFlow 17 = .ok (.getfield 14, 3) := by decide +kernel
theorem dX2_addToFlow_20 : decode cX2_addToFlow 20 = .ok (.invokevirtual 91, 3) := by decide +kernel
theorem dX2_addToFlow_23 : decode cX2_addToFlow 23 = .ok (.ifCond .eq 14, 3) := by decide +kernel
theorem dX2_addToFlow_26 : decode cX2_addToFlow 26 = .ok (.aload_n 0, 1) := by decide +kernel
theorem dX2_addToFlow_27 : decode cX2_addToFlow 27 = .ok (.aload_n 0, 1) := by decide +kernel
theorem dX2_addToFlow_28 : decode cX2_addToFlow 28 = .ok (.getfield 14, 3) := by decide +kernel
theorem dX2_addToFlow_31 : decode cX2_addToFlow 31 = .ok (.invokevirtual 116, 3) := by decide +kernel
theorem dX2_addToFlow_34 : decode cX2_addToFlow 34 = .ok (.invokevirtual 120, 3) := by decide +kernel
theorem dX2_addToFlow_37 : decode cX2_addToFlow 37 = .ok (.iload 4, 2) := by decide +kernel
theorem dX2_addToFlow_39 : decode cX2_addToFlow 39 = .ok (.iconst (-1), 1) := by decide +kernel
theorem dX2_addToFlow_40 : decode cX2_addToFlow 40 = .ok (.if_icmp .ne 18, 3) := by decide +kernel
theorem dX2_addToFlow_43 : decode cX2_addToFlow 43 = .ok (.aload_n 0, 1) := by decide +kernel
theorem dX2_addToFlow_44 : decode cX2_addToFlow 44 = .ok (.getfield 14, 3) := by decide +kernel
theorem dX2_addToFlow_47 : decode cX2_addToFlow 47 = .ok (.lload_n 1, 1) := by decide +kernel
theorem dX2_addToFlow_48 : decode cX2_addToFlow 48 = .ok (.aload_n 0, 1) := by decide +kernel
theorem dX2_addToFlow_49 : decode cX2_addToFlow 49 = .ok (.getfield 23, 3) := by decide +kernel
theorem dX2_addToFlow_52 : decode cX2_addToFlow 52 = .ok (.invokevirtual 94, 3) := by decide +kernel
theorem dX2_addToFlow_55 : decode cX2_addToFlow 55 = .ok (.goto 12, 3) := by decide +kernel
theorem dX2_addToFlow_58 : decode cX2_addToFlow 58 = .ok (.aload_n 0, 1) := by decide +kernel
theorem dX2_addToFlow_59 : decode cX2_addToFlow 59 = .ok (.getfield 14, 3) := by decide +kernel
theorem dX2_addToFlow_62 : decode cX2_addToFlow 62 = .ok (.iload 4, 2) := by decide +kernel
theorem dX2_addToFlow_64 : decode cX2_addToFlow 64 = .ok (.invokevirtual 98, 3) := by decide +kernel
theorem dX2_addToFlow_67 : decode cX2_addToFlow 67 = .ok (.astore 5, 2) := by decide +kernel
theorem dX2_addToFlow_69 : decode cX2_addToFlow 69 = .ok (.aload 5, 2) := by decide +kernel
theorem dX2_addToFlow_71 : decode cX2_addToFlow 71 = .ok (.dup, 1) := by decide +kernel
theorem dX2_addToFlow_72 : decode cX2_addToFlow 72 = .ok (.getfield 102, 3) := by decide +kernel
theorem dX2_addToFlow_75 : decode cX2_addToFlow 75 = .ok (.lconst 1, 1) := by decide +kernel
theorem dX2_addToFlow_76 : decode cX2_addToFlow 76 = .ok (.ladd, 1) := by decide +kernel
theorem dX2_addToFlow_77 : decode cX2_addToFlow 77 = .ok (.putfield 102, 3) := by decide +kernel
theorem dX2_addToFlow_80 : decode cX2_addToFlow 80 = .ok (.aload 5, 2) := by decide +kernel
theorem dX2_addToFlow_82 : decode cX2_addToFlow 82 = .ok (.dup, 1) := by decide +kernel
theorem dX2_addToFlow_83 : decode cX2_addToFlow 83 = .ok (.getfield 107, 3) := by decide +kernel
theorem dX2_addToFlow_86 : decode cX2_addToFlow 86 = .ok (.iload_n 3, 1) := by decide +kernel
theorem dX2_addToFlow_87 : decode cX2_addToFlow 87 = .ok (.i2l, 1) := by decide +kernel
theorem dX2_addToFlow_88 : decode cX2_addToFlow 88 = .ok (.ladd, 1) := by decide +kernel
theorem dX2_addToFlow_89 : decode cX2_addToFlow 89 = .ok (.putfield 107, 3) := by decide +kernel
theorem dX2_addToFlow_92 : decode cX2_addToFlow 92 = .ok (.aload 5, 2) := by decide +kernel
theorem dX2_addToFlow_94 : decode cX2_addToFlow 94 = .ok (.aload_n 0, 1) := by decide +kernel
theorem dX2_addToFlow_95 : decode cX2_addToFlow 95 = .ok (.getfield 23, 3) := by decide +kernel
theorem dX2_addToFlow_98 : decode cX2_addToFlow 98 = .ok (.putfield 123, 3) := by decide +kernel
theorem dX2_addToFlow_101 : decode cX2_addToFlow 101 = .ok (.return_, 1) := by decide +kernel
set_option maxRecDepth 20000 in
theorem ggX2_exportAt_X4_removeAt : GoodIn wsX2_exportAt wsX4_removeAt := goodIn_r _ [13, 14, 15, 16, 17, 18, 12, 19, 104, 105] (by decide +kernel) (by decide +kernel)
set_option maxRecDepth 20000 in
theorem gX2_exportAt_X4_removeAt : GoodIn wsX2_exportAt (wsV RX2 126 RX4 yX4_removeAt wsX4_removeAt) := goodIn_app (goodIn_of _ (by decide +kernel)) ggX2_exportAt_X4_removeAt
set_option maxRecDepth 20000 in
theorem ggX2_exportAt_X3_partOf : GoodIn wsX2_exportAt wsX3_partOf := goodIn_ca (goodIn_r _ [23, 24, 25] (by decide +kernel) (by decide +kernel)) (goodIn_sub (fun _ h => List.mem_cons_of_mem _ (List.mem_append_left _ (List.mem_append_right _ h))) (by decide +kernel))
set_option maxRecDepth 20000 in
theorem gX2_exportAt_X3_partOf : GoodIn wsX2_exportAt (va_wsS RX2 132 yX3_partOf wsX3_partOf) := goodIn_app (goodIn_of _ (by decide +kernel)) ggX2_exportAt_X3_partOf
set_option maxRecDepth 20000 in
theorem ggX2_exportAt_X1_templateOf : GoodIn wsX2_exportAt wsX1_templateOf := goodIn_ca (goodIn_r _ [30, 31, 106, 107, 108, 109, 110, 111] (by decide +kernel) (by decide +kernel)) (goodIn_sub (fun _ h => List.mem_cons_of_mem _ (List.mem_append_left _ (List.mem_append_right _ h))) (by decide +kernel))
set_option maxRecDepth 20000 in
theorem gX2_exportAt_X1_templateOf : GoodIn wsX2_exportAt (wsV RX2 136 RX1 yX1_templateOf wsX1_templateOf) := goodIn_app (goodIn_of _ (by decide +kernel)) ggX2_exportAt_X1_templateOf
set_option maxRecDepth 20000 in
theorem ggX2_exportAt_X1_effective : GoodIn wsX2_exportAt wsX1_effective := goodIn_r _ [35, 36, 106, 107, 108, 109, 110, 111] (by decide +kernel) (by decide +kernel)
set_option maxRecDepth 20000 in
theorem gX2_exportAt_X1_effective : GoodIn wsX2_exportAt (wsV RX2 139 RX1 yX1_effective wsX1_effective) := goodIn_app (goodIn_of _ (by decide +kernel)) ggX2_exportAt_X1_effective
set_option maxRecDepth 20000 in
theorem ggX2_exportAt_X2_bitsOfInverse : GoodIn wsX2_exportAt wsX2_bitsOfInverse := goodIn_ca (goodIn_r _ [40, 41] (by decide +kernel) (by decide +kernel)) (goodIn_sub (fun _ h => List.mem_cons_of_mem _ (List.mem_append_right _ h)) (by decide +kernel))
set_option maxRecDepth 20000 in
theorem gX2_exportAt_X2_bitsOfInverse : GoodIn wsX2_exportAt (va_wsS RX2 146 yX2_bitsOfInverse wsX2_bitsOfInverse) := goodIn_app (goodIn_of _ (by decide +kernel)) ggX2_exportAt_X2_bitsOfInverse
set_option maxRecDepth 20000 in
theorem ggX2_exportAt_X8_addRecord : GoodIn wsX2_exportAt wsX8_addRecord := goodIn_ca (goodIn_r _ [46, 47, 48, 49, 50, 51, 52, 53, 33, 34, 29, 35, 36, 54, 55, 56, 57, 58, 59, 60, 61, 62, 63, 22, 64, 65, 66, 67, 68, 69, 70, 21, 23, 24, 25, 71, 72, 73, 74, 75, 76, 77, 78, 79, 80, 81, 112, 113, 114, 115, 116, 117, 118, 119, 120, 121, 100, 101, 102, 103, 106, 107, 108, 109, 110, 111, 95, 96, 97, 98, 99, 122, 123] (by decide +kernel) (by decide +kernel)) (goodIn_sub (fun _ h => List.mem_cons_of_mem _ (List.mem_append_left _ (List.mem_append_right _ h))) (by decide +kernel))
set_option maxRecDepth 20000 in
theorem gX2_exportAt_X8_addRecord : GoodIn wsX2_exportAt (wsV RX2 149 RX8 yX8_addRecord wsX8_addRecord) := goodIn_app (goodIn_of _ (by decide +kernel)) ggX2_exportAt_X8_addRecord
theorem dX2_exportAt_0 : decode cX2_exportAt 0 = .ok (.aload_n 0, 1) := by decide +kernel
theorem dX2_exportAt_1 : decode cX2_exportAt 1 = .ok (.getfield 14, 3) := by decide +kernel
theorem dX2_exportAt_4 : decode cX2_exportAt 4 = .ok (.iload_n 1, 1) := by decide +kernel
theorem dX2_exportAt_5 : decode cX2_exportAt 5 = .ok (.invokevirtual 126, 3) := by decide +kernel
theorem dX2_exportAt_8 : decode cX2_exportAt 8 = .ok (.astore_n 2, 1) := by decide +kernel
theorem dX2_exportAt_9 : decode cX2_exportAt 9 = .ok (.aload_n 0, 1) := by decide +kernel
theorem dX2_exportAt_10 : decode cX2_exportAt 10 = .ok (.getfield 53, 3) := by decide +kernel
theorem dX2_exportAt_13 : decode cX2_exportAt 13 = .ok (.aload_n 2, 1) := by decide +kernel
theorem dX2_exportAt_14 : decode cX2_exportAt 14 = .ok (.getfield 129, 3) := by decide +kernel
theorem dX2_exportAt_17 : decode cX2_exportAt 17 = .ok (.iconst 3, 1) := by decide +kernel
theorem dX2_exportAt_18 : decode cX2_exportAt 18 = .ok (.invokestatic 132, 3) := by decide +kernel
theorem dX2_exportAt_21 : decode cX2_exportAt 21 = .ok (.invokevirtual 136, 3) := by decide +kernel
theorem dX2_exportAt_24 : decode cX2_exportAt 24 = .ok (.istore_n 3, 1) := by decide +kernel
theorem dX2_exportAt_25 : decode cX2_exportAt 25 = .ok (.aload_n 0, 1) := by decide +kernel
theorem dX2_exportAt_26 : decode cX2_exportAt 26 = .ok (.dup, 1) := by decide +kernel
theorem dX2_exportAt_27 : decode cX2_exportAt 27 = .ok (.getfield 37, 3) := by decide +kernel
theorem dX2_exportAt_30 : decode cX2_exportAt 30 = .ok (.iconst 1, 1) := by decide +kernel
theorem dX2_exportAt_31 : decode cX2_exportAt 31 = .ok (.iadd, 1) := by decide +kernel
theorem dX2_exportAt_32 : decode cX2_exportAt 32 = .ok (.putfield 37, 3) := by decide +kernel
theorem dX2_exportAt_35 : decode cX2_exportAt 35 = .ok (.aload_n 0, 1) := by decide +kernel
theorem dX2_exportAt_36 : decode cX2_exportAt 36 = .ok (.getfield 53, 3) := by decide +kernel
theorem dX2_exportAt_39 : decode cX2_exportAt 39 = .ok (.iload_n 3, 1) := by decide +kernel
theorem dX2_exportAt_40 : decode cX2_exportAt 40 = .ok (.invokevirtual 139, 3) := by decide +kernel
theorem dX2_exportAt_43 : decode cX2_exportAt 43 = .ok (.getfield 143, 3) := by decide +kernel
theorem dX2_exportAt_46 : decode cX2_exportAt 46 = .ok (.ifCond .ne 16, 3) := by decide +kernel
theorem dX2_exportAt_49 : decode cX2_exportAt 49 = .ok (.aload_n 0, 1) := by decide +kernel
theorem dX2_exportAt_50 : decode cX2_exportAt 50 = .ok (.dup, 1) := by decide +kernel
theorem dX2_exportAt_51 : decode cX2_exportAt 51 = .ok (.getfield 50, 3) := by decide +kernel
theorem dX2_exportAt_54 : decode cX2_exportAt 54 = .ok (.lconst 1, 1) := by decide +kernel
theorem dX2_exportAt_55 : decode cX2_exportAt 55 = .ok (.ladd, 1) := by decide +kernel
theorem dX2_exportAt_56 : decode cX2_exportAt 56 = .ok (.putfield 50, 3) := by decide +kernel
theorem dX2_exportAt_59 : decode cX2_exportAt 59 = .ok (.goto 19, 3) := by decide +kernel
theorem dX2_exportAt_62 : decode cX2_exportAt 62 = .ok (.aload_n 0, 1) := by decide +kernel
theorem dX2_exportAt_63 : decode cX2_exportAt 63 = .ok (.getfield 57, 3) := by decide +kernel
theorem dX2_exportAt_66 : decode cX2_exportAt 66 = .ok (.aload_n 2, 1) := by decide +kernel
theorem dX2_exportAt_67 : decode cX2_exportAt 67 = .ok (.iload_n 3, 1) := by decide +kernel
theorem dX2_exportAt_68 : decode cX2_exportAt 68 = .ok (.aload_n 0, 1) := by decide +kernel
theorem dX2_exportAt_69 : decode cX2_exportAt 69 = .ok (.getfield 27, 3) := by decide +kernel
theorem dX2_exportAt_72 : decode cX2_exportAt 72 = .ok (.invokestatic 146, 3) := by decide +kernel
theorem dX2_exportAt_75 : decode cX2_exportAt 75 = .ok (.invokevirtual 149, 3) := by decide +kernel
theorem dX2_exportAt_78 : decode cX2_exportAt 78 = .ok (.return_, 1) := by decide +kernel
set_option maxRecDepth 20000 in
theorem ggX2_exportAll_X2_exportAt : GoodIn wsX2_exportAll wsX2_exportAt := goodIn_ca (goodIn_ca (goodIn_r _ [7, 1, 8, 9, 10, 11, 12, 13, 14, 15, 16, 17, 18, 19, 20, 21, 22, 23, 24, 25, 26, 27, 28, 29, 30, 31, 32, 33, 34, 35, 36, 37, 38, 39, 40, 41, 42, 43, 44, 6, 45, 46, 47, 48, 49, 50, 51, 52, 53, 54, 55, 56, 57, 58, 59, 60, 61, 62, 63, 64, 65, 66, 67, 68, 69, 70, 71, 72, 73, 74, 75, 76, 77, 78, 79, 80, 81, 82, 83, 84, 85, 86, 87, 88, 89, 90, 91, 92, 93, 94, 95, 96, 97, 98, 99, 102, 103, 104, 105, 106, 107, 108, 109, 110, 100, 101, 111, 112, 113, 114, 115, 116, 117, 118, 119, 120, 121, 122, 123, 124, 125, 126, 127, 128] (by decide +kernel) (by decide +kernel)) (goodIn_sub (fun _ h => List.mem_cons_of_mem _ (List.mem_append_left _ (List.mem_append_right _ h))) (by decide +kernel))) (goodIn_sub (fun _ h => List.mem_cons_of_mem _ (List.mem_append_right _ h)) (by decide +kernel))
set_option maxRecDepth 20000 in
theorem gX2_exportAll_X2_exportAt : GoodIn wsX2_exportAll (wsV RX2 120 RX2 yX2_exportAt wsX2_exportAt) := goodIn_app (goodIn_of _ (by decide +kernel)) ggX2_exportAll_X2_exportAt
theorem dX2_exportAll_0 : decode cX2_exportAll 0 = .ok (.aload_n 0, 1) := by decide +kernel
theorem dX2_exportAll_1 : decode cX2_exportAll 1 = .ok (.getfield 14, 3) := by decide +kernel
theorem dX2_exportAll_4 : decode cX2_exportAll 4 = .ok (.getfield 61, 3) := by decide +kernel
theorem dX2_exportAll_7 : decode cX2_exportAll 7 = .ok (.istore_n 1, 1) := by decide +kernel
theorem dX2_exportAll_8 : decode cX2_exportAll 8 = .ok (.iload_n 1, 1) := by decide +kernel
theorem dX2_exportAll_9 : decode cX2_exportAll 9 = .ok (.ifCond .le 14, 3) := by decide +kernel
theorem dX2_exportAll_12 : decode cX2_exportAll 12 = .ok (.aload_n 0, 1) := by decide +kernel
theorem dX2_exportAll_13 : decode cX2_exportAll 13 = .ok (.iconst 0, 1) := by decide +kernel
theorem dX2_exportAll_14 : decode cX2_exportAll 14 = .ok (.invokevirtual 120, 3) := by decide +kernel
theorem dX2_exportAll_17 : decode cX2_exportAll 17 = .ok (.iinc 1 (-1), 3) := by decide +kernel
theorem dX2_exportAll_20 : decode cX2_exportAll 20 = .ok (.goto (-12), 3) := by decide +kernel
theorem dX2_exportAll_23 : decode cX2_exportAll 23 = .ok (.return_, 1) := by decide +kernel
set_option maxRecDepth 20000 in
theorem ggX2_exportAllAndSend_X2_exportAll : GoodIn wsX2_exportAllAndSend wsX2_exportAll := goodIn_ca (goodIn_ca (goodIn_r _ [9, 1, 2, 10, 11, 12, 8, 13, 14, 15, 16, 17, 18, 3, 19, 20, 21, 22, 23, 24, 25, 26, 27, 28, 29, 30, 31, 32, 33, 34, 35, 36, 37, 38, 39, 40, 41, 42, 43, 44, 45, 46, 47, 48, 49, 50, 51, 52, 53, 54, 55, 56, 57, 58, 59, 60, 61, 62, 63, 64, 65, 66, 67, 68, 69, 70, 71, 72, 73, 74, 75, 76, 77, 78, 79, 80, 81, 82, 83, 84, 85, 86, 87, 88, 89, 90, 91, 168, 169, 170, 171, 172, 173, 174, 175, 176, 177, 178, 179, 180, 181, 182, 183, 184, 185, 186, 187, 188, 189, 190, 191, 192, 193, 194, 195, 196, 197, 198, 199, 200, 201, 202, 203, 204, 205, 206, 207, 208, 209] (by decide +kernel) (by decide +kernel)) (goodIn_sub (fun _ h => List.mem_cons_of_mem _ (List.mem_append_left _ (List.mem_append_right _ h))) (by decide +kernel))) (goodIn_sub (fun _ h => List.mem_cons_of_mem _ (List.mem_append_right _ h)) (by decide +kernel))
set_option maxRecDepth 20000 in
theorem gX2_exportAllAndSend_X2_exportAll : GoodIn wsX2_exportAllAndSend (wsV RX2 153 RX2 yX2_exportAll wsX2_exportAll) := goodIn_app (goodIn_of _ (by decide +kernel)) ggX2_exportAllAndSend_X2_exportAll
set_option maxRecDepth 20000 in
theorem ggX2_exportAllAndSend_X8_sendPending : GoodIn wsX2_exportAllAndSend wsX8_sendPending := goodIn_ca (goodIn_r _ [95, 57, 58, 59, 96, 97, 61, 98, 99, 100, 55, 101, 102, 103, 104, 105, 106, 107, 108, 109, 110, 111, 112, 113, 114, 115, 116, 85, 86, 87, 88, 89, 90, 91, 117, 118, 119, 120, 121, 122, 123, 124, 125, 126, 127, 128, 60, 63, 44, 45, 40, 46, 47, 129, 130, 131, 132, 133, 134, 135, 136, 137, 64, 65, 66, 67, 68, 69, 70, 81, 82, 83, 84, 138, 139, 140, 141, 142, 143, 144, 145, 146, 147, 148, 149, 150, 151, 152, 153, 154, 155, 156, 157, 158, 159, 160, 161, 162, 163, 164, 165, 166, 167, 198, 199, 200, 201, 202, 203, 204, 205, 206, 207, 188, 189, 190, 191, 208, 209, 210, 211, 212, 192, 193, 194, 195, 196, 197] (by decide +kernel) (by decide +kernel)) (goodIn_sub (fun _ h => List.mem_cons_of_mem _ (List.mem_append_left _ (List.mem_append_right _ h))) (by decide +kernel))
set_option maxRecDepth 20000 in
theorem gX2_exportAllAndSend_X8_sendPending : GoodIn wsX2_exportAllAndSend (wsV RX2 82 RX8 yX8_sendPending wsX8_sendPending) := goodIn_app (goodIn_of _ (by decide +kernel)) ggX2_exportAllAndSend_X8_sendPending
theorem dX2_exportAllAndSend_0 : decode cX2_exportAllAndSend 0 = .ok (.aload_n 0, 1) := by decide +kernel
theorem dX2_exportAllAndSend_1 : decode cX2_exportAllAndSend 1 = .ok (.getfield 14, 3) := by decide +kernel
theorem dX2_exportAllAndSend_4 : decode cX2_exportAllAndSend 4 = .ok (.getfield 61, 3) := by decide +kernel
theorem dX2_exportAllAndSend_7 : decode cX2_exportAllAndSend 7 = .ok (.istore_n 1, 1) := by decide +kernel
theorem dX2_exportAllAndSend_8 : decode cX2_exportAllAndSend 8 = .ok (.aload_n 0, 1) := by decide +kernel
theorem dX2_exportAllAndSend_9 : decode cX2_exportAllAndSend 9 = .ok (.invokevirtual 153, 3) := by decide +kernel
theorem dX2_exportAllAndSend_12 : decode cX2_exportAllAndSend 12 = .ok (.aload_n 0, 1) := by decide +kernel
theorem dX2_exportAllAndSend_13 : decode cX2_exportAllAndSend 13 = .ok (.getfield 57, 3) := by decide +kernel
theorem dX2_exportAllAndSend_16 : decode cX2_exportAllAndSend 16 = .ok (.aload_n 0, 1) := by decide +kernel
theorem dX2_exportAllAndSend_17 : decode cX2_exportAllAndSend 17 = .ok (.getfield 23, 3) := by decide +kernel
theorem dX2_exportAllAndSend_20 : decode cX2_exportAllAndSend 20 = .ok (.invokevirtual 82, 3) := by decide +kernel
theorem dX2_exportAllAndSend_23 : decode cX2_exportAllAndSend 23 = .ok (.iload_n 1, 1) := by decide +kernel
theorem dX2_exportAllAndSend_24 : decode cX2_exportAllAndSend 24 = .ok (.ireturn, 1) := by decide +kernel
set_option maxRecDepth 20000 in
theorem ggX2_tick_X2_exportOld : GoodIn wsX2_tick wsX2_exportOld := goodIn_ca (goodIn_ca (goodIn_r _ [8, 9, 10, 11, 1, 12, 13, 14, 15, 16, 17, 18, 19, 20, 21, 22, 23, 24, 25, 26, 27, 28, 7, 29, 30, 31, 32, 33, 3, 2, 34, 35, 36, 37, 38, 39, 40, 41, 42, 43, 44, 45, 46, 47, 48, 49, 50, 51, 52, 53, 54, 55, 56, 57, 58, 59, 60, 61, 62, 63, 64, 65, 66, 67, 68, 69, 70, 71, 72, 73, 74, 75, 76, 77, 78, 79, 80, 81, 82, 83, 84, 85, 86, 87, 88, 89, 90, 91, 92, 93, 94, 95, 96, 97, 98, 99, 182, 183, 184, 185, 186, 187, 188, 189, 190, 191, 192, 193, 194, 195, 196, 197, 198, 199, 200, 201, 202, 203, 204, 205, 206, 207, 208, 209, 210, 211, 212, 213, 214, 215, 216, 217, 218, 219, 220, 221, 222, 223] (by decide +kernel) (by decide +kernel)) (goodIn_sub (fun _ h => List.mem_cons_of_mem _ (List.mem_append_left _ (List.mem_append_right _ h))) (by decide +kernel))) (goodIn_sub (fun _ h => List.mem_cons_of_mem _ (List.mem_append_right _ h)) (by decide +kernel))
set_option maxRecDepth 20000 in
theorem gX2_tick_X2_exportOld : GoodIn wsX2_tick (wsV RX2 156 RX2 yX2_exportOld wsX2_exportOld) := goodIn_app (goodIn_of _ (by decide +kernel)) ggX2_tick_X2_exportOld
set_option maxRecDepth 20000 in
theorem ggX2_tick_X2_endInterval : GoodIn wsX2_tick wsX2_endInterval := goodIn_ca (goodIn_r _ [103, 31, 104, 9, 105, 2, 14, 15, 16, 17, 18, 19, 182, 183, 184, 185, 186, 187, 188, 189, 190, 191, 192, 193, 194, 202, 203, 204, 205, 206, 207] (by decide +kernel) (by decide +kernel)) (goodIn_sub (fun _ h => List.mem_cons_of_mem _ (List.mem_append_left _ (List.mem_append_right _ h))) (by decide +kernel))
set_option maxRecDepth 20000 in
theorem gX2_tick_X2_endInterval : GoodIn wsX2_tick (wsV RX2 159 RX2 yX2_endInterval wsX2_endInterval) := goodIn_app (goodIn_of _ (by decide +kernel)) ggX2_tick_X2_endInterval
set_option maxRecDepth 20000 in
theorem ggX2_tick_X2_exportAll : GoodIn wsX2_tick wsX2_exportAll := goodIn_ca (goodIn_ca (goodIn_r _ [109, 10, 11, 26, 27, 28, 7, 29, 9, 30, 31, 32, 33, 3, 2, 34, 35, 36, 23, 37, 38, 25, 39, 21, 22, 24, 40, 41, 42, 43, 44, 45, 46, 47, 48, 17, 49, 50, 51, 52, 53, 54, 55, 56, 57, 58, 59, 60, 61, 62, 63, 64, 65, 66, 67, 68, 69, 70, 71, 72, 73, 74, 75, 76, 77, 78, 79, 80, 81, 82, 83, 84, 85, 86, 87, 88, 89, 90, 91, 92, 93, 94, 95, 96, 97, 98, 99, 182, 183, 184, 185, 186, 187, 188, 189, 190, 191, 192, 193, 194, 195, 196, 197, 198, 199, 200, 201, 208, 209, 210, 211, 202, 203, 204, 205, 206, 207, 212, 213, 214, 215, 216, 217, 218, 219, 220, 221, 222, 223] (by decide +kernel) (by decide +kernel)) (goodIn_sub (fun _ h => List.mem_cons_of_mem _ (List.mem_append_left _ (List.mem_append_right _ h))) (by decide +kernel))) (goodIn_sub (fun _ h => List.mem_cons_of_mem _ (List.mem_append_right _ h)) (by decide +kernel))
set_option maxRecDepth 20000 in
theorem gX2_tick_X2_exportAll : GoodIn wsX2_tick (wsV RX2 153 RX2 yX2_exportAll wsX2_exportAll) := goodIn_app (goodIn_of _ (by decide +kernel)) ggX2_tick_X2_exportAll
set_option maxRecDepth 20000 in
theorem ggX2_tick_X8_sendPending : GoodIn wsX2_tick wsX8_sendPending := goodIn_ca (goodIn_r _ [113, 65, 66, 67, 114, 115, 69, 116, 117, 118, 63, 119, 120, 121, 122, 123, 124, 125, 126, 127, 128, 129, 130, 131, 132, 133, 134, 93, 94, 95, 96, 97, 98, 99, 135, 136, 137, 138, 139, 140, 141, 142, 143, 144, 145, 146, 68, 71, 52, 53, 17, 54, 55, 147, 15, 16, 18, 19, 148, 149, 150, 151, 72, 73, 74, 75, 76, 77, 78, 89, 90, 91, 92, 152, 153, 154, 155, 156, 157, 158, 159, 160, 161, 162, 163, 164, 165, 166, 167, 168, 169, 170, 171, 172, 173, 174, 175, 176, 177, 178, 179, 180, 181, 212, 213, 214, 215, 216, 217, 218, 219, 220, 221, 208, 209, 210, 211, 222, 223, 224, 225, 226, 202, 203, 204, 205, 206, 207] (by decide +kernel) (by decide +kernel)) (goodIn_sub (fun _ h => List.mem_cons_of_mem _ (List.mem_append_left _ (List.mem_append_right _ h))) (by decide +kernel))
set_option maxRecDepth 20000 in
theorem gX2_tick_X8_sendPending : GoodIn wsX2_tick (wsV RX2 82 RX8 yX8_sendPending wsX8_sendPending) := goodIn_app (goodIn_of _ (by decide +kernel)) ggX2_tick_X8_sendPending
theorem dX2_tick_0 : decode cX2_tick 0 = .ok (.aload_n 0, 1) := by decide +kernel
theorem dX2_tick_1 : decode cX2_tick 1 = .ok (.dup, 1) := by decide +kernel
theorem dX2_tick_2 : decode cX2_tick 2 = .ok (.getfield 23, 3) := by decide +kernel
theorem dX2_tick_5 : decode cX2_tick 5 = .ok (.iconst 1, 1) := by decide +kernel
theorem dX2_tick_6 : decode cX2_tick 6 = .ok (.iadd, 1) := by decide +kernel
theorem dX2_tick_7 : decode cX2_tick 7 = .ok (.putfield 23, 3) := by decide +kernel
theorem dX2_tick_10 : decode cX2_tick 10 = .ok (.aload_n 0, 1) := by decide +kernel
theorem dX2_tick_11 : decode cX2_tick 11 = .ok (.invokevirtual 156, 3) := by decide +kernel
theorem dX2_tick_14 : decode cX2_tick 14 = .ok (.aload_n 0, 1) := by decide +kernel
theorem dX2_tick_15 : decode cX2_tick 15 = .ok (.getfield 23, 3) := by decide +kernel
theorem dX2_tick_18 : decode cX2_tick 18 = .ok (.bipush 100, 2) := by decide +kernel
theorem dX2_tick_20 : decode cX2_tick 20 = .ok (.irem, 1) := by decide +kernel
theorem dX2_tick_21 : decode cX2_tick 21 = .ok (.ifCond .ne 10, 3) := by decide +kernel
theorem dX2_tick_24 : decode cX2_tick 24 = .ok (.aload_n 0, 1) := by decide +kernel
theorem dX2_tick_25 : decode cX2_tick 25 = .ok (.invokevirtual 159, 3) := by decide +kernel
theorem dX2_tick_28 : decode cX2_tick 28 = .ok (.goto 7, 3) := by decide +kernel
theorem dX2_tick_31 : decode cX2_tick 31 = .ok (.aload_n 0, 1) := by decide +kernel
theorem dX2_tick_32 : decode cX2_tick 32 = .ok (.getfield 27, 3) := by decide +kernel
theorem dX2_tick_35 : decode cX2_tick 35 = .ok (.istore_n 1, 1) := by decide +kernel
theorem dX2_tick_36 : decode cX2_tick 36 = .ok (.iload_n 1, 1) := by decide +kernel
theorem dX2_tick_37 : decode cX2_tick 37 = .ok (.aload_n 0, 1) := by decide +kernel
theorem dX2_tick_38 : decode cX2_tick 38 = .ok (.getfield 27, 3) := by decide +kernel
theorem dX2_tick_41 : decode cX2_tick 41 = .ok (.if_icmp .eq 12, 3) := by decide +kernel
theorem dX2_tick_44 : decode cX2_tick 44 = .ok (.aload_n 0, 1) := by decide +kernel
theorem dX2_tick_45 : decode cX2_tick 45 = .ok (.invokevirtual 153, 3) := by decide +kernel
theorem dX2_tick_48 : decode cX2_tick 48 = .ok (.aload_n 0, 1) := by decide +kernel
theorem dX2_tick_49 : decode cX2_tick 49 = .ok (.iload_n 1, 1) := by decide +kernel
theorem dX2_tick_50 : decode cX2_tick 50 = .ok (.putfield 27, 3) := by decide +kernel
theorem dX2_tick_53 : decode cX2_tick 53 = .ok (.aload_n 0, 1) := by decide +kernel
theorem dX2_tick_54 : decode cX2_tick 54 = .ok (.getfield 57, 3) := by decide +kernel
theorem dX2_tick_57 : decode cX2_tick 57 = .ok (.aload_n 0, 1) := by decide +kernel
theorem dX2_tick_58 : decode cX2_tick 58 = .ok (.getfield 23, 3) := by decide +kernel
theorem dX2_tick_61 : decode cX2_tick 61 = .ok (.invokevirtual 82, 3) := by decide +kernel
theorem dX2_tick_64 : decode cX2_tick 64 = .ok (.return_, 1) := by decide +kernel
set_option maxRecDepth 20000 in
theorem ggX2_exportOld_X1_get : GoodIn wsX2_exportOld wsX1_get := goodIn_ca (goodIn_r _ [11, 12, 116, 117, 118, 119, 120, 121] (by decide +kernel) (by decide +kernel)) (goodIn_sub (fun _ h => List.mem_cons_of_mem _ (List.mem_append_left _ (List.mem_append_right _ h))) (by decide +kernel))
set_option maxRecDepth 20000 in
theorem gX2_exportOld_X1_get : GoodIn wsX2_exportOld (wsV RX2 64 RX1 yX1_get wsX1_get) := goodIn_app (goodIn_of _ (by decide +kernel)) ggX2_exportOld_X1_get
set_option maxRecDepth 20000 in
theorem ggX2_exportOld_X4_flowAt : GoodIn wsX2_exportOld wsX4_flowAt := goodIn_r _ [17, 18, 109, 110] (by decide +kernel) (by decide +kernel)
set_option maxRecDepth 20000 in
theorem gX2_exportOld_X4_flowAt : GoodIn wsX2_exportOld (wsV RX2 98 RX4 yX4_flowAt wsX4_flowAt) := goodIn_app (goodIn_of _ (by decide +kernel)) ggX2_exportOld_X4_flowAt
set_option maxRecDepth 20000 in
theorem ggX2_exportOld_X2_exportAt : GoodIn wsX2_exportOld wsX2_exportAt := goodIn_ca (goodIn_ca (goodIn_r _ [23, 2, 1, 24, 25, 26, 27, 28, 29, 30, 31, 32, 16, 33, 34, 18, 35, 14, 15, 17, 36, 37, 38, 39, 40, 41, 42, 43, 44, 10, 45, 46, 47, 48, 49, 50, 51, 52, 53, 22, 54, 55, 56, 57, 58, 59, 60, 61, 62, 63, 64, 65, 66, 67, 68, 69, 70, 71, 72, 73, 74, 75, 76, 77, 78, 79, 80, 81, 82, 83, 84, 85, 86, 87, 88, 89, 90, 91, 92, 93, 94, 95, 96, 97, 98, 99, 100, 101, 102, 103, 104, 105, 106, 107, 108, 111, 112, 113, 114, 115, 122, 123, 124, 125, 109, 110, 116, 117, 118, 119, 120, 121, 126, 127, 128, 129, 130, 131, 132, 133, 134, 135, 136, 137] (by decide +kernel) (by decide +kernel)) (goodIn_sub (fun _ h => List.mem_cons_of_mem _ (List.mem_append_left _ (List.mem_append_right _ h))) (by decide +kernel))) (goodIn_sub (fun _ h => List.mem_cons_of_mem _ (List.mem_append_right _ h)) (by decide +kernel))
set_option maxRecDepth 20000 in
theorem gX2_exportOld_X2_exportAt : GoodIn wsX2_exportOld (wsV RX2 120 RX2 yX2_exportAt wsX2_exportAt) := goodIn_app (goodIn_of _ (by decide +kernel)) ggX2_exportOld_X2_exportAt
theorem dX2_exportOld_0 : decode cX2_exportOld 0 = .ok (.aload_n 0, 1) := by decide +kernel
theorem dX2_exportOld_1 : decode cX2_exportOld 1 = .ok (.getfield 53, 3) := by decide +kernel
theorem dX2_exportOld_4 : decode cX2_exportOld 4 = .ok (.iconst 2, 1) := by decide +kernel
theorem dX2_exportOld_5 : decode cX2_exportOld 5 = .ok (.invokevirtual 64, 3) := by decide +kernel
theorem dX2_exportOld_8 : decode cX2_exportOld 8 = .ok (.istore_n 1, 1) := by decide +kernel
theorem dX2_exportOld_9 : decode cX2_exportOld 9 = .ok (.aload_n 0, 1) := by decide +kernel
theorem dX2_exportOld_10 : decode cX2_exportOld 10 = .ok (.getfield 53, 3) := by decide +kernel
theorem dX2_exportOld_13 : decode cX2_exportOld 13 = .ok (.iconst 3, 1) := by decide +kernel
theorem dX2_exportOld_14 : decode cX2_exportOld 14 = .ok (.invokevirtual 64, 3) := by decide +kernel
theorem dX2_exportOld_17 : decode cX2_exportOld 17 = .ok (.istore_n 2, 1) := by decide +kernel
theorem dX2_exportOld_18 : decode cX2_exportOld 18 = .ok (.iconst 0, 1) := by decide +kernel
theorem dX2_exportOld_19 : decode cX2_exportOld 19 = .ok (.istore_n 3, 1) := by decide +kernel
theorem dX2_exportOld_20 : decode cX2_exportOld 20 = .ok (.aload_n 0, 1) := by decide +kernel
theorem dX2_exportOld_21 : decode cX2_exportOld 21 = .ok (.getfield 14, 3) := by decide +kernel
theorem dX2_exportOld_24 : decode cX2_exportOld 24 = .ok (.getfield 61, 3) := by decide +kernel
theorem dX2_exportOld_27 : decode cX2_exportOld 27 = .ok (.istore 4, 2) := by decide +kernel
theorem dX2_exportOld_29 : decode cX2_exportOld 29 = .ok (.iload 4, 2) := by decide +kernel
theorem dX2_exportOld_31 : decode cX2_exportOld 31 = .ok (.ifCond .le 58, 3) := by decide +kernel
theorem dX2_exportOld_34 : decode cX2_exportOld 34 = .ok (.aload_n 0, 1) := by decide +kernel
theorem dX2_exportOld_35 : decode cX2_exportOld 35 = .ok (.getfield 14, 3) := by decide +kernel
theorem dX2_exportOld_38 : decode cX2_exportOld 38 = .ok (.iload_n 3, 1) := by decide +kernel
theorem dX2_exportOld_39 : decode cX2_exportOld 39 = .ok (.invokevirtual 98, 3) := by decide +kernel
theorem dX2_exportOld_42 : decode cX2_exportOld 42 = .ok (.astore 5, 2) := by decide +kernel
theorem dX2_exportOld_44 : decode cX2_exportOld 44 = .ok (.aload_n 0, 1) := by decide +kernel
theorem dX2_exportOld_45 : decode cX2_exportOld 45 = .ok (.getfield 23, 3) := by decide +kernel
theorem dX2_exportOld_48 : decode cX2_exportOld 48 = .ok (.aload 5, 2) := by decide +kernel
theorem dX2_exportOld_50 : decode cX2_exportOld 50 = .ok (.getfield 162, 3) := by decide +kernel
theorem dX2_exportOld_53 : decode cX2_exportOld 53 = .ok (.isub, 1) := by decide +kernel
theorem dX2_exportOld_54 : decode cX2_exportOld 54 = .ok (.iload_n 1, 1) := by decide +kernel
theorem dX2_exportOld_55 : decode cX2_exportOld 55 = .ok (.if_icmp .ge 17, 3) := by decide +kernel
theorem dX2_exportOld_58 : decode cX2_exportOld 58 = .ok (.aload_n 0, 1) := by decide +kernel
theorem dX2_exportOld_59 : decode cX2_exportOld 59 = .ok (.getfield 23, 3) := by decide +kernel
theorem dX2_exportOld_62 : decode cX2_exportOld 62 = .ok (.aload 5, 2) := by decide +kernel
theorem dX2_exportOld_64 : decode cX2_exportOld 64 = .ok (.getfield 123, 3) := by decide +kernel
theorem dX2_exportOld_67 : decode cX2_exportOld 67 = .ok (.isub, 1) := by decide +kernel
theorem dX2_exportOld_68 : decode cX2_exportOld 68 = .ok (.iload_n 2, 1) := by decide +kernel
theorem dX2_exportOld_69 : decode cX2_exportOld 69 = .ok (.if_icmp .lt 11, 3) := by decide +kernel
theorem dX2_exportOld_72 : decode cX2_exportOld 72 = .ok (.aload_n 0, 1) := by decide +kernel
theorem dX2_exportOld_73 : decode cX2_exportOld 73 = .ok (.iload_n 3, 1) := by decide +kernel
theorem dX2_exportOld_74 : decode cX2_exportOld 74 = .ok (.invokevirtual 120, 3) := by decide +kernel
theorem dX2_exportOld_77 : decode cX2_exportOld 77 = .ok (.goto 6, 3) := by decide +kernel
theorem dX2_exportOld_80 : decode cX2_exportOld 80 = .ok (.iinc 3 1, 3) := by decide +kernel
theorem dX2_exportOld_83 : decode cX2_exportOld 83 = .ok (.iinc 4 (-1), 3) := by decide +kernel
theorem dX2_exportOld_86 : decode cX2_exportOld 86 = .ok (.goto (-57), 3) := by decide +kernel
theorem dX2_exportOld_89 : decode cX2_exportOld 89 = .ok (.return_, 1) := by decide +kernel
set_option maxRecDepth 20000 in
theorem ggX2_endInterval_X1_get : GoodIn wsX2_endInterval wsX1_get := goodIn_ca (goodIn_r _ [10, 11, 25, 26, 27, 28, 29, 30] (by decide +kernel) (by decide +kernel)) (goodIn_sub (fun _ h => List.mem_cons_of_mem _ (List.mem_append_right _ h)) (by decide +kernel))
set_option maxRecDepth 20000 in
theorem gX2_endInterval_X1_get : GoodIn wsX2_endInterval (wsV RX2 64 RX1 yX1_get wsX1_get) := goodIn_app (goodIn_of _ (by decide +kernel)) ggX2_endInterval_X1_get
theorem dX2_endInterval_0 : decode cX2_endInterval 0 = .ok (.aload_n 0, 1) := by decide +kernel
theorem dX2_endInterval_1 : decode cX2_endInterval 1 = .ok (.getfield 37, 3) := by decide +kernel
theorem dX2_endInterval_4 : decode cX2_endInterval 4 = .ok (.aload_n 0, 1) := by decide +kernel
theorem dX2_endInterval_5 : decode cX2_endInterval 5 = .ok (.getfield 40, 3) := by decide +kernel
theorem dX2_endInterval_8 : decode cX2_endInterval 8 = .ok (.isub, 1) := by decide +kernel
theorem dX2_endInterval_9 : decode cX2_endInterval 9 = .ok (.istore_n 1, 1) := by decide +kernel
theorem dX2_endInterval_10 : decode cX2_endInterval 10 = .ok (.aload_n 0, 1) := by decide +kernel
theorem dX2_endInterval_11 : decode cX2_endInterval 11 = .ok (.aload_n 0, 1) := by decide +kernel
theorem dX2_endInterval_12 : decode cX2_endInterval 12 = .ok (.getfield 37, 3) := by decide +kernel
theorem dX2_endInterval_15 : decode cX2_endInterval 15 = .ok (.putfield 40, 3) := by decide +kernel
theorem dX2_endInterval_18 : decode cX2_endInterval 18 = .ok (.aload_n 0, 1) := by decide +kernel
theorem dX2_endInterval_19 : decode cX2_endInterval 19 = .ok (.getfield 53, 3) := by decide +kernel
theorem dX2_endInterval_22 : decode cX2_endInterval 22 = .ok (.iconst 1, 1) := by decide +kernel
theorem dX2_endInterval_23 : decode cX2_endInterval 23 = .ok (.invokevirtual 64, 3) := by decide +kernel
theorem dX2_endInterval_26 : decode cX2_endInterval 26 = .ok (.istore_n 2, 1) := by decide +kernel
theorem dX2_endInterval_27 : decode cX2_endInterval 27 = .ok (.aload_n 0, 1) := by decide +kernel
theorem dX2_endInterval_28 : decode cX2_endInterval 28 = .ok (.getfield 33, 3) := by decide +kernel
theorem dX2_endInterval_31 : decode cX2_endInterval 31 = .ok (.ifCond .eq 25, 3) := by decide +kernel
theorem dX2_endInterval_34 : decode cX2_endInterval 34 = .ok (.iload_n 1, 1) := by decide +kernel
theorem dX2_endInterval_35 : decode cX2_endInterval 35 = .ok (.iload_n 2, 1) := by decide +kernel
theorem dX2_endInterval_36 : decode cX2_endInterval 36 = .ok (.if_icmp .le 20, 3) := by decide +kernel
theorem dX2_endInterval_39 : decode cX2_endInterval 39 = .ok (.aload_n 0, 1) := by decide +kernel
theorem dX2_endInterval_40 : decode cX2_endInterval 40 = .ok (.getfield 27, 3) := by decide +kernel
theorem dX2_endInterval_43 : decode cX2_endInterval 43 = .ok (.sipush 512, 3) := by decide +kernel
theorem dX2_endInterval_46 : decode cX2_endInterval 46 = .ok (.if_icmp .gt 10, 3) := by decide +kernel
theorem dX2_endInterval_49 : decode cX2_endInterval 49 = .ok (.iconst 2, 1) := by decide +kernel
theorem dX2_endInterval_50 : decode cX2_endInterval 50 = .ok (.aload_n 0, 1) := by decide +kernel
theorem dX2_endInterval_51 : decode cX2_endInterval 51 = .ok (.getfield 27, 3) := by decide +kernel
theorem dX2_endInterval_54 : decode cX2_endInterval 54 = .ok (.imul, 1) := by decide +kernel
theorem dX2_endInterval_55 : decode cX2_endInterval 55 = .ok (.ireturn, 1) := by decide +kernel
theorem dX2_endInterval_56 : decode cX2_endInterval 56 = .ok (.aload_n 0, 1) := by decide +kernel
theorem dX2_endInterval_57 : decode cX2_endInterval 57 = .ok (.getfield 33, 3) := by decide +kernel
theorem dX2_endInterval_60 : decode cX2_endInterval 60 = .ok (.ifCond .eq 25, 3) := by decide +kernel
theorem dX2_endInterval_63 : decode cX2_endInterval 63 = .ok (.iconst 2, 1) := by decide +kernel
theorem dX2_endInterval_64 : decode cX2_endInterval 64 = .ok (.iload_n 1, 1) := by decide +kernel
theorem dX2_endInterval_65 : decode cX2_endInterval 65 = .ok (.imul, 1) := by decide +kernel
theorem dX2_endInterval_66 : decode cX2_endInterval 66 = .ok (.iload_n 2, 1) := by decide +kernel
theorem dX2_endInterval_67 : decode cX2_endInterval 67 = .ok (.if_icmp .ge 18, 3) := by decide +kernel
theorem dX2_endInterval_70 : decode cX2_endInterval 70 = .ok (.aload_n 0, 1) := by decide +kernel
theorem dX2_endInterval_71 : decode cX2_endInterval 71 = .ok (.getfield 27, 3) := by decide +kernel
theorem dX2_endInterval_74 : decode cX2_endInterval 74 = .ok (.iconst 2, 1) := by decide +kernel
theorem dX2_endInterval_75 : decode cX2_endInterval 75 = .ok (.if_icmp .lt 10, 3) := by decide +kernel
theorem dX2_endInterval_78 : decode cX2_endInterval 78 = .ok (.aload_n 0, 1) := by decide +kernel
theorem dX2_endInterval_79 : decode cX2_endInterval 79 = .ok (.getfield 27, 3) := by decide +kernel
theorem dX2_endInterval_82 : decode cX2_endInterval 82 = .ok (.iconst 2, 1) := by decide +kernel
theorem dX2_endInterval_83 : decode cX2_endInterval 83 = .ok (.idiv, 1) := by decide +kernel
theorem dX2_endInterval_84 : decode cX2_endInterval 84 = .ok (.ireturn, 1) := by decide +kernel
theorem dX2_endInterval_85 : decode cX2_endInterval 85 = .ok (.aload_n 0, 1) := by decide +kernel
theorem dX2_endInterval_86 : decode cX2_endInterval 86 = .ok (.getfield 27, 3) := by decide +kernel
theorem dX2_endInterval_89 : decode cX2_endInterval 89 = .ok (.ireturn, 1) := by decide +kernel
theorem dX2_bitsOfInverse_0 : decode cX2_bitsOfInverse 0 = .ok (.iload_n 0, 1) := by decide +kernel
theorem dX2_bitsOfInverse_1 : decode cX2_bitsOfInverse 1 = .ok (.iconst 1, 1) := by decide +kernel
theorem dX2_bitsOfInverse_2 : decode cX2_bitsOfInverse 2 = .ok (.if_icmp .ge 5, 3) := by decide +kernel
theorem dX2_bitsOfInverse_5 : decode cX2_bitsOfInverse 5 = .ok (.iconst 0, 1) := by decide +kernel
theorem dX2_bitsOfInverse_6 : decode cX2_bitsOfInverse 6 = .ok (.ireturn, 1) := by decide +kernel
theorem dX2_bitsOfInverse_7 : decode cX2_bitsOfInverse 7 = .ok (.iconst 0, 1) := by decide +kernel
theorem dX2_bitsOfInverse_8 : decode cX2_bitsOfInverse 8 = .ok (.istore_n 1, 1) := by decide +kernel
theorem dX2_bitsOfInverse_9 : decode cX2_bitsOfInverse 9 = .ok (.iload_n 1, 1) := by decide +kernel
theorem dX2_bitsOfInverse_10 : decode cX2_bitsOfInverse 10 = .ok (.bipush 30, 2) := by decide +kernel
theorem dX2_bitsOfInverse_12 : decode cX2_bitsOfInverse 12 = .ok (.if_icmp .ge 16, 3) := by decide +kernel
theorem dX2_bitsOfInverse_15 : decode cX2_bitsOfInverse 15 = .ok (.iconst 1, 1) := by decide +kernel
theorem dX2_bitsOfInverse_16 : decode cX2_bitsOfInverse 16 = .ok (.iload_n 1, 1) := by decide +kernel
theorem dX2_bitsOfInverse_17 : decode cX2_bitsOfInverse 17 = .ok (.ishl, 1) := by decide +kernel
theorem dX2_bitsOfInverse_18 : decode cX2_bitsOfInverse 18 = .ok (.iload_n 0, 1) := by decide +kernel
theorem dX2_bitsOfInverse_19 : decode cX2_bitsOfInverse 19 = .ok (.if_icmp .ge 9, 3) := by decide +kernel
theorem dX2_bitsOfInverse_22 : decode cX2_bitsOfInverse 22 = .ok (.iinc 1 1, 3) := by decide +kernel
theorem dX2_bitsOfInverse_25 : decode cX2_bitsOfInverse 25 = .ok (.goto (-16), 3) := by decide +kernel
theorem dX2_bitsOfInverse_28 : decode cX2_bitsOfInverse 28 = .ok (.lconst 1, 1) := by decide +kernel
theorem dX2_bitsOfInverse_29 : decode cX2_bitsOfInverse 29 = .ok (.bipush 23, 2) := by decide +kernel
theorem dX2_bitsOfInverse_31 : decode cX2_bitsOfInverse 31 = .ok (.iload_n 1, 1) := by decide +kernel
theorem dX2_bitsOfInverse_32 : decode cX2_bitsOfInverse 32 = .ok (.iadd, 1) := by decide +kernel
theorem dX2_bitsOfInverse_33 : decode cX2_bitsOfInverse 33 = .ok (.lshl, 1) := by decide +kernel
theorem dX2_bitsOfInverse_34 : decode cX2_bitsOfInverse 34 = .ok (.iload_n 0, 1) := by decide +kernel
theorem dX2_bitsOfInverse_35 : decode cX2_bitsOfInverse 35 = .ok (.iconst 2, 1) := by decide +kernel
theorem dX2_bitsOfInverse_36 : decode cX2_bitsOfInverse 36 = .ok (.idiv, 1) := by decide +kernel
theorem dX2_bitsOfInverse_37 : decode cX2_bitsOfInverse 37 = .ok (.i2l, 1) := by decide +kernel
theorem dX2_bitsOfInverse_38 : decode cX2_bitsOfInverse 38 = .ok (.ladd, 1) := by decide +kernel
theorem dX2_bitsOfInverse_39 : decode cX2_bitsOfInverse 39 = .ok (.iload_n 0, 1) := by decide +kernel
theorem dX2_bitsOfInverse_40 : decode cX2_bitsOfInverse 40 = .ok (.i2l, 1) := by decide +kernel
theorem dX2_bitsOfInverse_41 : decode cX2_bitsOfInverse 41 = .ok (.ldiv, 1) := by decide +kernel
theorem dX2_bitsOfInverse_42 : decode cX2_bitsOfInverse 42 = .ok (.lstore_n 2, 1) := by decide +kernel
theorem dX2_bitsOfInverse_43 : decode cX2_bitsOfInverse 43 = .ok (.bipush 127, 2) := by decide +kernel
theorem dX2_bitsOfInverse_45 : decode cX2_bitsOfInverse 45 = .ok (.iload_n 1, 1) := by decide +kernel
theorem dX2_bitsOfInverse_46 : decode cX2_bitsOfInverse 46 = .ok (.isub, 1) := by decide +kernel
theorem dX2_bitsOfInverse_47 : decode cX2_bitsOfInverse 47 = .ok (.bipush 23, 2) := by decide +kernel
theorem dX2_bitsOfInverse_49 : decode cX2_bitsOfInverse 49 = .ok (.ishl, 1) := by decide +kernel
theorem dX2_bitsOfInverse_50 : decode cX2_bitsOfInverse 50 = .ok (.lload_n 2, 1) := by decide +kernel
theorem dX2_bitsOfInverse_51 : decode cX2_bitsOfInverse 51 = .ok (.ldc2_w 165, 3) := by decide +kernel
theorem dX2_bitsOfInverse_54 : decode cX2_bitsOfInverse 54 = .ok (.lsub, 1) := by decide +kernel
theorem dX2_bitsOfInverse_55 : decode cX2_bitsOfInverse 55 = .ok (.l2i, 1) := by decide +kernel
theorem dX2_bitsOfInverse_56 : decode cX2_bitsOfInverse 56 = .ok (.iadd, 1) := by decide +kernel
theorem dX2_bitsOfInverse_57 : decode cX2_bitsOfInverse 57 = .ok (.ireturn, 1) := by decide +kernel
theorem dX3_keyOf_0 : decode cX3_keyOf 0 = .ok (.iload_n 0, 1) := by decide +kernel
theorem dX3_keyOf_1 : decode cX3_keyOf 1 = .ok (.ifCond .lt 21, 3) := by decide +kernel
theorem dX3_keyOf_4 : decode cX3_keyOf 4 = .ok (.iload_n 0, 1) := by decide +kernel
theorem dX3_keyOf_5 : decode cX3_keyOf 5 = .ok (.sipush 255, 3) := by decide +kernel
theorem dX3_keyOf_8 : decode cX3_keyOf 8 = .ok (.if_icmp .gt 14, 3) := by decide +kernel
theorem dX3_keyOf_11 : decode cX3_keyOf 11 = .ok (.iload_n 1, 1) := by decide +kernel
theorem dX3_keyOf_12 : decode cX3_keyOf 12 = .ok (.ifCond .lt 10, 3) := by decide +kernel
theorem dX3_keyOf_15 : decode cX3_keyOf 15 = .ok (.iload_n 1, 1) := by decide +kernel
theorem dX3_keyOf_16 : decode cX3_keyOf 16 = .ok (.sipush 255, 3) := by decide +kernel
theorem dX3_keyOf_19 : decode cX3_keyOf 19 = .ok (.if_icmp .le 7, 3) := by decide +kernel
theorem dX3_keyOf_22 : decode cX3_keyOf 22 = .ok (.ldc2_w 28, 3) := by decide +kernel
theorem dX3_keyOf_25 : decode cX3_keyOf 25 = .ok (.lreturn, 1) := by decide +kernel
theorem dX3_keyOf_26 : decode cX3_keyOf 26 = .ok (.iload_n 2, 1) := by decide +kernel
theorem dX3_keyOf_27 : decode cX3_keyOf 27 = .ok (.ifCond .lt 20, 3) := by decide +kernel
theorem dX3_keyOf_30 : decode cX3_keyOf 30 = .ok (.iload_n 2, 1) := by decide +kernel
theorem dX3_keyOf_31 : decode cX3_keyOf 31 = .ok (.ldc 30, 2) := by decide +kernel
theorem dX3_keyOf_33 : decode cX3_keyOf 33 = .ok (.if_icmp .gt 14, 3) := by decide +kernel
theorem dX3_keyOf_36 : decode cX3_keyOf 36 = .ok (.iload_n 3, 1) := by decide +kernel
theorem dX3_keyOf_37 : decode cX3_keyOf 37 = .ok (.ifCond .lt 10, 3) := by decide +kernel
theorem dX3_keyOf_40 : decode cX3_keyOf 40 = .ok (.iload_n 3, 1) := by decide +kernel
theorem dX3_keyOf_41 : decode cX3_keyOf 41 = .ok (.sipush 255, 3) := by decide +kernel
theorem dX3_keyOf_44 : decode cX3_keyOf 44 = .ok (.if_icmp .le 7, 3) := by decide +kernel
theorem dX3_keyOf_47 : decode cX3_keyOf 47 = .ok (.ldc2_w 28, 3) := by decide +kernel
theorem dX3_keyOf_50 : decode cX3_keyOf 50 = .ok (.lreturn, 1) := by decide +kernel
theorem dX3_keyOf_51 : decode cX3_keyOf 51 = .ok (.iload_n 0, 1) := by decide +kernel
theorem dX3_keyOf_52 : decode cX3_keyOf 52 = .ok (.i2l, 1) := by decide +kernel
theorem dX3_keyOf_53 : decode cX3_keyOf 53 = .ok (.bipush 32, 2) := by decide +kernel
theorem dX3_keyOf_55 : decode cX3_keyOf 55 = .ok (.lshl, 1) := by decide +kernel
theorem dX3_keyOf_56 : decode cX3_keyOf 56 = .ok (.iload_n 1, 1) := by decide +kernel
theorem dX3_keyOf_57 : decode cX3_keyOf 57 = .ok (.i2l, 1) := by decide +kernel
theorem dX3_keyOf_58 : decode cX3_keyOf 58 = .ok (.bipush 24, 2) := by decide +kernel
theorem dX3_keyOf_60 : decode cX3_keyOf 60 = .ok (.lshl, 1) := by decide +kernel
theorem dX3_keyOf_61 : decode cX3_keyOf 61 = .ok (.lor, 1) := by decide +kernel
theorem dX3_keyOf_62 : decode cX3_keyOf 62 = .ok (.iload_n 2, 1) := by decide +kernel
theorem dX3_keyOf_63 : decode cX3_keyOf 63 = .ok (.i2l, 1) := by decide +kernel
theorem dX3_keyOf_64 : decode cX3_keyOf 64 = .ok (.bipush 8, 2) := by decide +kernel
theorem dX3_keyOf_66 : decode cX3_keyOf 66 = .ok (.lshl, 1) := by decide +kernel
theorem dX3_keyOf_67 : decode cX3_keyOf 67 = .ok (.lor, 1) := by decide +kernel
theorem dX3_keyOf_68 : decode cX3_keyOf 68 = .ok (.iload_n 3, 1) := by decide +kernel
theorem dX3_keyOf_69 : decode cX3_keyOf 69 = .ok (.i2l, 1) := by decide +kernel
theorem dX3_keyOf_70 : decode cX3_keyOf 70 = .ok (.lor, 1) := by decide +kernel
theorem dX3_keyOf_71 : decode cX3_keyOf 71 = .ok (.lreturn, 1) := by decide +kernel
theorem dX3_partOf_0 : decode cX3_partOf 0 = .ok (.iload_n 2, 1) := by decide +kernel
theorem dX3_partOf_1 : decode cX3_partOf 1 = .ok (.ifCond .lt 19, 3) := by decide +kernel
theorem dX3_partOf_4 : decode cX3_partOf 4 = .ok (.iload_n 2, 1) := by decide +kernel
theorem dX3_partOf_5 : decode cX3_partOf 5 = .ok (.getstatic 31, 3) := by decide +kernel
theorem dX3_partOf_8 : decode cX3_partOf 8 = .ok (.arraylength, 1) := by decide +kernel
theorem dX3_partOf_9 : decode cX3_partOf 9 = .ok (.if_icmp .ge 11, 3) := by decide +kernel
theorem dX3_partOf_12 : decode cX3_partOf 12 = .ok (.iload_n 2, 1) := by decide +kernel
theorem dX3_partOf_13 : decode cX3_partOf 13 = .ok (.getstatic 35, 3) := by decide +kernel
theorem dX3_partOf_16 : decode cX3_partOf 16 = .ok (.arraylength, 1) := by decide +kernel
theorem dX3_partOf_17 : decode cX3_partOf 17 = .ok (.if_icmp .lt 5, 3) := by decide +kernel
theorem dX3_partOf_20 : decode cX3_partOf 20 = .ok (.iconst 0, 1) := by decide +kernel
theorem dX3_partOf_21 : decode cX3_partOf 21 = .ok (.ireturn, 1) := by decide +kernel
theorem dX3_partOf_22 : decode cX3_partOf 22 = .ok (.lload_n 0, 1) := by decide +kernel
theorem dX3_partOf_23 : decode cX3_partOf 23 = .ok (.getstatic 31, 3) := by decide +kernel
theorem dX3_partOf_26 : decode cX3_partOf 26 = .ok (.iload_n 2, 1) := by decide +kernel
theorem dX3_partOf_27 : decode cX3_partOf 27 = .ok (.iaload, 1) := by decide +kernel
theorem dX3_partOf_28 : decode cX3_partOf 28 = .ok (.lshr, 1) := by decide +kernel
theorem dX3_partOf_29 : decode cX3_partOf 29 = .ok (.l2i, 1) := by decide +kernel
theorem dX3_partOf_30 : decode cX3_partOf 30 = .ok (.getstatic 35, 3) := by decide +kernel
theorem dX3_partOf_33 : decode cX3_partOf 33 = .ok (.iload_n 2, 1) := by decide +kernel
theorem dX3_partOf_34 : decode cX3_partOf 34 = .ok (.iaload, 1) := by decide +kernel
theorem dX3_partOf_35 : decode cX3_partOf 35 = .ok (.iand, 1) := by decide +kernel
theorem dX3_partOf_36 : decode cX3_partOf 36 = .ok (.ireturn, 1) := by decide +kernel
theorem dX3_begin_0 : decode cX3_begin 0 = .ok (.aload_n 0, 1) := by decide +kernel
theorem dX3_begin_1 : decode cX3_begin 1 = .ok (.lload_n 1, 1) := by decide +kernel
theorem dX3_begin_2 : decode cX3_begin 2 = .ok (.putfield 9, 3) := by decide +kernel
theorem dX3_begin_5 : decode cX3_begin 5 = .ok (.aload_n 0, 1) := by decide +kernel
theorem dX3_begin_6 : decode cX3_begin 6 = .ok (.lconst 0, 1) := by decide +kernel
theorem dX3_begin_7 : decode cX3_begin 7 = .ok (.putfield 15, 3) := by decide +kernel
theorem dX3_begin_10 : decode cX3_begin 10 = .ok (.aload_n 0, 1) := by decide +kernel
theorem dX3_begin_11 : decode cX3_begin 11 = .ok (.lconst 0, 1) := by decide +kernel
theorem dX3_begin_12 : decode cX3_begin 12 = .ok (.putfield 18, 3) := by decide +kernel
theorem dX3_begin_15 : decode cX3_begin 15 = .ok (.aload_n 0, 1) := by decide +kernel
theorem dX3_begin_16 : decode cX3_begin 16 = .ok (.iload_n 3, 1) := by decide +kernel
theorem dX3_begin_17 : decode cX3_begin 17 = .ok (.putfield 21, 3) := by decide +kernel
theorem dX3_begin_20 : decode cX3_begin 20 = .ok (.aload_n 0, 1) := by decide +kernel
theorem dX3_begin_21 : decode cX3_begin 21 = .ok (.iload_n 3, 1) := by decide +kernel
theorem dX3_begin_22 : decode cX3_begin 22 = .ok (.putfield 25, 3) := by decide +kernel
theorem dX3_begin_25 : decode cX3_begin 25 = .ok (.return_, 1) := by decide +kernel
set_option maxRecDepth 20000 in
theorem ggX3_value_X3_partOf : GoodIn wsX3_value wsX3_partOf := goodIn_ca (goodIn_r _ [9, 10, 11] (by decide +kernel) (by decide +kernel)) (goodIn_sub (fun _ h => List.mem_cons_of_mem _ (List.mem_append_right _ h)) (by decide +kernel))
set_option maxRecDepth 20000 in
theorem gX3_value_X3_partOf : GoodIn wsX3_value (va_wsS RX3 38 yX3_partOf wsX3_partOf) := goodIn_app (goodIn_of _ (by decide +kernel)) ggX3_value_X3_partOf
theorem dX3_value_0 : decode cX3_value 0 = .ok (.iload_n 1, 1) := by decide +kernel
theorem dX3_value_1 : decode cX3_value 1 = .ok (.tableswitch 53 4 7 #[31, 36, 41, 47], 31) := by decide +kernel
theorem dX3_value_32 : decode cX3_value 32 = .ok (.aload_n 0, 1) := by decide +kernel
theorem dX3_value_33 : decode cX3_value 33 = .ok (.getfield 15, 3) := by decide +kernel
theorem dX3_value_36 : decode cX3_value 36 = .ok (.lreturn, 1) := by decide +kernel
theorem dX3_value_37 : decode cX3_value 37 = .ok (.aload_n 0, 1) := by decide +kernel
theorem dX3_value_38 : decode cX3_value 38 = .ok (.getfield 18, 3) := by decide +kernel
theorem dX3_value_41 : decode cX3_value 41 = .ok (.lreturn, 1) := by decide +kernel
theorem dX3_value_42 : decode cX3_value 42 = .ok (.aload_n 0, 1) := by decide +kernel
theorem dX3_value_43 : decode cX3_value 43 = .ok (.getfield 21, 3) := by decide +kernel
theorem dX3_value_46 : decode cX3_value 46 = .ok (.i2l, 1) := by decide +kernel
theorem dX3_value_47 : decode cX3_value 47 = .ok (.lreturn, 1) := by decide +kernel
theorem dX3_value_48 : decode cX3_value 48 = .ok (.aload_n 0, 1) := by decide +kernel
theorem dX3_value_49 : decode cX3_value 49 = .ok (.getfield 25, 3) := by decide +kernel
theorem dX3_value_52 : decode cX3_value 52 = .ok (.i2l, 1) := by decide +kernel
theorem dX3_value_53 : decode cX3_value 53 = .ok (.lreturn, 1) := by decide +kernel
theorem dX3_value_54 : decode cX3_value 54 = .ok (.aload_n 0, 1) := by decide +kernel
theorem dX3_value_55 : decode cX3_value 55 = .ok (.getfield 9, 3) := by decide +kernel
theorem dX3_value_58 : decode cX3_value 58 = .ok (.iload_n 1, 1) := by decide +kernel
theorem dX3_value_59 : decode cX3_value 59 = .ok (.invokestatic 38, 3) := by decide +kernel
theorem dX3_value_62 : decode cX3_value 62 = .ok (.i2l, 1) := by decide +kernel
theorem dX3_value_63 : decode cX3_value 63 = .ok (.lreturn, 1) := by decide +kernel
theorem dX4_isFull_0 : decode cX4_isFull 0 = .ok (.aload_n 0, 1) := by decide +kernel
theorem dX4_isFull_1 : decode cX4_isFull 1 = .ok (.getfield 9, 3) := by decide +kernel
theorem dX4_isFull_4 : decode cX4_isFull 4 = .ok (.aload_n 0, 1) := by decide +kernel
theorem dX4_isFull_5 : decode cX4_isFull 5 = .ok (.getfield 23, 3) := by decide +kernel
theorem dX4_isFull_8 : decode cX4_isFull 8 = .ok (.arraylength, 1) := by decide +kernel
theorem dX4_isFull_9 : decode cX4_isFull 9 = .ok (.if_icmp .lt 7, 3) := by decide +kernel
theorem dX4_isFull_12 : decode cX4_isFull 12 = .ok (.iconst 1, 1) := by decide +kernel
theorem dX4_isFull_13 : decode cX4_isFull 13 = .ok (.goto 4, 3) := by decide +kernel
theorem dX4_isFull_16 : decode cX4_isFull 16 = .ok (.iconst 0, 1) := by decide +kernel
theorem dX4_isFull_17 : decode cX4_isFull 17 = .ok (.ireturn, 1) := by decide +kernel
theorem dX4_flowAt_0 : decode cX4_flowAt 0 = .ok (.aload_n 0, 1) := by decide +kernel
theorem dX4_flowAt_1 : decode cX4_flowAt 1 = .ok (.getfield 23, 3) := by decide +kernel
theorem dX4_flowAt_4 : decode cX4_flowAt 4 = .ok (.iload_n 1, 1) := by decide +kernel
theorem dX4_flowAt_5 : decode cX4_flowAt 5 = .ok (.ifCond .lt 16, 3) := by decide +kernel
theorem dX4_flowAt_8 : decode cX4_flowAt 8 = .ok (.iload_n 1, 1) := by decide +kernel
theorem dX4_flowAt_9 : decode cX4_flowAt 9 = .ok (.aload_n 0, 1) := by decide +kernel
theorem dX4_flowAt_10 : decode cX4_flowAt 10 = .ok (.getfield 23, 3) := by decide +kernel
theorem dX4_flowAt_13 : decode cX4_flowAt 13 = .ok (.arraylength, 1) := by decide +kernel
theorem dX4_flowAt_14 : decode cX4_flowAt 14 = .ok (.if_icmp .ge 7, 3) := by decide +kernel
theorem dX4_flowAt_17 : decode cX4_flowAt 17 = .ok (.iload_n 1, 1) := by decide +kernel
theorem dX4_flowAt_18 : decode cX4_flowAt 18 = .ok (.goto 4, 3) := by decide +kernel
theorem dX4_flowAt_21 : decode cX4_flowAt 21 = .ok (.iconst 0, 1) := by decide +kernel
theorem dX4_flowAt_22 : decode cX4_flowAt 22 = .ok (.aaload, 1) := by decide +kernel
theorem dX4_flowAt_23 : decode cX4_flowAt 23 = .ok (.areturn, 1) := by decide +kernel
theorem dX4_indexOf_0 : decode cX4_indexOf 0 = .ok (.iconst 0, 1) := by decide +kernel
theorem dX4_indexOf_1 : decode cX4_indexOf 1 = .ok (.istore_n 3, 1) := by decide +kernel
theorem dX4_indexOf_2 : decode cX4_indexOf 2 = .ok (.iload_n 3, 1) := by decide +kernel
theorem dX4_indexOf_3 : decode cX4_indexOf 3 = .ok (.aload_n 0, 1) := by decide +kernel
theorem dX4_indexOf_4 : decode cX4_indexOf 4 = .ok (.getfield 9, 3) := by decide +kernel
theorem dX4_indexOf_7 : decode cX4_indexOf 7 = .ok (.if_icmp .ge 25, 3) := by decide +kernel
theorem dX4_indexOf_10 : decode cX4_indexOf 10 = .ok (.aload_n 0, 1) := by decide +kernel
theorem dX4_indexOf_11 : decode cX4_indexOf 11 = .ok (.getfield 23, 3) := by decide +kernel
theorem dX4_indexOf_14 : decode cX4_indexOf 14 = .ok (.iload_n 3, 1) := by decide +kernel
theorem dX4_indexOf_15 : decode cX4_indexOf 15 = .ok (.aaload, 1) := by decide +kernel
theorem dX4_indexOf_16 : decode cX4_indexOf 16 = .ok (.getfield 28, 3) := by decide +kernel
theorem dX4_indexOf_19 : decode cX4_indexOf 19 = .ok (.lload_n 1, 1) := by decide +kernel
theorem dX4_indexOf_20 : decode cX4_indexOf 20 = .ok (.lcmp, 1) := by decide +kernel
theorem dX4_indexOf_21 : decode cX4_indexOf 21 = .ok (.ifCond .ne 5, 3) := by decide +kernel
theorem dX4_indexOf_24 : decode cX4_indexOf 24 = .ok (.iload_n 3, 1) := by decide +kernel
theorem dX4_indexOf_25 : decode cX4_indexOf 25 = .ok (.ireturn, 1) := by decide +kernel
theorem dX4_indexOf_26 : decode cX4_indexOf 26 = .ok (.iinc 3 1, 3) := by decide +kernel
theorem dX4_indexOf_29 : decode cX4_indexOf 29 = .ok (.goto (-27), 3) := by decide +kernel
theorem dX4_indexOf_32 : decode cX4_indexOf 32 = .ok (.iconst (-1), 1) := by decide +kernel
theorem dX4_indexOf_33 : decode cX4_indexOf 33 = .ok (.ireturn, 1) := by decide +kernel
set_option maxRecDepth 20000 in
theorem ggX4_addFlow_X4_flowAt : GoodIn wsX4_addFlow wsX4_flowAt := goodIn_r _ [11, 2, 22, 23] (by decide +kernel) (by decide +kernel)
set_option maxRecDepth 20000 in
theorem gX4_addFlow_X4_flowAt : GoodIn wsX4_addFlow (wsV RX4 32 RX4 yX4_flowAt wsX4_flowAt) := goodIn_app (goodIn_of _ (by decide +kernel)) ggX4_addFlow_X4_flowAt
set_option maxRecDepth 20000 in
theorem ggX4_addFlow_X3_begin : GoodIn wsX4_addFlow wsX3_begin := goodIn_r _ [16, 17, 18, 19, 20, 21, 24, 25, 26, 27, 28] (by decide +kernel) (by decide +kernel)
set_option maxRecDepth 20000 in
theorem gX4_addFlow_X3_begin : GoodIn wsX4_addFlow (wsV RX4 36 RX3 yX3_begin wsX3_begin) := goodIn_app (goodIn_of _ (by decide +kernel)) ggX4_addFlow_X3_begin
theorem dX4_addFlow_0 : decode cX4_addFlow 0 = .ok (.aload_n 0, 1) := by decide +kernel
theorem dX4_addFlow_1 : decode cX4_addFlow 1 = .ok (.aload_n 0, 1) := by decide +kernel
theorem dX4_addFlow_2 : decode cX4_addFlow 2 = .ok (.getfield 9, 3) := by decide +kernel
theorem dX4_addFlow_5 : decode cX4_addFlow 5 = .ok (.invokevirtual 32, 3) := by decide +kernel
theorem dX4_addFlow_8 : decode cX4_addFlow 8 = .ok (.astore 4, 2) := by decide +kernel
theorem dX4_addFlow_10 : decode cX4_addFlow 10 = .ok (.aload 4, 2) := by decide +kernel
theorem dX4_addFlow_12 : decode cX4_addFlow 12 = .ok (.lload_n 1, 1) := by decide +kernel
theorem dX4_addFlow_13 : decode cX4_addFlow 13 = .ok (.iload_n 3, 1) := by decide +kernel
theorem dX4_addFlow_14 : decode cX4_addFlow 14 = .ok (.invokevirtual 36, 3) := by decide +kernel
theorem dX4_addFlow_17 : decode cX4_addFlow 17 = .ok (.aload_n 0, 1) := by decide +kernel
theorem dX4_addFlow_18 : decode cX4_addFlow 18 = .ok (.aload_n 0, 1) := by decide +kernel
theorem dX4_addFlow_19 : decode cX4_addFlow 19 = .ok (.getfield 9, 3) := by decide +kernel
theorem dX4_addFlow_22 : decode cX4_addFlow 22 = .ok (.iconst 1, 1) := by decide +kernel
theorem dX4_addFlow_23 : decode cX4_addFlow 23 = .ok (.iadd, 1) := by decide +kernel
theorem dX4_addFlow_24 : decode cX4_addFlow 24 = .ok (.aload_n 0, 1) := by decide +kernel
theorem dX4_addFlow_25 : decode cX4_addFlow 25 = .ok (.getfield 23, 3) := by decide +kernel
theorem dX4_addFlow_28 : decode cX4_addFlow 28 = .ok (.arraylength, 1) := by decide +kernel
theorem dX4_addFlow_29 : decode cX4_addFlow 29 = .ok (.invokestatic 40, 3) := by decide +kernel
theorem dX4_addFlow_32 : decode cX4_addFlow 32 = .ok (.putfield 9, 3) := by decide +kernel
theorem dX4_addFlow_35 : decode cX4_addFlow 35 = .ok (.aload 4, 2) := by decide +kernel
theorem dX4_addFlow_37 : decode cX4_addFlow 37 = .ok (.areturn, 1) := by decide +kernel
set_option maxRecDepth 20000 in
theorem ggX4_removeAt_X4_flowAt : GoodIn wsX4_removeAt wsX4_flowAt := goodIn_r _ [7, 2, 8, 9] (by decide +kernel) (by decide +kernel)
set_option maxRecDepth 20000 in
theorem gX4_removeAt_X4_flowAt : GoodIn wsX4_removeAt (wsV RX4 32 RX4 yX4_flowAt wsX4_flowAt) := goodIn_app (goodIn_of _ (by decide +kernel)) ggX4_removeAt_X4_flowAt
theorem dX4_removeAt_0 : decode cX4_removeAt 0 = .ok (.aload_n 0, 1) := by decide +kernel
theorem dX4_removeAt_1 : decode cX4_removeAt 1 = .ok (.iload_n 1, 1) := by decide +kernel
theorem dX4_removeAt_2 : decode cX4_removeAt 2 = .ok (.invokevirtual 32, 3) := by decide +kernel
theorem dX4_removeAt_5 : decode cX4_removeAt 5 = .ok (.astore_n 2, 1) := by decide +kernel
theorem dX4_removeAt_6 : decode cX4_removeAt 6 = .ok (.iload_n 1, 1) := by decide +kernel
theorem dX4_removeAt_7 : decode cX4_removeAt 7 = .ok (.ifCond .lt 11, 3) := by decide +kernel
theorem dX4_removeAt_10 : decode cX4_removeAt 10 = .ok (.iload_n 1, 1) := by decide +kernel
theorem dX4_removeAt_11 : decode cX4_removeAt 11 = .ok (.aload_n 0, 1) := by decide +kernel
theorem dX4_removeAt_12 : decode cX4_removeAt 12 = .ok (.getfield 9, 3) := by decide +kernel
theorem dX4_removeAt_15 : decode cX4_removeAt 15 = .ok (.if_icmp .lt 5, 3) := by decide +kernel
theorem dX4_removeAt_18 : decode cX4_removeAt 18 = .ok (.aload_n 2, 1) := by decide +kernel
theorem dX4_removeAt_19 : decode cX4_removeAt 19 = .ok (.areturn, 1) := by decide +kernel
theorem dX4_removeAt_20 : decode cX4_removeAt 20 = .ok (.iload_n 1, 1) := by decide +kernel
theorem dX4_removeAt_21 : decode cX4_removeAt 21 = .ok (.istore_n 3, 1) := by decide +kernel
theorem dX4_removeAt_22 : decode cX4_removeAt 22 = .ok (.iload_n 3, 1) := by decide +kernel
theorem dX4_removeAt_23 : decode cX4_removeAt 23 = .ok (.aload_n 0, 1) := by decide +kernel
theorem dX4_removeAt_24 : decode cX4_removeAt 24 = .ok (.getfield 9, 3) := by decide +kernel
theorem dX4_removeAt_27 : decode cX4_removeAt 27 = .ok (.iconst 1, 1) := by decide +kernel
theorem dX4_removeAt_28 : decode cX4_removeAt 28 = .ok (.isub, 1) := by decide +kernel
theorem dX4_removeAt_29 : decode cX4_removeAt 29 = .ok (.if_icmp .ge 23, 3) := by decide +kernel
theorem dX4_removeAt_32 : decode cX4_removeAt 32 = .ok (.aload_n 0, 1) := by decide +kernel
theorem dX4_removeAt_33 : decode cX4_removeAt 33 = .ok (.getfield 23, 3) := by decide +kernel
theorem dX4_removeAt_36 : decode cX4_removeAt 36 = .ok (.iload_n 3, 1) := by decide +kernel
theorem dX4_removeAt_37 : decode cX4_removeAt 37 = .ok (.aload_n 0, 1) := by decide +kernel
theorem dX4_removeAt_38 : decode cX4_removeAt 38 = .ok (.getfield 23, 3) := by decide +kernel
theorem dX4_removeAt_41 : decode cX4_removeAt 41 = .ok (.iload_n 3, 1) := by decide +kernel
theorem dX4_removeAt_42 : decode cX4_removeAt 42 = .ok (.iconst 1, 1) := by decide +kernel
theorem dX4_removeAt_43 : decode cX4_removeAt 43 = .ok (.iadd, 1) := by decide +kernel
theorem dX4_removeAt_44 : decode cX4_removeAt 44 = .ok (.aaload, 1) := by decide +kernel
theorem dX4_removeAt_45 : decode cX4_removeAt 45 = .ok (.aastore, 1) := by decide +kernel
theorem dX4_removeAt_46 : decode cX4_removeAt 46 = .ok (.iinc 3 1, 3) := by decide +kernel
theorem dX4_removeAt_49 : decode cX4_removeAt 49 = .ok (.goto (-27), 3) := by decide +kernel
theorem dX4_removeAt_52 : decode cX4_removeAt 52 = .ok (.aload_n 0, 1) := by decide +kernel
theorem dX4_removeAt_53 : decode cX4_removeAt 53 = .ok (.dup, 1) := by decide +kernel
theorem dX4_removeAt_54 : decode cX4_removeAt 54 = .ok (.getfield 9, 3) := by decide +kernel
theorem dX4_removeAt_57 : decode cX4_removeAt 57 = .ok (.iconst 1, 1) := by decide +kernel
theorem dX4_removeAt_58 : decode cX4_removeAt 58 = .ok (.isub, 1) := by decide +kernel
theorem dX4_removeAt_59 : decode cX4_removeAt 59 = .ok (.putfield 9, 3) := by decide +kernel
theorem dX4_removeAt_62 : decode cX4_removeAt 62 = .ok (.aload_n 0, 1) := by decide +kernel
theorem dX4_removeAt_63 : decode cX4_removeAt 63 = .ok (.getfield 23, 3) := by decide +kernel
theorem dX4_removeAt_66 : decode cX4_removeAt 66 = .ok (.aload_n 0, 1) := by decide +kernel
theorem dX4_removeAt_67 : decode cX4_removeAt 67 = .ok (.getfield 9, 3) := by decide +kernel
theorem dX4_removeAt_70 : decode cX4_removeAt 70 = .ok (.aload_n 2, 1) := by decide +kernel
theorem dX4_removeAt_71 : decode cX4_removeAt 71 = .ok (.aastore, 1) := by decide +kernel
theorem dX4_removeAt_72 : decode cX4_removeAt 72 = .ok (.aload_n 2, 1) := by decide +kernel
theorem dX4_removeAt_73 : decode cX4_removeAt 73 = .ok (.areturn, 1) := by decide +kernel
theorem dX4_indexOfEarliestLast_0 : decode cX4_indexOfEarliestLast 0 = .ok (.iconst 0, 1) := by decide +kernel
theorem dX4_indexOfEarliestLast_1 : decode cX4_indexOfEarliestLast 1 = .ok (.istore_n 1, 1) := by decide +kernel
theorem dX4_indexOfEarliestLast_2 : decode cX4_indexOfEarliestLast 2 = .ok (.iconst 1, 1) := by decide +kernel
theorem dX4_indexOfEarliestLast_3 : decode cX4_indexOfEarliestLast 3 = .ok (.istore_n 2, 1) := by decide +kernel
theorem dX4_indexOfEarliestLast_4 : decode cX4_indexOfEarliestLast 4 = .ok (.iload_n 2, 1) := by decide +kernel
theorem dX4_indexOfEarliestLast_5 : decode cX4_indexOfEarliestLast 5 = .ok (.aload_n 0, 1) := by decide +kernel
theorem dX4_indexOfEarliestLast_6 : decode cX4_indexOfEarliestLast 6 = .ok (.getfield 9, 3) := by decide +kernel
theorem dX4_indexOfEarliestLast_9 : decode cX4_indexOfEarliestLast 9 = .ok (.if_icmp .ge 32, 3) := by decide +kernel
theorem dX4_indexOfEarliestLast_12 : decode cX4_indexOfEarliestLast 12 = .ok (.aload_n 0, 1) := by decide +kernel
theorem dX4_indexOfEarliestLast_13 : decode cX4_indexOfEarliestLast 13 = .ok (.getfield 23, 3) := by decide +kernel
theorem dX4_indexOfEarliestLast_16 : decode cX4_indexOfEarliestLast 16 = .ok (.iload_n 2, 1) := by decide +kernel
theorem dX4_indexOfEarliestLast_17 : decode cX4_indexOfEarliestLast 17 = .ok (.aaload, 1) := by decide +kernel
theorem dX4_indexOfEarliestLast_18 : decode cX4_indexOfEarliestLast 18 = .ok (.getfield 43, 3) := by decide +kernel
theorem dX4_indexOfEarliestLast_21 : decode cX4_indexOfEarliestLast 21 = .ok (.aload_n 0, 1) := by decide +kernel
theorem dX4_indexOfEarliestLast_22 : decode cX4_indexOfEarliestLast 22 = .ok (.getfield 23, 3) := by decide +kernel
theorem dX4_indexOfEarliestLast_25 : decode cX4_indexOfEarliestLast 25 = .ok (.iload_n 1, 1) := by decide +kernel
theorem dX4_indexOfEarliestLast_26 : decode cX4_indexOfEarliestLast 26 = .ok (.aaload, 1) := by decide +kernel
theorem dX4_indexOfEarliestLast_27 : decode cX4_indexOfEarliestLast 27 = .ok (.getfield 43, 3) := by decide +kernel
theorem dX4_indexOfEarliestLast_30 : decode cX4_indexOfEarliestLast 30 = .ok (.if_icmp .ge 5, 3) := by decide +kernel
theorem dX4_indexOfEarliestLast_33 : decode cX4_indexOfEarliestLast 33 = .ok (.iload_n 2, 1) := by decide +kernel
theorem dX4_indexOfEarliestLast_34 : decode cX4_indexOfEarliestLast 34 = .ok (.istore_n 1, 1) := by decide +kernel
theorem dX4_indexOfEarliestLast_35 : decode cX4_indexOfEarliestLast 35 = .ok (.iinc 2 1, 3) := by decide +kernel
theorem dX4_indexOfEarliestLast_38 : decode cX4_indexOfEarliestLast 38 = .ok (.goto (-34), 3) := by decide +kernel
theorem dX4_indexOfEarliestLast_41 : decode cX4_indexOfEarliestLast 41 = .ok (.iload_n 1, 1) := by decide +kernel
theorem dX4_indexOfEarliestLast_42 : decode cX4_indexOfEarliestLast 42 = .ok (.ireturn, 1) := by decide +kernel
theorem dX5_put_0 : decode cX5_put 0 = .ok (.iload_n 3, 1) := by decide +kernel
theorem dX5_put_1 : decode cX5_put 1 = .ok (.iconst 1, 1) := by decide +kernel
theorem dX5_put_2 : decode cX5_put 2 = .ok (.isub, 1) := by decide +kernel
theorem dX5_put_3 : decode cX5_put 3 = .ok (.istore 4, 2) := by decide +kernel
theorem dX5_put_5 : decode cX5_put 5 = .ok (.iload 4, 2) := by decide +kernel
theorem dX5_put_7 : decode cX5_put 7 = .ok (.ifCond .lt 49, 3) := by decide +kernel
theorem dX5_put_10 : decode cX5_put 10 = .ok (.aload_n 0, 1) := by decide +kernel
theorem dX5_put_11 : decode cX5_put 11 = .ok (.getfield 9, 3) := by decide +kernel
theorem dX5_put_14 : decode cX5_put 14 = .ok (.aload_n 0, 1) := by decide +kernel
theorem dX5_put_15 : decode cX5_put 15 = .ok (.getfield 21, 3) := by decide +kernel
theorem dX5_put_18 : decode cX5_put 18 = .ok (.arraylength, 1) := by decide +kernel
theorem dX5_put_19 : decode cX5_put 19 = .ok (.if_icmp .ge 31, 3) := by decide +kernel
theorem dX5_put_22 : decode cX5_put 22 = .ok (.aload_n 0, 1) := by decide +kernel
theorem dX5_put_23 : decode cX5_put 23 = .ok (.getfield 21, 3) := by decide +kernel
theorem dX5_put_26 : decode cX5_put 26 = .ok (.aload_n 0, 1) := by decide +kernel
theorem dX5_put_27 : decode cX5_put 27 = .ok (.getfield 9, 3) := by decide +kernel
theorem dX5_put_30 : decode cX5_put 30 = .ok (.lload_n 1, 1) := by decide +kernel
theorem dX5_put_31 : decode cX5_put 31 = .ok (.bipush 8, 2) := by decide +kernel
theorem dX5_put_33 : decode cX5_put 33 = .ok (.iload 4, 2) := by decide +kernel
theorem dX5_put_35 : decode cX5_put 35 = .ok (.imul, 1) := by decide +kernel
theorem dX5_put_36 : decode cX5_put 36 = .ok (.lshr, 1) := by decide +kernel
theorem dX5_put_37 : decode cX5_put 37 = .ok (.l2i, 1) := by decide +kernel
theorem dX5_put_38 : decode cX5_put 38 = .ok (.i2b, 1) := by decide +kernel
theorem dX5_put_39 : decode cX5_put 39 = .ok (.bastore, 1) := by decide +kernel
theorem dX5_put_40 : decode cX5_put 40 = .ok (.aload_n 0, 1) := by decide +kernel
theorem dX5_put_41 : decode cX5_put 41 = .ok (.dup, 1) := by decide +kernel
theorem dX5_put_42 : decode cX5_put 42 = .ok (.getfield 9, 3) := by decide +kernel
theorem dX5_put_45 : decode cX5_put 45 = .ok (.iconst 1, 1) := by decide +kernel
theorem dX5_put_46 : decode cX5_put 46 = .ok (.iadd, 1) := by decide +kernel
theorem dX5_put_47 : decode cX5_put 47 = .ok (.putfield 9, 3) := by decide +kernel
theorem dX5_put_50 : decode cX5_put 50 = .ok (.iinc 4 (-1), 3) := by decide +kernel
theorem dX5_put_53 : decode cX5_put 53 = .ok (.goto (-48), 3) := by decide +kernel
theorem dX5_put_56 : decode cX5_put 56 = .ok (.return_, 1) := by decide +kernel
theorem dX5_putAt_0 : decode cX5_putAt 0 = .ok (.iconst 0, 1) := by decide +kernel
theorem dX5_putAt_1 : decode cX5_putAt 1 = .ok (.istore 5, 2) := by decide +kernel
theorem dX5_putAt_3 : decode cX5_putAt 3 = .ok (.iload 5, 2) := by decide +kernel
theorem dX5_putAt_5 : decode cX5_putAt 5 = .ok (.iload 4, 2) := by decide +kernel
theorem dX5_putAt_7 : decode cX5_putAt 7 = .ok (.if_icmp .ge 50, 3) := by decide +kernel
theorem dX5_putAt_10 : decode cX5_putAt 10 = .ok (.iload_n 1, 1) := by decide +kernel
theorem dX5_putAt_11 : decode cX5_putAt 11 = .ok (.iload 5, 2) := by decide +kernel
theorem dX5_putAt_13 : decode cX5_putAt 13 = .ok (.iadd, 1) := by decide +kernel
theorem dX5_putAt_14 : decode cX5_putAt 14 = .ok (.istore 6, 2) := by decide +kernel
theorem dX5_putAt_16 : decode cX5_putAt 16 = .ok (.iload 6, 2) := by decide +kernel
theorem dX5_putAt_18 : decode cX5_putAt 18 = .ok (.ifCond .lt 33, 3) := by decide +kernel
theorem dX5_putAt_21 : decode cX5_putAt 21 = .ok (.iload 6, 2) := by decide +kernel
theorem dX5_putAt_23 : decode cX5_putAt 23 = .ok (.aload_n 0, 1) := by decide +kernel
theorem dX5_putAt_24 : decode cX5_putAt 24 = .ok (.getfield 9, 3) := by decide +kernel
theorem dX5_putAt_27 : decode cX5_putAt 27 = .ok (.if_icmp .ge 24, 3) := by decide +kernel
theorem dX5_putAt_30 : decode cX5_putAt 30 = .ok (.aload_n 0, 1) := by decide +kernel
theorem dX5_putAt_31 : decode cX5_putAt 31 = .ok (.getfield 21, 3) := by decide +kernel
theorem dX5_putAt_34 : decode cX5_putAt 34 = .ok (.iload 6, 2) := by decide +kernel
theorem dX5_putAt_36 : decode cX5_putAt 36 = .ok (.lload_n 2, 1) := by decide +kernel
theorem dX5_putAt_37 : decode cX5_putAt 37 = .ok (.bipush 8, 2) := by decide +kernel
theorem dX5_putAt_39 : decode cX5_putAt 39 = .ok (.iload 4, 2) := by decide +kernel
theorem dX5_putAt_41 : decode cX5_putAt 41 = .ok (.iconst 1, 1) := by decide +kernel
theorem dX5_putAt_42 : decode cX5_putAt 42 = .ok (.isub, 1) := by decide +kernel
theorem dX5_putAt_43 : decode cX5_putAt 43 = .ok (.iload 5, 2) := by decide +kernel
theorem dX5_putAt_45 : decode cX5_putAt 45 = .ok (.isub, 1) := by decide +kernel
theorem dX5_putAt_46 : decode cX5_putAt 46 = .ok (.imul, 1) := by decide +kernel
theorem dX5_putAt_47 : decode cX5_putAt 47 = .ok (.lshr, 1) := by decide +kernel
theorem dX5_putAt_48 : decode cX5_putAt 48 = .ok (.l2i, 1) := by decide +kernel
theorem dX5_putAt_49 : decode cX5_putAt 49 = .ok (.i2b, 1) := by decide +kernel
theorem dX5_putAt_50 : decode cX5_putAt 50 = .ok (.bastore, 1) := by decide +kernel
theorem dX5_putAt_51 : decode cX5_putAt 51 = .ok (.iinc 5 1, 3) := by decide +kernel
theorem dX5_putAt_54 : decode cX5_putAt 54 = .ok (.goto (-51), 3) := by decide +kernel
theorem dX5_putAt_57 : decode cX5_putAt 57 = .ok (.return_, 1) := by decide +kernel
theorem dX5_putFrom_0 : decode cX5_putFrom 0 = .ok (.iload_n 3, 1) := by decide +kernel
theorem dX5_putFrom_1 : decode cX5_putFrom 1 = .ok (.aload_n 0, 1) := by decide +kernel
theorem dX5_putFrom_2 : decode cX5_putFrom 2 = .ok (.getfield 21, 3) := by decide +kernel
theorem dX5_putFrom_5 : decode cX5_putFrom 5 = .ok (.arraylength, 1) := by decide +kernel
theorem dX5_putFrom_6 : decode cX5_putFrom 6 = .ok (.aload_n 0, 1) := by decide +kernel
theorem dX5_putFrom_7 : decode cX5_putFrom 7 = .ok (.getfield 9, 3) := by decide +kernel
theorem dX5_putFrom_10 : decode cX5_putFrom 10 = .ok (.isub, 1) := by decide +kernel
theorem dX5_putFrom_11 : decode cX5_putFrom 11 = .ok (.invokestatic 25, 3) := by decide +kernel
theorem dX5_putFrom_14 : decode cX5_putFrom 14 = .ok (.istore 4, 2) := by decide +kernel
theorem dX5_putFrom_16 : decode cX5_putFrom 16 = .ok (.iload 4, 2) := by decide +kernel
theorem dX5_putFrom_18 : decode cX5_putFrom 18 = .ok (.ifCond .le 47, 3) := by decide +kernel
theorem dX5_putFrom_21 : decode cX5_putFrom 21 = .ok (.iload_n 2, 1) := by decide +kernel
theorem dX5_putFrom_22 : decode cX5_putFrom 22 = .ok (.ifCond .lt 43, 3) := by decide +kernel
theorem dX5_putFrom_25 : decode cX5_putFrom 25 = .ok (.iload 4, 2) := by decide +kernel
theorem dX5_putFrom_27 : decode cX5_putFrom 27 = .ok (.aload_n 1, 1) := by decide +kernel
theorem dX5_putFrom_28 : decode cX5_putFrom 28 = .ok (.getfield 9, 3) := by decide +kernel
theorem dX5_putFrom_31 : decode cX5_putFrom 31 = .ok (.iload_n 2, 1) := by decide +kernel
theorem dX5_putFrom_32 : decode cX5_putFrom 32 = .ok (.isub, 1) := by decide +kernel
theorem dX5_putFrom_33 : decode cX5_putFrom 33 = .ok (.if_icmp .gt 32, 3) := by decide +kernel
theorem dX5_putFrom_36 : decode cX5_putFrom 36 = .ok (.aload_n 1, 1) := by decide +kernel
theorem dX5_putFrom_37 : decode cX5_putFrom 37 = .ok (.getfield 21, 3) := by decide +kernel
theorem dX5_putFrom_40 : decode cX5_putFrom 40 = .ok (.iload_n 2, 1) := by decide +kernel
theorem dX5_putFrom_41 : decode cX5_putFrom 41 = .ok (.aload_n 0, 1) := by decide +kernel
theorem dX5_putFrom_42 : decode cX5_putFrom 42 = .ok (.getfield 21, 3) := by decide +kernel
theorem dX5_putFrom_45 : decode cX5_putFrom 45 = .ok (.aload_n 0, 1) := by decide +kernel
theorem dX5_putFrom_46 : decode cX5_putFrom 46 = .ok (.getfield 9, 3) := by decide +kernel
theorem dX5_putFrom_49 : decode cX5_putFrom 49 = .ok (.iload 4, 2) := by decide +kernel
theorem dX5_putFrom_51 : decode cX5_putFrom 51 = .ok (.invokestatic 28, 3) := by decide +kernel
theorem dX5_putFrom_54 : decode cX5_putFrom 54 = .ok (.aload_n 0, 1) := by decide +kernel
theorem dX5_putFrom_55 : decode cX5_putFrom 55 = .ok (.dup, 1) := by decide +kernel
theorem dX5_putFrom_56 : decode cX5_putFrom 56 = .ok (.getfield 9, 3) := by decide +kernel
theorem dX5_putFrom_59 : decode cX5_putFrom 59 = .ok (.iload 4, 2) := by decide +kernel
theorem dX5_putFrom_61 : decode cX5_putFrom 61 = .ok (.iadd, 1) := by decide +kernel
theorem dX5_putFrom_62 : decode cX5_putFrom 62 = .ok (.putfield 9, 3) := by decide +kernel
theorem dX5_putFrom_65 : decode cX5_putFrom 65 = .ok (.return_, 1) := by decide +kernel
theorem dX5_byteAt_0 : decode cX5_byteAt 0 = .ok (.iload_n 1, 1) := by decide +kernel
theorem dX5_byteAt_1 : decode cX5_byteAt 1 = .ok (.ifCond .lt 24, 3) := by decide +kernel
theorem dX5_byteAt_4 : decode cX5_byteAt 4 = .ok (.iload_n 1, 1) := by decide +kernel
theorem dX5_byteAt_5 : decode cX5_byteAt 5 = .ok (.aload_n 0, 1) := by decide +kernel
theorem dX5_byteAt_6 : decode cX5_byteAt 6 = .ok (.getfield 9, 3) := by decide +kernel
theorem dX5_byteAt_9 : decode cX5_byteAt 9 = .ok (.if_icmp .ge 16, 3) := by decide +kernel
theorem dX5_byteAt_12 : decode cX5_byteAt 12 = .ok (.aload_n 0, 1) := by decide +kernel
theorem dX5_byteAt_13 : decode cX5_byteAt 13 = .ok (.getfield 21, 3) := by decide +kernel
theorem dX5_byteAt_16 : decode cX5_byteAt 16 = .ok (.iload_n 1, 1) := by decide +kernel
theorem dX5_byteAt_17 : decode cX5_byteAt 17 = .ok (.baload, 1) := by decide +kernel
theorem dX5_byteAt_18 : decode cX5_byteAt 18 = .ok (.sipush 255, 3) := by decide +kernel
theorem dX5_byteAt_21 : decode cX5_byteAt 21 = .ok (.iand, 1) := by decide +kernel
theorem dX5_byteAt_22 : decode cX5_byteAt 22 = .ok (.goto 4, 3) := by decide +kernel
theorem dX5_byteAt_25 : decode cX5_byteAt 25 = .ok (.iconst (-1), 1) := by decide +kernel
theorem dX5_byteAt_26 : decode cX5_byteAt 26 = .ok (.ireturn, 1) := by decide +kernel
theorem dX5_numberAt_0 : decode cX5_numberAt 0 = .ok (.lconst 0, 1) := by decide +kernel
theorem dX5_numberAt_1 : decode cX5_numberAt 1 = .ok (.lstore_n 3, 1) := by decide +kernel
theorem dX5_numberAt_2 : decode cX5_numberAt 2 = .ok (.iconst 0, 1) := by decide +kernel
theorem dX5_numberAt_3 : decode cX5_numberAt 3 = .ok (.istore 5, 2) := by decide +kernel
theorem dX5_numberAt_5 : decode cX5_numberAt 5 = .ok (.iload 5, 2) := by decide +kernel
theorem dX5_numberAt_7 : decode cX5_numberAt 7 = .ok (.iload_n 2, 1) := by decide +kernel
theorem dX5_numberAt_8 : decode cX5_numberAt 8 = .ok (.if_icmp .ge 51, 3) := by decide +kernel
theorem dX5_numberAt_11 : decode cX5_numberAt 11 = .ok (.iload_n 1, 1) := by decide +kernel
theorem dX5_numberAt_12 : decode cX5_numberAt 12 = .ok (.iload 5, 2) := by decide +kernel
theorem dX5_numberAt_14 : decode cX5_numberAt 14 = .ok (.iadd, 1) := by decide +kernel
theorem dX5_numberAt_15 : decode cX5_numberAt 15 = .ok (.istore 6, 2) := by decide +kernel
theorem dX5_numberAt_17 : decode cX5_numberAt 17 = .ok (.lload_n 3, 1) := by decide +kernel
theorem dX5_numberAt_18 : decode cX5_numberAt 18 = .ok (.bipush 8, 2) := by decide +kernel
theorem dX5_numberAt_20 : decode cX5_numberAt 20 = .ok (.lshl, 1) := by decide +kernel
theorem dX5_numberAt_21 : decode cX5_numberAt 21 = .ok (.iload 6, 2) := by decide +kernel
theorem dX5_numberAt_23 : decode cX5_numberAt 23 = .ok (.ifCond .lt 26, 3) := by decide +kernel
theorem dX5_numberAt_26 : decode cX5_numberAt 26 = .ok (.iload 6, 2) := by decide +kernel
theorem dX5_numberAt_28 : decode cX5_numberAt 28 = .ok (.aload_n 0, 1) := by decide +kernel
theorem dX5_numberAt_29 : decode cX5_numberAt 29 = .ok (.getfield 9, 3) := by decide +kernel
theorem dX5_numberAt_32 : decode cX5_numberAt 32 = .ok (.if_icmp .ge 17, 3) := by decide +kernel
theorem dX5_numberAt_35 : decode cX5_numberAt 35 = .ok (.aload_n 0, 1) := by decide +kernel
theorem dX5_numberAt_36 : decode cX5_numberAt 36 = .ok (.getfield 21, 3) := by decide +kernel
theorem dX5_numberAt_39 : decode cX5_numberAt 39 = .ok (.iload 6, 2) := by decide +kernel
theorem dX5_numberAt_41 : decode cX5_numberAt 41 = .ok (.baload, 1) := by decide +kernel
theorem dX5_numberAt_42 : decode cX5_numberAt 42 = .ok (.sipush 255, 3) := by decide +kernel
theorem dX5_numberAt_45 : decode cX5_numberAt 45 = .ok (.iand, 1) := by decide +kernel
theorem dX5_numberAt_46 : decode cX5_numberAt 46 = .ok (.goto 4, 3) := by decide +kernel
theorem dX5_numberAt_49 : decode cX5_numberAt 49 = .ok (.iconst 0, 1) := by decide +kernel
theorem dX5_numberAt_50 : decode cX5_numberAt 50 = .ok (.i2l, 1) := by decide +kernel
theorem dX5_numberAt_51 : decode cX5_numberAt 51 = .ok (.lor, 1) := by decide +kernel
theorem dX5_numberAt_52 : decode cX5_numberAt 52 = .ok (.lstore_n 3, 1) := by decide +kernel
theorem dX5_numberAt_53 : decode cX5_numberAt 53 = .ok (.iinc 5 1, 3) := by decide +kernel
theorem dX5_numberAt_56 : decode cX5_numberAt 56 = .ok (.goto (-51), 3) := by decide +kernel
theorem dX5_numberAt_59 : decode cX5_numberAt 59 = .ok (.lload_n 3, 1) := by decide +kernel
theorem dX5_numberAt_60 : decode cX5_numberAt 60 = .ok (.lreturn, 1) := by decide +kernel
set_option maxRecDepth 20000 in
theorem ggX5_intAt_X5_numberAt : GoodIn wsX5_intAt wsX5_numberAt := goodIn_ca (goodIn_r _ [5, 6, 7, 8, 9] (by decide +kernel) (by decide +kernel)) (goodIn_sub (fun _ h => List.mem_cons_of_mem _ (List.mem_append_right _ h)) (by decide +kernel))
set_option maxRecDepth 20000 in
theorem gX5_intAt_X5_numberAt : GoodIn wsX5_intAt (wsV RX5 34 RX5 yX5_numberAt wsX5_numberAt) := goodIn_app (goodIn_of _ (by decide +kernel)) ggX5_intAt_X5_numberAt
theorem dX5_intAt_0 : decode cX5_intAt 0 = .ok (.aload_n 0, 1) := by decide +kernel
theorem dX5_intAt_1 : decode cX5_intAt 1 = .ok (.iload_n 1, 1) := by decide +kernel
theorem dX5_intAt_2 : decode cX5_intAt 2 = .ok (.iload_n 2, 1) := by decide +kernel
theorem dX5_intAt_3 : decode cX5_intAt 3 = .ok (.invokevirtual 34, 3) := by decide +kernel
theorem dX5_intAt_6 : decode cX5_intAt 6 = .ok (.l2i, 1) := by decide +kernel
theorem dX5_intAt_7 : decode cX5_intAt 7 = .ok (.ireturn, 1) := by decide +kernel
theorem dX7_clear_0 : decode cX7_clear 0 = .ok (.aload_n 0, 1) := by decide +kernel
theorem dX7_clear_1 : decode cX7_clear 1 = .ok (.iconst 0, 1) := by decide +kernel
theorem dX7_clear_2 : decode cX7_clear 2 = .ok (.putfield 17, 3) := by decide +kernel
theorem dX7_clear_5 : decode cX7_clear 5 = .ok (.aload_n 0, 1) := by decide +kernel
theorem dX7_clear_6 : decode cX7_clear 6 = .ok (.iconst 0, 1) := by decide +kernel
theorem dX7_clear_7 : decode cX7_clear 7 = .ok (.putfield 21, 3) := by decide +kernel
theorem dX7_clear_10 : decode cX7_clear 10 = .ok (.return_, 1) := by decide +kernel
theorem dX7_messageAt_0 : decode cX7_messageAt 0 = .ok (.aload_n 0, 1) := by decide +kernel
theorem dX7_messageAt_1 : decode cX7_messageAt 1 = .ok (.getfield 11, 3) := by decide +kernel
theorem dX7_messageAt_4 : decode cX7_messageAt 4 = .ok (.iload_n 1, 1) := by decide +kernel
theorem dX7_messageAt_5 : decode cX7_messageAt 5 = .ok (.ifCond .lt 16, 3) := by decide +kernel
theorem dX7_messageAt_8 : decode cX7_messageAt 8 = .ok (.iload_n 1, 1) := by decide +kernel
theorem dX7_messageAt_9 : decode cX7_messageAt 9 = .ok (.aload_n 0, 1) := by decide +kernel
theorem dX7_messageAt_10 : decode cX7_messageAt 10 = .ok (.getfield 11, 3) := by decide +kernel
theorem dX7_messageAt_13 : decode cX7_messageAt 13 = .ok (.arraylength, 1) := by decide +kernel
theorem dX7_messageAt_14 : decode cX7_messageAt 14 = .ok (.if_icmp .ge 7, 3) := by decide +kernel
theorem dX7_messageAt_17 : decode cX7_messageAt 17 = .ok (.iload_n 1, 1) := by decide +kernel
theorem dX7_messageAt_18 : decode cX7_messageAt 18 = .ok (.goto 4, 3) := by decide +kernel
theorem dX7_messageAt_21 : decode cX7_messageAt 21 = .ok (.iconst 0, 1) := by decide +kernel
theorem dX7_messageAt_22 : decode cX7_messageAt 22 = .ok (.aaload, 1) := by decide +kernel
theorem dX7_messageAt_23 : decode cX7_messageAt 23 = .ok (.areturn, 1) := by decide +kernel
set_option maxRecDepth 20000 in
theorem ggX7_freeMessage_X7_messageAt : GoodIn wsX7_freeMessage wsX7_messageAt := goodIn_r _ [7, 8, 9, 10, 11] (by decide +kernel) (by decide +kernel)
set_option maxRecDepth 20000 in
theorem gX7_freeMessage_X7_messageAt : GoodIn wsX7_freeMessage (wsV RX7 27 RX7 yX7_messageAt wsX7_messageAt) := goodIn_app (goodIn_of _ (by decide +kernel)) ggX7_freeMessage_X7_messageAt
theorem dX7_freeMessage_0 : decode cX7_freeMessage 0 = .ok (.aload_n 0, 1) := by decide +kernel
theorem dX7_freeMessage_1 : decode cX7_freeMessage 1 = .ok (.aload_n 0, 1) := by decide +kernel
theorem dX7_freeMessage_2 : decode cX7_freeMessage 2 = .ok (.getfield 17, 3) := by decide +kernel
theorem dX7_freeMessage_5 : decode cX7_freeMessage 5 = .ok (.invokevirtual 27, 3) := by decide +kernel
theorem dX7_freeMessage_8 : decode cX7_freeMessage 8 = .ok (.astore_n 1, 1) := by decide +kernel
theorem dX7_freeMessage_9 : decode cX7_freeMessage 9 = .ok (.aload_n 1, 1) := by decide +kernel
theorem dX7_freeMessage_10 : decode cX7_freeMessage 10 = .ok (.iconst 0, 1) := by decide +kernel
theorem dX7_freeMessage_11 : decode cX7_freeMessage 11 = .ok (.putfield 31, 3) := by decide +kernel
theorem dX7_freeMessage_14 : decode cX7_freeMessage 14 = .ok (.aload_n 1, 1) := by decide +kernel
theorem dX7_freeMessage_15 : decode cX7_freeMessage 15 = .ok (.areturn, 1) := by decide +kernel
theorem dX7_addFreeMessage_0 : decode cX7_addFreeMessage 0 = .ok (.aload_n 0, 1) := by decide +kernel
theorem dX7_addFreeMessage_1 : decode cX7_addFreeMessage 1 = .ok (.getfield 17, 3) := by decide +kernel
theorem dX7_addFreeMessage_4 : decode cX7_addFreeMessage 4 = .ok (.bipush 12, 2) := by decide +kernel
theorem dX7_addFreeMessage_6 : decode cX7_addFreeMessage 6 = .ok (.if_icmp .ge 16, 3) := by decide +kernel
theorem dX7_addFreeMessage_9 : decode cX7_addFreeMessage 9 = .ok (.aload_n 0, 1) := by decide +kernel
theorem dX7_addFreeMessage_10 : decode cX7_addFreeMessage 10 = .ok (.dup, 1) := by decide +kernel
theorem dX7_addFreeMessage_11 : decode cX7_addFreeMessage 11 = .ok (.getfield 17, 3) := by decide +kernel
theorem dX7_addFreeMessage_14 : decode cX7_addFreeMessage 14 = .ok (.iconst 1, 1) := by decide +kernel
theorem dX7_addFreeMessage_15 : decode cX7_addFreeMessage 15 = .ok (.iadd, 1) := by decide +kernel
theorem dX7_addFreeMessage_16 : decode cX7_addFreeMessage 16 = .ok (.putfield 17, 3) := by decide +kernel
theorem dX7_addFreeMessage_19 : decode cX7_addFreeMessage 19 = .ok (.goto 13, 3) := by decide +kernel
theorem dX7_addFreeMessage_22 : decode cX7_addFreeMessage 22 = .ok (.aload_n 0, 1) := by decide +kernel
theorem dX7_addFreeMessage_23 : decode cX7_addFreeMessage 23 = .ok (.dup, 1) := by decide +kernel
theorem dX7_addFreeMessage_24 : decode cX7_addFreeMessage 24 = .ok (.getfield 21, 3) := by decide +kernel
theorem dX7_addFreeMessage_27 : decode cX7_addFreeMessage 27 = .ok (.iconst 1, 1) := by decide +kernel
theorem dX7_addFreeMessage_28 : decode cX7_addFreeMessage 28 = .ok (.iadd, 1) := by decide +kernel
theorem dX7_addFreeMessage_29 : decode cX7_addFreeMessage 29 = .ok (.putfield 21, 3) := by decide +kernel
theorem dX7_addFreeMessage_32 : decode cX7_addFreeMessage 32 = .ok (.return_, 1) := by decide +kernel
set_option maxRecDepth 20000 in
theorem ggX7_takeOut_X7_messageAt : GoodIn wsX7_takeOut wsX7_messageAt := goodIn_r _ [7, 2, 8, 9, 10] (by decide +kernel) (by decide +kernel)
set_option maxRecDepth 20000 in
theorem gX7_takeOut_X7_messageAt : GoodIn wsX7_takeOut (wsV RX7 27 RX7 yX7_messageAt wsX7_messageAt) := goodIn_app (goodIn_of _ (by decide +kernel)) ggX7_takeOut_X7_messageAt
theorem dX7_takeOut_0 : decode cX7_takeOut 0 = .ok (.aload_n 0, 1) := by decide +kernel
theorem dX7_takeOut_1 : decode cX7_takeOut 1 = .ok (.iload_n 1, 1) := by decide +kernel
theorem dX7_takeOut_2 : decode cX7_takeOut 2 = .ok (.invokevirtual 27, 3) := by decide +kernel
theorem dX7_takeOut_5 : decode cX7_takeOut 5 = .ok (.astore_n 2, 1) := by decide +kernel
theorem dX7_takeOut_6 : decode cX7_takeOut 6 = .ok (.iload_n 1, 1) := by decide +kernel
theorem dX7_takeOut_7 : decode cX7_takeOut 7 = .ok (.ifCond .lt 11, 3) := by decide +kernel
theorem dX7_takeOut_10 : decode cX7_takeOut 10 = .ok (.iload_n 1, 1) := by decide +kernel
theorem dX7_takeOut_11 : decode cX7_takeOut 11 = .ok (.aload_n 0, 1) := by decide +kernel
theorem dX7_takeOut_12 : decode cX7_takeOut 12 = .ok (.getfield 17, 3) := by decide +kernel
theorem dX7_takeOut_15 : decode cX7_takeOut 15 = .ok (.if_icmp .lt 5, 3) := by decide +kernel
theorem dX7_takeOut_18 : decode cX7_takeOut 18 = .ok (.aload_n 2, 1) := by decide +kernel
theorem dX7_takeOut_19 : decode cX7_takeOut 19 = .ok (.areturn, 1) := by decide +kernel
theorem dX7_takeOut_20 : decode cX7_takeOut 20 = .ok (.iload_n 1, 1) := by decide +kernel
theorem dX7_takeOut_21 : decode cX7_takeOut 21 = .ok (.istore_n 3, 1) := by decide +kernel
theorem dX7_takeOut_22 : decode cX7_takeOut 22 = .ok (.iload_n 3, 1) := by decide +kernel
theorem dX7_takeOut_23 : decode cX7_takeOut 23 = .ok (.aload_n 0, 1) := by decide +kernel
theorem dX7_takeOut_24 : decode cX7_takeOut 24 = .ok (.getfield 17, 3) := by decide +kernel
theorem dX7_takeOut_27 : decode cX7_takeOut 27 = .ok (.iconst 1, 1) := by decide +kernel
theorem dX7_takeOut_28 : decode cX7_takeOut 28 = .ok (.isub, 1) := by decide +kernel
theorem dX7_takeOut_29 : decode cX7_takeOut 29 = .ok (.if_icmp .ge 23, 3) := by decide +kernel
theorem dX7_takeOut_32 : decode cX7_takeOut 32 = .ok (.aload_n 0, 1) := by decide +kernel
theorem dX7_takeOut_33 : decode cX7_takeOut 33 = .ok (.getfield 11, 3) := by decide +kernel
theorem dX7_takeOut_36 : decode cX7_takeOut 36 = .ok (.iload_n 3, 1) := by decide +kernel
theorem dX7_takeOut_37 : decode cX7_takeOut 37 = .ok (.aload_n 0, 1) := by decide +kernel
theorem dX7_takeOut_38 : decode cX7_takeOut 38 = .ok (.getfield 11, 3) := by decide +kernel
theorem dX7_takeOut_41 : decode cX7_takeOut 41 = .ok (.iload_n 3, 1) := by decide +kernel
theorem dX7_takeOut_42 : decode cX7_takeOut 42 = .ok (.iconst 1, 1) := by decide +kernel
theorem dX7_takeOut_43 : decode cX7_takeOut 43 = .ok (.iadd, 1) := by decide +kernel
theorem dX7_takeOut_44 : decode cX7_takeOut 44 = .ok (.aaload, 1) := by decide +kernel
theorem dX7_takeOut_45 : decode cX7_takeOut 45 = .ok (.aastore, 1) := by decide +kernel
theorem dX7_takeOut_46 : decode cX7_takeOut 46 = .ok (.iinc 3 1, 3) := by decide +kernel
theorem dX7_takeOut_49 : decode cX7_takeOut 49 = .ok (.goto (-27), 3) := by decide +kernel
theorem dX7_takeOut_52 : decode cX7_takeOut 52 = .ok (.aload_n 0, 1) := by decide +kernel
theorem dX7_takeOut_53 : decode cX7_takeOut 53 = .ok (.dup, 1) := by decide +kernel
theorem dX7_takeOut_54 : decode cX7_takeOut 54 = .ok (.getfield 17, 3) := by decide +kernel
theorem dX7_takeOut_57 : decode cX7_takeOut 57 = .ok (.iconst 1, 1) := by decide +kernel
theorem dX7_takeOut_58 : decode cX7_takeOut 58 = .ok (.isub, 1) := by decide +kernel
theorem dX7_takeOut_59 : decode cX7_takeOut 59 = .ok (.putfield 17, 3) := by decide +kernel
theorem dX7_takeOut_62 : decode cX7_takeOut 62 = .ok (.aload_n 0, 1) := by decide +kernel
theorem dX7_takeOut_63 : decode cX7_takeOut 63 = .ok (.getfield 11, 3) := by decide +kernel
theorem dX7_takeOut_66 : decode cX7_takeOut 66 = .ok (.aload_n 0, 1) := by decide +kernel
theorem dX7_takeOut_67 : decode cX7_takeOut 67 = .ok (.getfield 17, 3) := by decide +kernel
theorem dX7_takeOut_70 : decode cX7_takeOut 70 = .ok (.aload_n 2, 1) := by decide +kernel
theorem dX7_takeOut_71 : decode cX7_takeOut 71 = .ok (.aastore, 1) := by decide +kernel
theorem dX7_takeOut_72 : decode cX7_takeOut 72 = .ok (.aload_n 2, 1) := by decide +kernel
theorem dX7_takeOut_73 : decode cX7_takeOut 73 = .ok (.areturn, 1) := by decide +kernel
theorem dX7_swap_0 : decode cX7_swap 0 = .ok (.iload_n 1, 1) := by decide +kernel
theorem dX7_swap_1 : decode cX7_swap 1 = .ok (.ifCond .lt 23, 3) := by decide +kernel
theorem dX7_swap_4 : decode cX7_swap 4 = .ok (.iload_n 1, 1) := by decide +kernel
theorem dX7_swap_5 : decode cX7_swap 5 = .ok (.aload_n 0, 1) := by decide +kernel
theorem dX7_swap_6 : decode cX7_swap 6 = .ok (.getfield 17, 3) := by decide +kernel
theorem dX7_swap_9 : decode cX7_swap 9 = .ok (.if_icmp .ge 15, 3) := by decide +kernel
theorem dX7_swap_12 : decode cX7_swap 12 = .ok (.iload_n 2, 1) := by decide +kernel
theorem dX7_swap_13 : decode cX7_swap 13 = .ok (.ifCond .lt 11, 3) := by decide +kernel
theorem dX7_swap_16 : decode cX7_swap 16 = .ok (.iload_n 2, 1) := by decide +kernel
theorem dX7_swap_17 : decode cX7_swap 17 = .ok (.aload_n 0, 1) := by decide +kernel
theorem dX7_swap_18 : decode cX7_swap 18 = .ok (.getfield 17, 3) := by decide +kernel
theorem dX7_swap_21 : decode cX7_swap 21 = .ok (.if_icmp .lt 4, 3) := by decide +kernel
theorem dX7_swap_24 : decode cX7_swap 24 = .ok (.return_, 1) := by decide +kernel
theorem dX7_swap_25 : decode cX7_swap 25 = .ok (.aload_n 0, 1) := by decide +kernel
theorem dX7_swap_26 : decode cX7_swap 26 = .ok (.getfield 11, 3) := by decide +kernel
theorem dX7_swap_29 : decode cX7_swap 29 = .ok (.iload_n 1, 1) := by decide +kernel
theorem dX7_swap_30 : decode cX7_swap 30 = .ok (.aaload, 1) := by decide +kernel
theorem dX7_swap_31 : decode cX7_swap 31 = .ok (.astore_n 3, 1) := by decide +kernel
theorem dX7_swap_32 : decode cX7_swap 32 = .ok (.aload_n 0, 1) := by decide +kernel
theorem dX7_swap_33 : decode cX7_swap 33 = .ok (.getfield 11, 3) := by decide +kernel
theorem dX7_swap_36 : decode cX7_swap 36 = .ok (.iload_n 1, 1) := by decide +kernel
theorem dX7_swap_37 : decode cX7_swap 37 = .ok (.aload_n 0, 1) := by decide +kernel
theorem dX7_swap_38 : decode cX7_swap 38 = .ok (.getfield 11, 3) := by decide +kernel
theorem dX7_swap_41 : decode cX7_swap 41 = .ok (.iload_n 2, 1) := by decide +kernel
theorem dX7_swap_42 : decode cX7_swap 42 = .ok (.aaload, 1) := by decide +kernel
theorem dX7_swap_43 : decode cX7_swap 43 = .ok (.aastore, 1) := by decide +kernel
theorem dX7_swap_44 : decode cX7_swap 44 = .ok (.aload_n 0, 1) := by decide +kernel
theorem dX7_swap_45 : decode cX7_swap 45 = .ok (.getfield 11, 3) := by decide +kernel
theorem dX7_swap_48 : decode cX7_swap 48 = .ok (.iload_n 2, 1) := by decide +kernel
theorem dX7_swap_49 : decode cX7_swap 49 = .ok (.aload_n 3, 1) := by decide +kernel
theorem dX7_swap_50 : decode cX7_swap 50 = .ok (.aastore, 1) := by decide +kernel
theorem dX7_swap_51 : decode cX7_swap 51 = .ok (.return_, 1) := by decide +kernel
set_option maxRecDepth 20000 in
theorem ggX8_clear_X8_restart : GoodIn wsX8_clear wsX8_restart := goodIn_r _ [7, 8, 9, 10, 11, 6, 12, 13, 14, 15, 16, 17, 18, 19, 20, 21, 22, 23, 24, 25, 26, 27, 28, 29, 30, 31, 32, 33, 34, 35, 36] (by decide +kernel) (by decide +kernel)
set_option maxRecDepth 20000 in
theorem gX8_clear_X8_restart : GoodIn wsX8_clear (wsV RX8 52 RX8 yX8_restart wsX8_restart) := goodIn_app (goodIn_of _ (by decide +kernel)) ggX8_clear_X8_restart
theorem dX8_clear_0 : decode cX8_clear 0 = .ok (.aload_n 0, 1) := by decide +kernel
theorem dX8_clear_1 : decode cX8_clear 1 = .ok (.lconst 0, 1) := by decide +kernel
theorem dX8_clear_2 : decode cX8_clear 2 = .ok (.putfield 37, 3) := by decide +kernel
theorem dX8_clear_5 : decode cX8_clear 5 = .ok (.aload_n 0, 1) := by decide +kernel
theorem dX8_clear_6 : decode cX8_clear 6 = .ok (.iconst 0, 1) := by decide +kernel
theorem dX8_clear_7 : decode cX8_clear 7 = .ok (.putfield 34, 3) := by decide +kernel
theorem dX8_clear_10 : decode cX8_clear 10 = .ok (.aload_n 0, 1) := by decide +kernel
theorem dX8_clear_11 : decode cX8_clear 11 = .ok (.invokevirtual 52, 3) := by decide +kernel
theorem dX8_clear_14 : decode cX8_clear 14 = .ok (.return_, 1) := by decide +kernel
set_option maxRecDepth 20000 in
theorem ggX8_restart_X8_emptyPending : GoodIn wsX8_restart wsX8_emptyPending := goodIn_r _ [6, 7, 8, 9, 19, 20, 21, 22, 23, 24, 25, 26, 27, 28, 29, 30] (by decide +kernel) (by decide +kernel)
set_option maxRecDepth 20000 in
theorem gX8_restart_X8_emptyPending : GoodIn wsX8_restart (wsV RX8 55 RX8 yX8_emptyPending wsX8_emptyPending) := goodIn_app (goodIn_of _ (by decide +kernel)) ggX8_restart_X8_emptyPending
set_option maxRecDepth 20000 in
theorem ggX8_restart_X8_forgetTemplates : GoodIn wsX8_restart wsX8_forgetTemplates := goodIn_r _ [13, 14, 15, 16, 17, 18, 19, 20, 21, 22, 23, 24, 25, 26, 27, 28] (by decide +kernel) (by decide +kernel)
set_option maxRecDepth 20000 in
theorem gX8_restart_X8_forgetTemplates : GoodIn wsX8_restart (wsV RX8 58 RX8 yX8_forgetTemplates wsX8_forgetTemplates) := goodIn_app (goodIn_of _ (by decide +kernel)) ggX8_restart_X8_forgetTemplates
theorem dX8_restart_0 : decode cX8_restart 0 = .ok (.aload_n 0, 1) := by decide +kernel
theorem dX8_restart_1 : decode cX8_restart 1 = .ok (.invokevirtual 55, 3) := by decide +kernel
theorem dX8_restart_4 : decode cX8_restart 4 = .ok (.aload_n 0, 1) := by decide +kernel
theorem dX8_restart_5 : decode cX8_restart 5 = .ok (.iconst 0, 1) := by decide +kernel
theorem dX8_restart_6 : decode cX8_restart 6 = .ok (.putfield 41, 3) := by decide +kernel
theorem dX8_restart_9 : decode cX8_restart 9 = .ok (.aload_n 0, 1) := by decide +kernel
theorem dX8_restart_10 : decode cX8_restart 10 = .ok (.invokevirtual 58, 3) := by decide +kernel
theorem dX8_restart_13 : decode cX8_restart 13 = .ok (.return_, 1) := by decide +kernel
theorem dX8_emptyPending_0 : decode cX8_emptyPending 0 = .ok (.aload_n 0, 1) := by decide +kernel
theorem dX8_emptyPending_1 : decode cX8_emptyPending 1 = .ok (.getfield 14, 3) := by decide +kernel
theorem dX8_emptyPending_4 : decode cX8_emptyPending 4 = .ok (.iconst 0, 1) := by decide +kernel
theorem dX8_emptyPending_5 : decode cX8_emptyPending 5 = .ok (.putfield 61, 3) := by decide +kernel
theorem dX8_emptyPending_8 : decode cX8_emptyPending 8 = .ok (.aload_n 0, 1) := by decide +kernel
theorem dX8_emptyPending_9 : decode cX8_emptyPending 9 = .ok (.iconst 0, 1) := by decide +kernel
theorem dX8_emptyPending_10 : decode cX8_emptyPending 10 = .ok (.putfield 24, 3) := by decide +kernel
theorem dX8_emptyPending_13 : decode cX8_emptyPending 13 = .ok (.return_, 1) := by decide +kernel
set_option maxRecDepth 20000 in
theorem ggX8_forgetTemplates_J7_fill_53178 : GoodIn wsX8_forgetTemplates wsJ7_fill_53178 := goodIn_r _ [5] (by decide +kernel) (by decide +kernel)
set_option maxRecDepth 20000 in
theorem gX8_forgetTemplates_J7_fill_53178 : GoodIn wsX8_forgetTemplates (va_wsS RX8 64 yJ7_fill_53178 wsJ7_fill_53178) := goodIn_app (goodIn_of _ (by decide +kernel)) ggX8_forgetTemplates_J7_fill_53178
theorem dX8_forgetTemplates_0 : decode cX8_forgetTemplates 0 = .ok (.aload_n 0, 1) := by decide +kernel
theorem dX8_forgetTemplates_1 : decode cX8_forgetTemplates 1 = .ok (.getfield 28, 3) := by decide +kernel
theorem dX8_forgetTemplates_4 : decode cX8_forgetTemplates 4 = .ok (.iconst 0, 1) := by decide +kernel
theorem dX8_forgetTemplates_5 : decode cX8_forgetTemplates 5 = .ok (.invokestatic 64, 3) := by decide +kernel
theorem dX8_forgetTemplates_8 : decode cX8_forgetTemplates 8 = .ok (.return_, 1) := by decide +kernel
set_option maxRecDepth 20000 in
theorem ggX8_forgetTemplatesWith_X1_template : GoodIn wsX8_forgetTemplatesWith wsX1_template := goodIn_r _ [7, 8, 25, 26, 27, 28, 29, 30] (by decide +kernel) (by decide +kernel)
set_option maxRecDepth 20000 in
theorem gX8_forgetTemplatesWith_X1_template : GoodIn wsX8_forgetTemplatesWith (wsV RX8 70 RX1 yX1_template wsX1_template) := goodIn_app (goodIn_of _ (by decide +kernel)) ggX8_forgetTemplatesWith_X1_template
set_option maxRecDepth 20000 in
theorem ggX8_forgetTemplatesWith_X10_has : GoodIn wsX8_forgetTemplatesWith wsX10_has := goodIn_r _ [13, 14, 31, 32, 33, 34] (by decide +kernel) (by decide +kernel)
set_option maxRecDepth 20000 in
theorem gX8_forgetTemplatesWith_X10_has : GoodIn wsX8_forgetTemplatesWith (wsV RX8 76 RX10 yX10_has wsX10_has) := goodIn_app (goodIn_of _ (by decide +kernel)) ggX8_forgetTemplatesWith_X10_has
theorem dX8_forgetTemplatesWith_0 : decode cX8_forgetTemplatesWith 0 = .ok (.iconst 0, 1) := by decide +kernel
theorem dX8_forgetTemplatesWith_1 : decode cX8_forgetTemplatesWith 1 = .ok (.istore_n 2, 1) := by decide +kernel
theorem dX8_forgetTemplatesWith_2 : decode cX8_forgetTemplatesWith 2 = .ok (.iload_n 2, 1) := by decide +kernel
theorem dX8_forgetTemplatesWith_3 : decode cX8_forgetTemplatesWith 3 = .ok (.iconst 4, 1) := by decide +kernel
theorem dX8_forgetTemplatesWith_4 : decode cX8_forgetTemplatesWith 4 = .ok (.if_icmp .ge 31, 3) := by decide +kernel
theorem dX8_forgetTemplatesWith_7 : decode cX8_forgetTemplatesWith 7 = .ok (.aload_n 0, 1) := by decide +kernel
theorem dX8_forgetTemplatesWith_8 : decode cX8_forgetTemplatesWith 8 = .ok (.getfield 44, 3) := by decide +kernel
theorem dX8_forgetTemplatesWith_11 : decode cX8_forgetTemplatesWith 11 = .ok (.iload_n 2, 1) := by decide +kernel
theorem dX8_forgetTemplatesWith_12 : decode cX8_forgetTemplatesWith 12 = .ok (.invokevirtual 70, 3) := by decide +kernel
theorem dX8_forgetTemplatesWith_15 : decode cX8_forgetTemplatesWith 15 = .ok (.iload_n 1, 1) := by decide +kernel
theorem dX8_forgetTemplatesWith_16 : decode cX8_forgetTemplatesWith 16 = .ok (.invokevirtual 76, 3) := by decide +kernel
theorem dX8_forgetTemplatesWith_19 : decode cX8_forgetTemplatesWith 19 = .ok (.ifCond .eq 10, 3) := by decide +kernel
theorem dX8_forgetTemplatesWith_22 : decode cX8_forgetTemplatesWith 22 = .ok (.aload_n 0, 1) := by decide +kernel
theorem dX8_forgetTemplatesWith_23 : decode cX8_forgetTemplatesWith 23 = .ok (.getfield 28, 3) := by decide +kernel
theorem dX8_forgetTemplatesWith_26 : decode cX8_forgetTemplatesWith 26 = .ok (.iload_n 2, 1) := by decide +kernel
theorem dX8_forgetTemplatesWith_27 : decode cX8_forgetTemplatesWith 27 = .ok (.iconst 0, 1) := by decide +kernel
theorem dX8_forgetTemplatesWith_28 : decode cX8_forgetTemplatesWith 28 = .ok (.iastore, 1) := by decide +kernel
theorem dX8_forgetTemplatesWith_29 : decode cX8_forgetTemplatesWith 29 = .ok (.iinc 2 1, 3) := by decide +kernel
theorem dX8_forgetTemplatesWith_32 : decode cX8_forgetTemplatesWith 32 = .ok (.goto (-30), 3) := by decide +kernel
theorem dX8_forgetTemplatesWith_35 : decode cX8_forgetTemplatesWith 35 = .ok (.return_, 1) := by decide +kernel
set_option maxRecDepth 20000 in
theorem ggX8_mustSend_X1_effective : GoodIn wsX8_mustSend wsX1_effective := goodIn_r _ [10, 11, 31, 32, 33, 34, 35, 36] (by decide +kernel) (by decide +kernel)
set_option maxRecDepth 20000 in
theorem gX8_mustSend_X1_effective : GoodIn wsX8_mustSend (wsV RX8 82 RX1 yX1_effective wsX1_effective) := goodIn_app (goodIn_of _ (by decide +kernel)) ggX8_mustSend_X1_effective
set_option maxRecDepth 20000 in
theorem ggX8_mustSend_X1_get : GoodIn wsX8_mustSend wsX1_get := goodIn_ca (goodIn_r _ [15, 16, 31, 32, 33, 34, 35, 36] (by decide +kernel) (by decide +kernel)) (goodIn_sub (fun _ h => List.mem_cons_of_mem _ (List.mem_append_right _ h)) (by decide +kernel))
set_option maxRecDepth 20000 in
theorem gX8_mustSend_X1_get : GoodIn wsX8_mustSend (wsV RX8 88 RX1 yX1_get wsX1_get) := goodIn_app (goodIn_of _ (by decide +kernel)) ggX8_mustSend_X1_get
theorem dX8_mustSend_0 : decode cX8_mustSend 0 = .ok (.iload_n 1, 1) := by decide +kernel
theorem dX8_mustSend_1 : decode cX8_mustSend 1 = .ok (.ifCond .lt 22, 3) := by decide +kernel
theorem dX8_mustSend_4 : decode cX8_mustSend 4 = .ok (.iload_n 1, 1) := by decide +kernel
theorem dX8_mustSend_5 : decode cX8_mustSend 5 = .ok (.iconst 4, 1) := by decide +kernel
theorem dX8_mustSend_6 : decode cX8_mustSend 6 = .ok (.if_icmp .ge 17, 3) := by decide +kernel
theorem dX8_mustSend_9 : decode cX8_mustSend 9 = .ok (.aload_n 0, 1) := by decide +kernel
theorem dX8_mustSend_10 : decode cX8_mustSend 10 = .ok (.getfield 44, 3) := by decide +kernel
theorem dX8_mustSend_13 : decode cX8_mustSend 13 = .ok (.iload_n 1, 1) := by decide +kernel
theorem dX8_mustSend_14 : decode cX8_mustSend 14 = .ok (.invokevirtual 82, 3) := by decide +kernel
theorem dX8_mustSend_17 : decode cX8_mustSend 17 = .ok (.getfield 85, 3) := by decide +kernel
theorem dX8_mustSend_20 : decode cX8_mustSend 20 = .ok (.ifCond .ne 5, 3) := by decide +kernel
theorem dX8_mustSend_23 : decode cX8_mustSend 23 = .ok (.iconst 0, 1) := by decide +kernel
theorem dX8_mustSend_24 : decode cX8_mustSend 24 = .ok (.ireturn, 1) := by decide +kernel
theorem dX8_mustSend_25 : decode cX8_mustSend 25 = .ok (.aload_n 0, 1) := by decide +kernel
theorem dX8_mustSend_26 : decode cX8_mustSend 26 = .ok (.getfield 28, 3) := by decide +kernel
theorem dX8_mustSend_29 : decode cX8_mustSend 29 = .ok (.iload_n 1, 1) := by decide +kernel
theorem dX8_mustSend_30 : decode cX8_mustSend 30 = .ok (.iaload, 1) := by decide +kernel
theorem dX8_mustSend_31 : decode cX8_mustSend 31 = .ok (.ifCond .eq 44, 3) := by decide +kernel
theorem dX8_mustSend_34 : decode cX8_mustSend 34 = .ok (.aload_n 0, 1) := by decide +kernel
theorem dX8_mustSend_35 : decode cX8_mustSend 35 = .ok (.getfield 34, 3) := by decide +kernel
theorem dX8_mustSend_38 : decode cX8_mustSend 38 = .ok (.aload_n 0, 1) := by decide +kernel
theorem dX8_mustSend_39 : decode cX8_mustSend 39 = .ok (.getfield 28, 3) := by decide +kernel
theorem dX8_mustSend_42 : decode cX8_mustSend 42 = .ok (.iload_n 1, 1) := by decide +kernel
theorem dX8_mustSend_43 : decode cX8_mustSend 43 = .ok (.iaload, 1) := by decide +kernel
theorem dX8_mustSend_44 : decode cX8_mustSend 44 = .ok (.isub, 1) := by decide +kernel
theorem dX8_mustSend_45 : decode cX8_mustSend 45 = .ok (.aload_n 0, 1) := by decide +kernel
theorem dX8_mustSend_46 : decode cX8_mustSend 46 = .ok (.getfield 44, 3) := by decide +kernel
theorem dX8_mustSend_49 : decode cX8_mustSend 49 = .ok (.iconst 4, 1) := by decide +kernel
theorem dX8_mustSend_50 : decode cX8_mustSend 50 = .ok (.invokevirtual 88, 3) := by decide +kernel
theorem dX8_mustSend_53 : decode cX8_mustSend 53 = .ok (.if_icmp .ge 22, 3) := by decide +kernel
theorem dX8_mustSend_56 : decode cX8_mustSend 56 = .ok (.iload_n 2, 1) := by decide +kernel
theorem dX8_mustSend_57 : decode cX8_mustSend 57 = .ok (.aload_n 0, 1) := by decide +kernel
theorem dX8_mustSend_58 : decode cX8_mustSend 58 = .ok (.getfield 31, 3) := by decide +kernel
theorem dX8_mustSend_61 : decode cX8_mustSend 61 = .ok (.iload_n 1, 1) := by decide +kernel
theorem dX8_mustSend_62 : decode cX8_mustSend 62 = .ok (.iaload, 1) := by decide +kernel
theorem dX8_mustSend_63 : decode cX8_mustSend 63 = .ok (.isub, 1) := by decide +kernel
theorem dX8_mustSend_64 : decode cX8_mustSend 64 = .ok (.aload_n 0, 1) := by decide +kernel
theorem dX8_mustSend_65 : decode cX8_mustSend 65 = .ok (.getfield 44, 3) := by decide +kernel
theorem dX8_mustSend_68 : decode cX8_mustSend 68 = .ok (.iconst 5, 1) := by decide +kernel
theorem dX8_mustSend_69 : decode cX8_mustSend 69 = .ok (.invokevirtual 88, 3) := by decide +kernel
theorem dX8_mustSend_72 : decode cX8_mustSend 72 = .ok (.if_icmp .lt 7, 3) := by decide +kernel
theorem dX8_mustSend_75 : decode cX8_mustSend 75 = .ok (.iconst 1, 1) := by decide +kernel
theorem dX8_mustSend_76 : decode cX8_mustSend 76 = .ok (.goto 4, 3) := by decide +kernel
theorem dX8_mustSend_79 : decode cX8_mustSend 79 = .ok (.iconst 0, 1) := by decide +kernel
theorem dX8_mustSend_80 : decode cX8_mustSend 80 = .ok (.ireturn, 1) := by decide +kernel
set_option maxRecDepth 20000 in
theorem ggX8_addRecord_X1_effective : GoodIn wsX8_addRecord wsX1_effective := goodIn_r _ [11, 12, 60, 61, 62, 63, 64, 65] (by decide +kernel) (by decide +kernel)
set_option maxRecDepth 20000 in
theorem gX8_addRecord_X1_effective : GoodIn wsX8_addRecord (wsV RX8 82 RX1 yX1_effective wsX1_effective) := goodIn_app (goodIn_of _ (by decide +kernel)) ggX8_addRecord_X1_effective
set_option maxRecDepth 20000 in
theorem ggX8_addRecord_X10_field : GoodIn wsX8_addRecord wsX10_field := goodIn_ca (goodIn_r _ [17, 18, 19, 56, 57, 58, 59] (by decide +kernel) (by decide +kernel)) (goodIn_sub (fun _ h => List.mem_cons_of_mem _ (List.mem_append_right _ h)) (by decide +kernel))
set_option maxRecDepth 20000 in
theorem gX8_addRecord_X10_field : GoodIn wsX8_addRecord (wsV RX8 92 RX10 yX10_field wsX10_field) := goodIn_app (goodIn_of _ (by decide +kernel)) ggX8_addRecord_X10_field
set_option maxRecDepth 20000 in
theorem ggX8_addRecord_X3_value : GoodIn wsX8_addRecord wsX3_value := goodIn_ca (goodIn_r _ [24, 25, 26, 27, 28, 29, 30, 31, 23, 32, 33, 34, 66, 67, 68, 69, 70] (by decide +kernel) (by decide +kernel)) (goodIn_sub (fun _ h => List.mem_cons_of_mem _ (List.mem_append_right _ h)) (by decide +kernel))
set_option maxRecDepth 20000 in
theorem gX8_addRecord_X3_value : GoodIn wsX8_addRecord (wsV RX8 95 RX3 yX3_value wsX3_value) := goodIn_app (goodIn_of _ (by decide +kernel)) ggX8_addRecord_X3_value
set_option maxRecDepth 20000 in
theorem ggX8_addRecord_X11_lengthOf : GoodIn wsX8_addRecord wsX11_lengthOf := goodIn_ca (goodIn_r _ [37, 38] (by decide +kernel) (by decide +kernel)) (goodIn_sub (fun _ h => List.mem_cons_of_mem _ (List.mem_append_right _ h)) (by decide +kernel))
set_option maxRecDepth 20000 in
theorem gX8_addRecord_X11_lengthOf_n103 : GoodIn wsX8_addRecord (wsX11_lengthOf) := ggX8_addRecord_X11_lengthOf
set_option maxRecDepth 20000 in
theorem ggX8_addRecord_X5_put : GoodIn wsX8_addRecord wsX5_put := goodIn_ca (goodIn_r _ [43, 44, 45, 71, 72] (by decide +kernel) (by decide +kernel)) (goodIn_sub (fun _ h => List.mem_cons_of_mem _ (List.mem_append_right _ h)) (by decide +kernel))
set_option maxRecDepth 20000 in
theorem gX8_addRecord_X5_put : GoodIn wsX8_addRecord (wsV RX8 106 RX5 yX5_put wsX5_put) := goodIn_app (goodIn_of _ (by decide +kernel)) ggX8_addRecord_X5_put
theorem dX8_addRecord_0 : decode cX8_addRecord 0 = .ok (.aload_n 0, 1) := by decide +kernel
theorem dX8_addRecord_1 : decode cX8_addRecord 1 = .ok (.getfield 24, 3) := by decide +kernel
theorem dX8_addRecord_4 : decode cX8_addRecord 4 = .ok (.aload_n 0, 1) := by decide +kernel
theorem dX8_addRecord_5 : decode cX8_addRecord 5 = .ok (.getfield 20, 3) := by decide +kernel
theorem dX8_addRecord_8 : decode cX8_addRecord 8 = .ok (.arraylength, 1) := by decide +kernel
theorem dX8_addRecord_9 : decode cX8_addRecord 9 = .ok (.if_icmp .lt 4, 3) := by decide +kernel
theorem dX8_addRecord_12 : decode cX8_addRecord 12 = .ok (.return_, 1) := by decide +kernel
theorem dX8_addRecord_13 : decode cX8_addRecord 13 = .ok (.aload_n 0, 1) := by decide +kernel
theorem dX8_addRecord_14 : decode cX8_addRecord 14 = .ok (.getfield 20, 3) := by decide +kernel
theorem dX8_addRecord_17 : decode cX8_addRecord 17 = .ok (.aload_n 0, 1) := by decide +kernel
theorem dX8_addRecord_18 : decode cX8_addRecord 18 = .ok (.getfield 24, 3) := by decide +kernel
theorem dX8_addRecord_21 : decode cX8_addRecord 21 = .ok (.iload_n 2, 1) := by decide +kernel
theorem dX8_addRecord_22 : decode cX8_addRecord 22 = .ok (.iastore, 1) := by decide +kernel
theorem dX8_addRecord_23 : decode cX8_addRecord 23 = .ok (.aload_n 0, 1) := by decide +kernel
theorem dX8_addRecord_24 : decode cX8_addRecord 24 = .ok (.dup, 1) := by decide +kernel
theorem dX8_addRecord_25 : decode cX8_addRecord 25 = .ok (.getfield 24, 3) := by decide +kernel
theorem dX8_addRecord_28 : decode cX8_addRecord 28 = .ok (.iconst 1, 1) := by decide +kernel
theorem dX8_addRecord_29 : decode cX8_addRecord 29 = .ok (.iadd, 1) := by decide +kernel
theorem dX8_addRecord_30 : decode cX8_addRecord 30 = .ok (.putfield 24, 3) := by decide +kernel
theorem dX8_addRecord_33 : decode cX8_addRecord 33 = .ok (.aload_n 0, 1) := by decide +kernel
theorem dX8_addRecord_34 : decode cX8_addRecord 34 = .ok (.getfield 44, 3) := by decide +kernel
theorem dX8_addRecord_37 : decode cX8_addRecord 37 = .ok (.iload_n 2, 1) := by decide +kernel
theorem dX8_addRecord_38 : decode cX8_addRecord 38 = .ok (.invokevirtual 82, 3) := by decide +kernel
theorem dX8_addRecord_41 : decode cX8_addRecord 41 = .ok (.astore 4, 2) := by decide +kernel
theorem dX8_addRecord_43 : decode cX8_addRecord 43 = .ok (.iconst 0, 1) := by decide +kernel
theorem dX8_addRecord_44 : decode cX8_addRecord 44 = .ok (.istore 5, 2) := by decide +kernel
theorem dX8_addRecord_46 : decode cX8_addRecord 46 = .ok (.iload 5, 2) := by decide +kernel
theorem dX8_addRecord_48 : decode cX8_addRecord 48 = .ok (.aload 4, 2) := by decide +kernel
theorem dX8_addRecord_50 : decode cX8_addRecord 50 = .ok (.getfield 85, 3) := by decide +kernel
theorem dX8_addRecord_53 : decode cX8_addRecord 53 = .ok (.if_icmp .ge 56, 3) := by decide +kernel
theorem dX8_addRecord_56 : decode cX8_addRecord 56 = .ok (.aload 4, 2) := by decide +kernel
theorem dX8_addRecord_58 : decode cX8_addRecord 58 = .ok (.iload 5, 2) := by decide +kernel
theorem dX8_addRecord_60 : decode cX8_addRecord 60 = .ok (.invokevirtual 92, 3) := by decide +kernel
theorem dX8_addRecord_63 : decode cX8_addRecord 63 = .ok (.istore 6, 2) := by decide +kernel
theorem dX8_addRecord_65 : decode cX8_addRecord 65 = .ok (.iload 6, 2) := by decide +kernel
theorem dX8_addRecord_67 : decode cX8_addRecord 67 = .ok (.bipush 8, 2) := by decide +kernel
theorem dX8_addRecord_69 : decode cX8_addRecord 69 = .ok (.if_icmp .ne 8, 3) := by decide +kernel
theorem dX8_addRecord_72 : decode cX8_addRecord 72 = .ok (.iload_n 3, 1) := by decide +kernel
theorem dX8_addRecord_73 : decode cX8_addRecord 73 = .ok (.i2l, 1) := by decide +kernel
theorem dX8_addRecord_74 : decode cX8_addRecord 74 = .ok (.goto 9, 3) := by decide +kernel
theorem dX8_addRecord_77 : decode cX8_addRecord 77 = .ok (.aload_n 1, 1) := by decide +kernel
theorem dX8_addRecord_78 : decode cX8_addRecord 78 = .ok (.iload 6, 2) := by decide +kernel
theorem dX8_addRecord_80 : decode cX8_addRecord 80 = .ok (.invokevirtual 95, 3) := by decide +kernel
theorem dX8_addRecord_83 : decode cX8_addRecord 83 = .ok (.lstore 7, 2) := by decide +kernel
theorem dX8_addRecord_85 : decode cX8_addRecord 85 = .ok (.aload_n 0, 1) := by decide +kernel
theorem dX8_addRecord_86 : decode cX8_addRecord 86 = .ok (.getfield 14, 3) := by decide +kernel
theorem dX8_addRecord_89 : decode cX8_addRecord 89 = .ok (.lload 7, 2) := by decide +kernel
theorem dX8_addRecord_91 : decode cX8_addRecord 91 = .ok (.ldc2_w 101, 3) := by decide +kernel
theorem dX8_addRecord_94 : decode cX8_addRecord 94 = .ok (.land, 1) := by decide +kernel
theorem dX8_addRecord_95 : decode cX8_addRecord 95 = .ok (.iload 6, 2) := by decide +kernel
theorem dX8_addRecord_97 : decode cX8_addRecord 97 = .ok (.invokestatic 103, 3) := by decide +kernel
theorem dX8_addRecord_100 : decode cX8_addRecord 100 = .ok (.invokevirtual 106, 3) := by decide +kernel
theorem dX8_addRecord_103 : decode cX8_addRecord 103 = .ok (.iinc 5 1, 3) := by decide +kernel
theorem dX8_addRecord_106 : decode cX8_addRecord 106 = .ok (.goto (-60), 3) := by decide +kernel
theorem dX8_addRecord_109 : decode cX8_addRecord 109 = .ok (.return_, 1) := by decide +kernel
set_option maxRecDepth 20000 in
theorem ggX8_sendPending_X8_beginMessage : GoodIn wsX8_sendPending wsX8_beginMessage := goodIn_ca (goodIn_r _ [11, 12, 13, 14, 15, 16, 17, 18, 19, 20, 21, 22, 23, 24, 25, 26, 27, 28, 29, 30, 31, 32, 33, 34, 35, 36, 10, 37, 5, 38, 39, 40, 41, 42, 43, 44, 45, 3, 46, 47, 48, 49, 50, 51, 52, 53, 54, 55, 56, 57, 58, 59, 60, 61, 62, 63, 64, 65, 66, 67, 68, 69, 70, 71, 72, 73, 74, 75, 76, 103, 104, 105, 106, 107, 108, 109, 110, 111, 112, 119, 120, 121, 117, 118, 113, 114, 115, 116, 122, 123, 124, 125, 126, 127] (by decide +kernel) (by decide +kernel)) (goodIn_sub (fun _ h => List.mem_cons_of_mem _ (List.mem_append_right _ h)) (by decide +kernel))
set_option maxRecDepth 20000 in
theorem gX8_sendPending_X8_beginMessage : GoodIn wsX8_sendPending (wsV RX8 110 RX8 yX8_beginMessage wsX8_beginMessage) := goodIn_app (goodIn_of _ (by decide +kernel)) ggX8_sendPending_X8_beginMessage
set_option maxRecDepth 20000 in
theorem ggX8_sendPending_X1_effective : GoodIn wsX8_sendPending wsX1_effective := goodIn_r _ [51, 52, 122, 123, 124, 125, 126, 127] (by decide +kernel) (by decide +kernel)
set_option maxRecDepth 20000 in
theorem gX8_sendPending_X1_effective : GoodIn wsX8_sendPending (wsV RX8 82 RX1 yX1_effective wsX1_effective) := goodIn_app (goodIn_of _ (by decide +kernel)) ggX8_sendPending_X1_effective
set_option maxRecDepth 20000 in
theorem ggX8_sendPending_X1_get : GoodIn wsX8_sendPending wsX1_get := goodIn_ca (goodIn_r _ [56, 57, 122, 123, 124, 125, 126, 127] (by decide +kernel) (by decide +kernel)) (goodIn_sub (fun _ h => List.mem_cons_of_mem _ (List.mem_append_right _ h)) (by decide +kernel))
set_option maxRecDepth 20000 in
theorem gX8_sendPending_X1_get : GoodIn wsX8_sendPending (wsV RX8 88 RX1 yX1_get wsX1_get) := goodIn_app (goodIn_of _ (by decide +kernel)) ggX8_sendPending_X1_get
set_option maxRecDepth 20000 in
theorem ggX8_sendPending_X8_endMessage : GoodIn wsX8_sendPending wsX8_endMessage := goodIn_ca (goodIn_r _ [80, 5, 12, 40, 81, 14, 73, 74, 75, 30, 76, 32, 33, 82, 83, 84, 18, 85, 20, 86, 117, 118, 103, 104, 105, 106, 107, 108, 109, 110, 111, 112, 119, 120, 121] (by decide +kernel) (by decide +kernel)) (goodIn_sub (fun _ h => List.mem_cons_of_mem _ (List.mem_append_right _ h)) (by decide +kernel))
set_option maxRecDepth 20000 in
theorem gX8_sendPending_X8_endMessage : GoodIn wsX8_sendPending (wsV RX8 117 RX8 yX8_endMessage wsX8_endMessage) := goodIn_app (goodIn_of _ (by decide +kernel)) ggX8_sendPending_X8_endMessage
set_option maxRecDepth 20000 in
theorem ggX8_sendPending_X5_put : GoodIn wsX8_sendPending wsX5_put := goodIn_ca (goodIn_r _ [31, 32, 33, 117, 118] (by decide +kernel) (by decide +kernel)) (goodIn_sub (fun _ h => List.mem_cons_of_mem _ (List.mem_append_right _ h)) (by decide +kernel))
set_option maxRecDepth 20000 in
theorem gX8_sendPending_X5_put : GoodIn wsX8_sendPending (wsV RX8 106 RX5 yX5_put wsX5_put) := goodIn_app (goodIn_of _ (by decide +kernel)) ggX8_sendPending_X5_put
set_option maxRecDepth 20000 in
theorem ggX8_sendPending_X5_putFrom : GoodIn wsX8_sendPending wsX5_putFrom := goodIn_r _ [90, 33, 32, 91, 92, 93, 94, 95, 96, 97, 98, 117, 118] (by decide +kernel) (by decide +kernel)
set_option maxRecDepth 20000 in
theorem gX8_sendPending_X5_putFrom : GoodIn wsX8_sendPending (wsV RX8 121 RX5 yX5_putFrom wsX5_putFrom) := goodIn_app (goodIn_of _ (by decide +kernel)) ggX8_sendPending_X5_putFrom
set_option maxRecDepth 20000 in
theorem ggX8_sendPending_X5_putAt : GoodIn wsX8_sendPending wsX5_putAt := goodIn_ca (goodIn_r _ [76, 32, 33, 117, 118] (by decide +kernel) (by decide +kernel)) (goodIn_sub (fun _ h => List.mem_cons_of_mem _ (List.mem_append_right _ h)) (by decide +kernel))
set_option maxRecDepth 20000 in
theorem gX8_sendPending_X5_putAt : GoodIn wsX8_sendPending (wsV RX8 125 RX5 yX5_putAt wsX5_putAt) := goodIn_app (goodIn_of _ (by decide +kernel)) ggX8_sendPending_X5_putAt
set_option maxRecDepth 20000 in
theorem ggX8_sendPending_X8_emptyPending : GoodIn wsX8_sendPending wsX8_emptyPending := goodIn_r _ [102, 6, 5, 1, 103, 104, 105, 106, 107, 108, 109, 110, 111, 112, 117, 118] (by decide +kernel) (by decide +kernel)
set_option maxRecDepth 20000 in
theorem gX8_sendPending_X8_emptyPending : GoodIn wsX8_sendPending (wsV RX8 55 RX8 yX8_emptyPending wsX8_emptyPending) := goodIn_app (goodIn_of _ (by decide +kernel)) ggX8_sendPending_X8_emptyPending
theorem dX8_sendPending_0 : decode cX8_sendPending 0 = .ok (.aload_n 0, 1) := by decide +kernel
theorem dX8_sendPending_1 : decode cX8_sendPending 1 = .ok (.getfield 24, 3) := by decide +kernel
theorem dX8_sendPending_4 : decode cX8_sendPending 4 = .ok (.ifCond .ne 4, 3) := by decide +kernel
theorem dX8_sendPending_7 : decode cX8_sendPending 7 = .ok (.return_, 1) := by decide +kernel
theorem dX8_sendPending_8 : decode cX8_sendPending 8 = .ok (.aload_n 0, 1) := by decide +kernel
theorem dX8_sendPending_9 : decode cX8_sendPending 9 = .ok (.iload_n 1, 1) := by decide +kernel
theorem dX8_sendPending_10 : decode cX8_sendPending 10 = .ok (.invokevirtual 110, 3) := by decide +kernel
theorem dX8_sendPending_13 : decode cX8_sendPending 13 = .ok (.astore_n 2, 1) := by decide +kernel
theorem dX8_sendPending_14 : decode cX8_sendPending 14 = .ok (.iconst 0, 1) := by decide +kernel
theorem dX8_sendPending_15 : decode cX8_sendPending 15 = .ok (.istore_n 3, 1) := by decide +kernel
theorem dX8_sendPending_16 : decode cX8_sendPending 16 = .ok (.iconst (-1), 1) := by decide +kernel
theorem dX8_sendPending_17 : decode cX8_sendPending 17 = .ok (.istore 4, 2) := by decide +kernel
theorem dX8_sendPending_19 : decode cX8_sendPending 19 = .ok (.iconst 0, 1) := by decide +kernel
theorem dX8_sendPending_20 : decode cX8_sendPending 20 = .ok (.istore 5, 2) := by decide +kernel
theorem dX8_sendPending_22 : decode cX8_sendPending 22 = .ok (.iconst 0, 1) := by decide +kernel
theorem dX8_sendPending_23 : decode cX8_sendPending 23 = .ok (.istore 6, 2) := by decide +kernel
theorem dX8_sendPending_25 : decode cX8_sendPending 25 = .ok (.iconst 0, 1) := by decide +kernel
theorem dX8_sendPending_26 : decode cX8_sendPending 26 = .ok (.istore 7, 2) := by decide +kernel
theorem dX8_sendPending_28 : decode cX8_sendPending 28 = .ok (.iload 7, 2) := by decide +kernel
theorem dX8_sendPending_30 : decode cX8_sendPending 30 = .ok (.aload_n 0, 1) := by decide +kernel
theorem dX8_sendPending_31 : decode cX8_sendPending 31 = .ok (.getfield 24, 3) := by decide +kernel
theorem dX8_sendPending_34 : decode cX8_sendPending 34 = .ok (.if_icmp .ge 170, 3) := by decide +kernel
theorem dX8_sendPending_37 : decode cX8_sendPending 37 = .ok (.iload 7, 2) := by decide +kernel
theorem dX8_sendPending_39 : decode cX8_sendPending 39 = .ok (.aload_n 0, 1) := by decide +kernel
theorem dX8_sendPending_40 : decode cX8_sendPending 40 = .ok (.getfield 20, 3) := by decide +kernel
theorem dX8_sendPending_43 : decode cX8_sendPending 43 = .ok (.arraylength, 1) := by decide +kernel
theorem dX8_sendPending_44 : decode cX8_sendPending 44 = .ok (.if_icmp .ge 160, 3) := by decide +kernel
theorem dX8_sendPending_47 : decode cX8_sendPending 47 = .ok (.aload_n 0, 1) := by decide +kernel
theorem dX8_sendPending_48 : decode cX8_sendPending 48 = .ok (.getfield 20, 3) := by decide +kernel
theorem dX8_sendPending_51 : decode cX8_sendPending 51 = .ok (.iload 7, 2) := by decide +kernel
theorem dX8_sendPending_53 : decode cX8_sendPending 53 = .ok (.iaload, 1) := by decide +kernel
theorem dX8_sendPending_54 : decode cX8_sendPending 54 = .ok (.istore 8, 2) := by decide +kernel
theorem dX8_sendPending_56 : decode cX8_sendPending 56 = .ok (.aload_n 0, 1) := by decide +kernel
theorem dX8_sendPending_57 : decode cX8_sendPending 57 = .ok (.getfield 44, 3) := by decide +kernel
theorem dX8_sendPending_60 : decode cX8_sendPending 60 = .ok (.iload 8, 2) := by decide +kernel
theorem dX8_sendPending_62 : decode cX8_sendPending 62 = .ok (.invokevirtual 82, 3) := by decide +kernel
theorem dX8_sendPending_65 : decode cX8_sendPending 65 = .ok (.getfield 114, 3) := by decide +kernel
theorem dX8_sendPending_68 : decode cX8_sendPending 68 = .ok (.istore 9, 2) := by decide +kernel
theorem dX8_sendPending_70 : decode cX8_sendPending 70 = .ok (.iload 8, 2) := by decide +kernel
theorem dX8_sendPending_72 : decode cX8_sendPending 72 = .ok (.iload 4, 2) := by decide +kernel
theorem dX8_sendPending_74 : decode cX8_sendPending 74 = .ok (.if_icmp .ne 8, 3) := by decide +kernel
theorem dX8_sendPending_77 : decode cX8_sendPending 77 = .ok (.iload 9, 2) := by decide +kernel
theorem dX8_sendPending_79 : decode cX8_sendPending 79 = .ok (.goto 7, 3) := by decide +kernel
theorem dX8_sendPending_82 : decode cX8_sendPending 82 = .ok (.iload 9, 2) := by decide +kernel
theorem dX8_sendPending_84 : decode cX8_sendPending 84 = .ok (.iconst 4, 1) := by decide +kernel
theorem dX8_sendPending_85 : decode cX8_sendPending 85 = .ok (.iadd, 1) := by decide +kernel
theorem dX8_sendPending_86 : decode cX8_sendPending 86 = .ok (.istore 10, 2) := by decide +kernel
theorem dX8_sendPending_88 : decode cX8_sendPending 88 = .ok (.aload_n 2, 1) := by decide +kernel
theorem dX8_sendPending_89 : decode cX8_sendPending 89 = .ok (.getfield 61, 3) := by decide +kernel
theorem dX8_sendPending_92 : decode cX8_sendPending 92 = .ok (.iload 10, 2) := by decide +kernel
theorem dX8_sendPending_94 : decode cX8_sendPending 94 = .ok (.iadd, 1) := by decide +kernel
theorem dX8_sendPending_95 : decode cX8_sendPending 95 = .ok (.aload_n 0, 1) := by decide +kernel
theorem dX8_sendPending_96 : decode cX8_sendPending 96 = .ok (.getfield 44, 3) := by decide +kernel
theorem dX8_sendPending_99 : decode cX8_sendPending 99 = .ok (.bipush 7, 2) := by decide +kernel
theorem dX8_sendPending_101 : decode cX8_sendPending 101 = .ok (.invokevirtual 88, 3) := by decide +kernel
theorem dX8_sendPending_104 : decode cX8_sendPending 104 = .ok (.if_icmp .le 20, 3) := by decide +kernel
theorem dX8_sendPending_107 : decode cX8_sendPending 107 = .ok (.aload_n 0, 1) := by decide +kernel
theorem dX8_sendPending_108 : decode cX8_sendPending 108 = .ok (.aload_n 2, 1) := by decide +kernel
theorem dX8_sendPending_109 : decode cX8_sendPending 109 = .ok (.iload_n 3, 1) := by decide +kernel
theorem dX8_sendPending_110 : decode cX8_sendPending 110 = .ok (.invokevirtual 117, 3) := by decide +kernel
theorem dX8_sendPending_113 : decode cX8_sendPending 113 = .ok (.aload_n 0, 1) := by decide +kernel
theorem dX8_sendPending_114 : decode cX8_sendPending 114 = .ok (.iload_n 1, 1) := by decide +kernel
theorem dX8_sendPending_115 : decode cX8_sendPending 115 = .ok (.invokevirtual 110, 3) := by decide +kernel
theorem dX8_sendPending_118 : decode cX8_sendPending 118 = .ok (.astore_n 2, 1) := by decide +kernel
theorem dX8_sendPending_119 : decode cX8_sendPending 119 = .ok (.iconst 0, 1) := by decide +kernel
theorem dX8_sendPending_120 : decode cX8_sendPending 120 = .ok (.istore_n 3, 1) := by decide +kernel
theorem dX8_sendPending_121 : decode cX8_sendPending 121 = .ok (.iconst (-1), 1) := by decide +kernel
theorem dX8_sendPending_122 : decode cX8_sendPending 122 = .ok (.istore 4, 2) := by decide +kernel
theorem dX8_sendPending_124 : decode cX8_sendPending 124 = .ok (.iload 8, 2) := by decide +kernel
theorem dX8_sendPending_126 : decode cX8_sendPending 126 = .ok (.iload 4, 2) := by decide +kernel
theorem dX8_sendPending_128 : decode cX8_sendPending 128 = .ok (.if_icmp .eq 31, 3) := by decide +kernel
theorem dX8_sendPending_131 : decode cX8_sendPending 131 = .ok (.iload 8, 2) := by decide +kernel
theorem dX8_sendPending_133 : decode cX8_sendPending 133 = .ok (.istore 4, 2) := by decide +kernel
theorem dX8_sendPending_135 : decode cX8_sendPending 135 = .ok (.aload_n 2, 1) := by decide +kernel
theorem dX8_sendPending_136 : decode cX8_sendPending 136 = .ok (.getfield 61, 3) := by decide +kernel
theorem dX8_sendPending_139 : decode cX8_sendPending 139 = .ok (.istore 5, 2) := by decide +kernel
theorem dX8_sendPending_141 : decode cX8_sendPending 141 = .ok (.aload_n 2, 1) := by decide +kernel
theorem dX8_sendPending_142 : decode cX8_sendPending 142 = .ok (.sipush 256, 3) := by decide +kernel
theorem dX8_sendPending_145 : decode cX8_sendPending 145 = .ok (.iload 8, 2) := by decide +kernel
theorem dX8_sendPending_147 : decode cX8_sendPending 147 = .ok (.iadd, 1) := by decide +kernel
theorem dX8_sendPending_148 : decode cX8_sendPending 148 = .ok (.i2l, 1) := by decide +kernel
theorem dX8_sendPending_149 : decode cX8_sendPending 149 = .ok (.iconst 2, 1) := by decide +kernel
theorem dX8_sendPending_150 : decode cX8_sendPending 150 = .ok (.invokevirtual 106, 3) := by decide +kernel
theorem dX8_sendPending_153 : decode cX8_sendPending 153 = .ok (.aload_n 2, 1) := by decide +kernel
theorem dX8_sendPending_154 : decode cX8_sendPending 154 = .ok (.lconst 0, 1) := by decide +kernel
theorem dX8_sendPending_155 : decode cX8_sendPending 155 = .ok (.iconst 2, 1) := by decide +kernel
theorem dX8_sendPending_156 : decode cX8_sendPending 156 = .ok (.invokevirtual 106, 3) := by decide +kernel
theorem dX8_sendPending_159 : decode cX8_sendPending 159 = .ok (.aload_n 2, 1) := by decide +kernel
theorem dX8_sendPending_160 : decode cX8_sendPending 160 = .ok (.aload_n 0, 1) := by decide +kernel
theorem dX8_sendPending_161 : decode cX8_sendPending 161 = .ok (.getfield 14, 3) := by decide +kernel
theorem dX8_sendPending_164 : decode cX8_sendPending 164 = .ok (.iload 6, 2) := by decide +kernel
theorem dX8_sendPending_166 : decode cX8_sendPending 166 = .ok (.iload 9, 2) := by decide +kernel
theorem dX8_sendPending_168 : decode cX8_sendPending 168 = .ok (.invokevirtual 121, 3) := by decide +kernel
theorem dX8_sendPending_171 : decode cX8_sendPending 171 = .ok (.aload_n 2, 1) := by decide +kernel
theorem dX8_sendPending_172 : decode cX8_sendPending 172 = .ok (.iload 5, 2) := by decide +kernel
theorem dX8_sendPending_174 : decode cX8_sendPending 174 = .ok (.iconst 2, 1) := by decide +kernel
theorem dX8_sendPending_175 : decode cX8_sendPending 175 = .ok (.iadd, 1) := by decide +kernel
theorem dX8_sendPending_176 : decode cX8_sendPending 176 = .ok (.aload_n 2, 1) := by decide +kernel
theorem dX8_sendPending_177 : decode cX8_sendPending 177 = .ok (.getfield 61, 3) := by decide +kernel
theorem dX8_sendPending_180 : decode cX8_sendPending 180 = .ok (.iload 5, 2) := by decide +kernel
theorem dX8_sendPending_182 : decode cX8_sendPending 182 = .ok (.isub, 1) := by decide +kernel
theorem dX8_sendPending_183 : decode cX8_sendPending 183 = .ok (.i2l, 1) := by decide +kernel
theorem dX8_sendPending_184 : decode cX8_sendPending 184 = .ok (.iconst 2, 1) := by decide +kernel
theorem dX8_sendPending_185 : decode cX8_sendPending 185 = .ok (.invokevirtual 125, 3) := by decide +kernel
theorem dX8_sendPending_188 : decode cX8_sendPending 188 = .ok (.iload 6, 2) := by decide +kernel
theorem dX8_sendPending_190 : decode cX8_sendPending 190 = .ok (.iload 9, 2) := by decide +kernel
theorem dX8_sendPending_192 : decode cX8_sendPending 192 = .ok (.iadd, 1) := by decide +kernel
theorem dX8_sendPending_193 : decode cX8_sendPending 193 = .ok (.istore 6, 2) := by decide +kernel
theorem dX8_sendPending_195 : decode cX8_sendPending 195 = .ok (.iinc 3 1, 3) := by decide +kernel
theorem dX8_sendPending_198 : decode cX8_sendPending 198 = .ok (.iinc 7 1, 3) := by decide +kernel
theorem dX8_sendPending_201 : decode cX8_sendPending 201 = .ok (.goto (-173), 3) := by decide +kernel
theorem dX8_sendPending_204 : decode cX8_sendPending 204 = .ok (.aload_n 0, 1) := by decide +kernel
theorem dX8_sendPending_205 : decode cX8_sendPending 205 = .ok (.aload_n 2, 1) := by decide +kernel
theorem dX8_sendPending_206 : decode cX8_sendPending 206 = .ok (.iload_n 3, 1) := by decide +kernel
theorem dX8_sendPending_207 : decode cX8_sendPending 207 = .ok (.invokevirtual 117, 3) := by decide +kernel
theorem dX8_sendPending_210 : decode cX8_sendPending 210 = .ok (.aload_n 0, 1) := by decide +kernel
theorem dX8_sendPending_211 : decode cX8_sendPending 211 = .ok (.invokevirtual 55, 3) := by decide +kernel
theorem dX8_sendPending_214 : decode cX8_sendPending 214 = .ok (.return_, 1) := by decide +kernel
set_option maxRecDepth 20000 in
theorem ggX8_beginMessage_X7_freeMessage : GoodIn wsX8_beginMessage wsX7_freeMessage := goodIn_r _ [8, 9, 10, 11, 12, 13, 7, 14, 15, 79, 80, 81, 82, 83] (by decide +kernel) (by decide +kernel)
set_option maxRecDepth 20000 in
theorem gX8_beginMessage_X7_freeMessage : GoodIn wsX8_beginMessage (wsV RX8 129 RX7 yX7_freeMessage wsX7_freeMessage) := goodIn_app (goodIn_of _ (by decide +kernel)) ggX8_beginMessage_X7_freeMessage
set_option maxRecDepth 20000 in
theorem ggX8_beginMessage_X5_put : GoodIn wsX8_beginMessage wsX5_put := goodIn_ca (goodIn_r _ [20, 21, 22, 82, 83] (by decide +kernel) (by decide +kernel)) (goodIn_sub (fun _ h => List.mem_cons_of_mem _ (List.mem_append_right _ h)) (by decide +kernel))
set_option maxRecDepth 20000 in
theorem gX8_beginMessage_X5_put : GoodIn wsX8_beginMessage (wsV RX8 106 RX5 yX5_put wsX5_put) := goodIn_app (goodIn_of _ (by decide +kernel)) ggX8_beginMessage_X5_put
set_option maxRecDepth 20000 in
theorem ggX8_beginMessage_X8_putTemplateSet : GoodIn wsX8_beginMessage wsX8_putTemplateSet := goodIn_ca (goodIn_r _ [27, 28, 29, 30, 31, 32, 33, 34, 35, 26, 36, 37, 38, 39, 40, 41, 42, 43, 44, 45, 46, 47, 48, 49, 16, 17, 18, 19, 20, 21, 22, 50, 51, 52, 53, 54, 55, 56, 57, 58, 59, 60, 61, 62, 63, 64, 65, 66, 67, 68, 82, 83, 69, 70, 71, 72, 73, 74, 75, 76, 77, 78, 84, 85, 86, 87, 88, 89, 90, 91, 92, 93] (by decide +kernel) (by decide +kernel)) (goodIn_sub (fun _ h => List.mem_cons_of_mem _ (List.mem_append_right _ h)) (by decide +kernel))
set_option maxRecDepth 20000 in
theorem gX8_beginMessage_X8_putTemplateSet : GoodIn wsX8_beginMessage (wsV RX8 137 RX8 yX8_putTemplateSet wsX8_putTemplateSet) := goodIn_app (goodIn_of _ (by decide +kernel)) ggX8_beginMessage_X8_putTemplateSet
theorem dX8_beginMessage_0 : decode cX8_beginMessage 0 = .ok (.aload_n 0, 1) := by decide +kernel
theorem dX8_beginMessage_1 : decode cX8_beginMessage 1 = .ok (.getfield 48, 3) := by decide +kernel
theorem dX8_beginMessage_4 : decode cX8_beginMessage 4 = .ok (.invokevirtual 129, 3) := by decide +kernel
theorem dX8_beginMessage_7 : decode cX8_beginMessage 7 = .ok (.astore_n 2, 1) := by decide +kernel
theorem dX8_beginMessage_8 : decode cX8_beginMessage 8 = .ok (.aload_n 2, 1) := by decide +kernel
theorem dX8_beginMessage_9 : decode cX8_beginMessage 9 = .ok (.ldc2_w 135, 3) := by decide +kernel
theorem dX8_beginMessage_12 : decode cX8_beginMessage 12 = .ok (.iconst 2, 1) := by decide +kernel
theorem dX8_beginMessage_13 : decode cX8_beginMessage 13 = .ok (.invokevirtual 106, 3) := by decide +kernel
theorem dX8_beginMessage_16 : decode cX8_beginMessage 16 = .ok (.aload_n 2, 1) := by decide +kernel
theorem dX8_beginMessage_17 : decode cX8_beginMessage 17 = .ok (.lconst 0, 1) := by decide +kernel
theorem dX8_beginMessage_18 : decode cX8_beginMessage 18 = .ok (.iconst 2, 1) := by decide +kernel
theorem dX8_beginMessage_19 : decode cX8_beginMessage 19 = .ok (.invokevirtual 106, 3) := by decide +kernel
theorem dX8_beginMessage_22 : decode cX8_beginMessage 22 = .ok (.aload_n 2, 1) := by decide +kernel
theorem dX8_beginMessage_23 : decode cX8_beginMessage 23 = .ok (.iload_n 1, 1) := by decide +kernel
theorem dX8_beginMessage_24 : decode cX8_beginMessage 24 = .ok (.i2l, 1) := by decide +kernel
theorem dX8_beginMessage_25 : decode cX8_beginMessage 25 = .ok (.iconst 4, 1) := by decide +kernel
theorem dX8_beginMessage_26 : decode cX8_beginMessage 26 = .ok (.invokevirtual 106, 3) := by decide +kernel
theorem dX8_beginMessage_29 : decode cX8_beginMessage 29 = .ok (.aload_n 2, 1) := by decide +kernel
theorem dX8_beginMessage_30 : decode cX8_beginMessage 30 = .ok (.aload_n 0, 1) := by decide +kernel
theorem dX8_beginMessage_31 : decode cX8_beginMessage 31 = .ok (.getfield 41, 3) := by decide +kernel
theorem dX8_beginMessage_34 : decode cX8_beginMessage 34 = .ok (.i2l, 1) := by decide +kernel
theorem dX8_beginMessage_35 : decode cX8_beginMessage 35 = .ok (.iconst 4, 1) := by decide +kernel
theorem dX8_beginMessage_36 : decode cX8_beginMessage 36 = .ok (.invokevirtual 106, 3) := by decide +kernel
theorem dX8_beginMessage_39 : decode cX8_beginMessage 39 = .ok (.aload_n 2, 1) := by decide +kernel
theorem dX8_beginMessage_40 : decode cX8_beginMessage 40 = .ok (.lconst 0, 1) := by decide +kernel
theorem dX8_beginMessage_41 : decode cX8_beginMessage 41 = .ok (.iconst 4, 1) := by decide +kernel
theorem dX8_beginMessage_42 : decode cX8_beginMessage 42 = .ok (.invokevirtual 106, 3) := by decide +kernel
theorem dX8_beginMessage_45 : decode cX8_beginMessage 45 = .ok (.aload_n 0, 1) := by decide +kernel
theorem dX8_beginMessage_46 : decode cX8_beginMessage 46 = .ok (.aload_n 2, 1) := by decide +kernel
theorem dX8_beginMessage_47 : decode cX8_beginMessage 47 = .ok (.iload_n 1, 1) := by decide +kernel
theorem dX8_beginMessage_48 : decode cX8_beginMessage 48 = .ok (.invokevirtual 137, 3) := by decide +kernel
theorem dX8_beginMessage_51 : decode cX8_beginMessage 51 = .ok (.aload_n 2, 1) := by decide +kernel
theorem dX8_beginMessage_52 : decode cX8_beginMessage 52 = .ok (.areturn, 1) := by decide +kernel
set_option maxRecDepth 20000 in
theorem ggX8_endMessage_X5_putAt : GoodIn wsX8_endMessage wsX5_putAt := goodIn_ca (goodIn_r _ [10, 11, 12, 20, 21] (by decide +kernel) (by decide +kernel)) (goodIn_sub (fun _ h => List.mem_cons_of_mem _ (List.mem_append_right _ h)) (by decide +kernel))
set_option maxRecDepth 20000 in
theorem gX8_endMessage_X5_putAt : GoodIn wsX8_endMessage (wsV RX8 125 RX5 yX5_putAt wsX5_putAt) := goodIn_app (goodIn_of _ (by decide +kernel)) ggX8_endMessage_X5_putAt
set_option maxRecDepth 20000 in
theorem ggX8_endMessage_X7_addFreeMessage : GoodIn wsX8_endMessage wsX7_addFreeMessage := goodIn_r _ [17, 18, 19, 32, 33, 34] (by decide +kernel) (by decide +kernel)
set_option maxRecDepth 20000 in
theorem gX8_endMessage_X7_addFreeMessage : GoodIn wsX8_endMessage (wsV RX8 140 RX7 yX7_addFreeMessage wsX7_addFreeMessage) := goodIn_app (goodIn_of _ (by decide +kernel)) ggX8_endMessage_X7_addFreeMessage
theorem dX8_endMessage_0 : decode cX8_endMessage 0 = .ok (.aload_n 1, 1) := by decide +kernel
theorem dX8_endMessage_1 : decode cX8_endMessage 1 = .ok (.iconst 2, 1) := by decide +kernel
theorem dX8_endMessage_2 : decode cX8_endMessage 2 = .ok (.aload_n 1, 1) := by decide +kernel
theorem dX8_endMessage_3 : decode cX8_endMessage 3 = .ok (.getfield 61, 3) := by decide +kernel
theorem dX8_endMessage_6 : decode cX8_endMessage 6 = .ok (.i2l, 1) := by decide +kernel
theorem dX8_endMessage_7 : decode cX8_endMessage 7 = .ok (.iconst 2, 1) := by decide +kernel
theorem dX8_endMessage_8 : decode cX8_endMessage 8 = .ok (.invokevirtual 125, 3) := by decide +kernel
theorem dX8_endMessage_11 : decode cX8_endMessage 11 = .ok (.aload_n 1, 1) := by decide +kernel
theorem dX8_endMessage_12 : decode cX8_endMessage 12 = .ok (.bipush 12, 2) := by decide +kernel
theorem dX8_endMessage_14 : decode cX8_endMessage 14 = .ok (.iload_n 2, 1) := by decide +kernel
theorem dX8_endMessage_15 : decode cX8_endMessage 15 = .ok (.i2l, 1) := by decide +kernel
theorem dX8_endMessage_16 : decode cX8_endMessage 16 = .ok (.iconst 4, 1) := by decide +kernel
theorem dX8_endMessage_17 : decode cX8_endMessage 17 = .ok (.invokevirtual 125, 3) := by decide +kernel
theorem dX8_endMessage_20 : decode cX8_endMessage 20 = .ok (.aload_n 0, 1) := by decide +kernel
theorem dX8_endMessage_21 : decode cX8_endMessage 21 = .ok (.getfield 48, 3) := by decide +kernel
theorem dX8_endMessage_24 : decode cX8_endMessage 24 = .ok (.invokevirtual 140, 3) := by decide +kernel
theorem dX8_endMessage_27 : decode cX8_endMessage 27 = .ok (.aload_n 0, 1) := by decide +kernel
theorem dX8_endMessage_28 : decode cX8_endMessage 28 = .ok (.dup, 1) := by decide +kernel
theorem dX8_endMessage_29 : decode cX8_endMessage 29 = .ok (.getfield 34, 3) := by decide +kernel
theorem dX8_endMessage_32 : decode cX8_endMessage 32 = .ok (.iconst 1, 1) := by decide +kernel
theorem dX8_endMessage_33 : decode cX8_endMessage 33 = .ok (.iadd, 1) := by decide +kernel
theorem dX8_endMessage_34 : decode cX8_endMessage 34 = .ok (.putfield 34, 3) := by decide +kernel
theorem dX8_endMessage_37 : decode cX8_endMessage 37 = .ok (.aload_n 0, 1) := by decide +kernel
theorem dX8_endMessage_38 : decode cX8_endMessage 38 = .ok (.dup, 1) := by decide +kernel
theorem dX8_endMessage_39 : decode cX8_endMessage 39 = .ok (.getfield 37, 3) := by decide +kernel
theorem dX8_endMessage_42 : decode cX8_endMessage 42 = .ok (.iload_n 2, 1) := by decide +kernel
theorem dX8_endMessage_43 : decode cX8_endMessage 43 = .ok (.i2l, 1) := by decide +kernel
theorem dX8_endMessage_44 : decode cX8_endMessage 44 = .ok (.ladd, 1) := by decide +kernel
theorem dX8_endMessage_45 : decode cX8_endMessage 45 = .ok (.putfield 37, 3) := by decide +kernel
theorem dX8_endMessage_48 : decode cX8_endMessage 48 = .ok (.aload_n 0, 1) := by decide +kernel
theorem dX8_endMessage_49 : decode cX8_endMessage 49 = .ok (.dup, 1) := by decide +kernel
theorem dX8_endMessage_50 : decode cX8_endMessage 50 = .ok (.getfield 41, 3) := by decide +kernel
theorem dX8_endMessage_53 : decode cX8_endMessage 53 = .ok (.iload_n 2, 1) := by decide +kernel
theorem dX8_endMessage_54 : decode cX8_endMessage 54 = .ok (.iadd, 1) := by decide +kernel
theorem dX8_endMessage_55 : decode cX8_endMessage 55 = .ok (.putfield 41, 3) := by decide +kernel
theorem dX8_endMessage_58 : decode cX8_endMessage 58 = .ok (.return_, 1) := by decide +kernel
set_option maxRecDepth 20000 in
theorem ggX8_putTemplateSet_X8_mustSend : GoodIn wsX8_putTemplateSet wsX8_mustSend := goodIn_ca (goodIn_r _ [10, 11, 12, 3, 4, 5, 13, 14, 15, 16, 17, 18, 19, 20, 21, 22, 23, 52, 53, 54, 55, 56, 57, 58, 59, 60, 61, 62, 63, 64, 65, 66, 67, 68, 69, 70, 71] (by decide +kernel) (by decide +kernel)) (goodIn_sub (fun _ h => List.mem_cons_of_mem _ (List.mem_append_right _ h)) (by decide +kernel))
set_option maxRecDepth 20000 in
theorem gX8_putTemplateSet_X8_mustSend : GoodIn wsX8_putTemplateSet (wsV RX8 143 RX8 yX8_mustSend wsX8_mustSend) := goodIn_app (goodIn_of _ (by decide +kernel)) ggX8_putTemplateSet_X8_mustSend
set_option maxRecDepth 20000 in
theorem ggX8_putTemplateSet_X5_put : GoodIn wsX8_putTemplateSet wsX5_put := goodIn_ca (goodIn_r _ [28, 29, 30, 50, 51] (by decide +kernel) (by decide +kernel)) (goodIn_sub (fun _ h => List.mem_cons_of_mem _ (List.mem_append_right _ h)) (by decide +kernel))
set_option maxRecDepth 20000 in
theorem gX8_putTemplateSet_X5_put : GoodIn wsX8_putTemplateSet (wsV RX8 106 RX5 yX5_put wsX5_put) := goodIn_app (goodIn_of _ (by decide +kernel)) ggX8_putTemplateSet_X5_put
set_option maxRecDepth 20000 in
theorem ggX8_putTemplateSet_X8_putTemplate : GoodIn wsX8_putTemplateSet wsX8_putTemplate := goodIn_ca (goodIn_r _ [34, 11, 12, 13, 14, 15, 16, 17, 18, 24, 25, 26, 27, 28, 29, 30, 35, 36, 37, 38, 39, 40, 41, 42, 43, 44, 45, 52, 53, 54, 55, 56, 57, 58, 59, 60, 61, 62, 63, 64, 65, 66, 67, 68, 69, 70, 71, 50, 51] (by decide +kernel) (by decide +kernel)) (goodIn_sub (fun _ h => List.mem_cons_of_mem _ (List.mem_append_right _ h)) (by decide +kernel))
set_option maxRecDepth 20000 in
theorem gX8_putTemplateSet_X8_putTemplate : GoodIn wsX8_putTemplateSet (wsV RX8 149 RX8 yX8_putTemplate wsX8_putTemplate) := goodIn_app (goodIn_of _ (by decide +kernel)) ggX8_putTemplateSet_X8_putTemplate
set_option maxRecDepth 20000 in
theorem ggX8_putTemplateSet_X5_putAt : GoodIn wsX8_putTemplateSet wsX5_putAt := goodIn_ca (goodIn_r _ [49, 29, 30, 50, 51] (by decide +kernel) (by decide +kernel)) (goodIn_sub (fun _ h => List.mem_cons_of_mem _ (List.mem_append_right _ h)) (by decide +kernel))
set_option maxRecDepth 20000 in
theorem gX8_putTemplateSet_X5_putAt : GoodIn wsX8_putTemplateSet (wsV RX8 125 RX5 yX5_putAt wsX5_putAt) := goodIn_app (goodIn_of _ (by decide +kernel)) ggX8_putTemplateSet_X5_putAt
theorem dX8_putTemplateSet_0 : decode cX8_putTemplateSet 0 = .ok (.aload_n 1, 1) := by decide +kernel
theorem dX8_putTemplateSet_1 : decode cX8_putTemplateSet 1 = .ok (.getfield 61, 3) := by decide +kernel
theorem dX8_putTemplateSet_4 : decode cX8_putTemplateSet 4 = .ok (.istore_n 3, 1) := by decide +kernel
theorem dX8_putTemplateSet_5 : decode cX8_putTemplateSet 5 = .ok (.iconst 0, 1) := by decide +kernel
theorem dX8_putTemplateSet_6 : decode cX8_putTemplateSet 6 = .ok (.istore 4, 2) := by decide +kernel
theorem dX8_putTemplateSet_8 : decode cX8_putTemplateSet 8 = .ok (.iload 4, 2) := by decide +kernel
theorem dX8_putTemplateSet_10 : decode cX8_putTemplateSet 10 = .ok (.iconst 4, 1) := by decide +kernel
theorem dX8_putTemplateSet_11 : decode cX8_putTemplateSet 11 = .ok (.if_icmp .ge 69, 3) := by decide +kernel
theorem dX8_putTemplateSet_14 : decode cX8_putTemplateSet 14 = .ok (.aload_n 0, 1) := by decide +kernel
theorem dX8_putTemplateSet_15 : decode cX8_putTemplateSet 15 = .ok (.iload 4, 2) := by decide +kernel
theorem dX8_putTemplateSet_17 : decode cX8_putTemplateSet 17 = .ok (.iload_n 2, 1) := by decide +kernel
theorem dX8_putTemplateSet_18 : decode cX8_putTemplateSet 18 = .ok (.invokevirtual 143, 3) := by decide +kernel
theorem dX8_putTemplateSet_21 : decode cX8_putTemplateSet 21 = .ok (.ifCond .eq 53, 3) := by decide +kernel
theorem dX8_putTemplateSet_24 : decode cX8_putTemplateSet 24 = .ok (.aload_n 1, 1) := by decide +kernel
theorem dX8_putTemplateSet_25 : decode cX8_putTemplateSet 25 = .ok (.getfield 61, 3) := by decide +kernel
theorem dX8_putTemplateSet_28 : decode cX8_putTemplateSet 28 = .ok (.iload_n 3, 1) := by decide +kernel
theorem dX8_putTemplateSet_29 : decode cX8_putTemplateSet 29 = .ok (.if_icmp .ne 17, 3) := by decide +kernel
theorem dX8_putTemplateSet_32 : decode cX8_putTemplateSet 32 = .ok (.aload_n 1, 1) := by decide +kernel
theorem dX8_putTemplateSet_33 : decode cX8_putTemplateSet 33 = .ok (.ldc2_w 147, 3) := by decide +kernel
theorem dX8_putTemplateSet_36 : decode cX8_putTemplateSet 36 = .ok (.iconst 2, 1) := by decide +kernel
theorem dX8_putTemplateSet_37 : decode cX8_putTemplateSet 37 = .ok (.invokevirtual 106, 3) := by decide +kernel
theorem dX8_putTemplateSet_40 : decode cX8_putTemplateSet 40 = .ok (.aload_n 1, 1) := by decide +kernel
theorem dX8_putTemplateSet_41 : decode cX8_putTemplateSet 41 = .ok (.lconst 0, 1) := by decide +kernel
theorem dX8_putTemplateSet_42 : decode cX8_putTemplateSet 42 = .ok (.iconst 2, 1) := by decide +kernel
theorem dX8_putTemplateSet_43 : decode cX8_putTemplateSet 43 = .ok (.invokevirtual 106, 3) := by decide +kernel
theorem dX8_putTemplateSet_46 : decode cX8_putTemplateSet 46 = .ok (.aload_n 0, 1) := by decide +kernel
theorem dX8_putTemplateSet_47 : decode cX8_putTemplateSet 47 = .ok (.aload_n 1, 1) := by decide +kernel
theorem dX8_putTemplateSet_48 : decode cX8_putTemplateSet 48 = .ok (.iload 4, 2) := by decide +kernel
theorem dX8_putTemplateSet_50 : decode cX8_putTemplateSet 50 = .ok (.invokevirtual 149, 3) := by decide +kernel
theorem dX8_putTemplateSet_53 : decode cX8_putTemplateSet 53 = .ok (.aload_n 0, 1) := by decide +kernel
theorem dX8_putTemplateSet_54 : decode cX8_putTemplateSet 54 = .ok (.getfield 28, 3) := by decide +kernel
theorem dX8_putTemplateSet_57 : decode cX8_putTemplateSet 57 = .ok (.iload 4, 2) := by decide +kernel
theorem dX8_putTemplateSet_59 : decode cX8_putTemplateSet 59 = .ok (.aload_n 0, 1) := by decide +kernel
theorem dX8_putTemplateSet_60 : decode cX8_putTemplateSet 60 = .ok (.getfield 34, 3) := by decide +kernel
theorem dX8_putTemplateSet_63 : decode cX8_putTemplateSet 63 = .ok (.iconst 1, 1) := by decide +kernel
theorem dX8_putTemplateSet_64 : decode cX8_putTemplateSet 64 = .ok (.iadd, 1) := by decide +kernel
theorem dX8_putTemplateSet_65 : decode cX8_putTemplateSet 65 = .ok (.iastore, 1) := by decide +kernel
theorem dX8_putTemplateSet_66 : decode cX8_putTemplateSet 66 = .ok (.aload_n 0, 1) := by decide +kernel
theorem dX8_putTemplateSet_67 : decode cX8_putTemplateSet 67 = .ok (.getfield 31, 3) := by decide +kernel
theorem dX8_putTemplateSet_70 : decode cX8_putTemplateSet 70 = .ok (.iload 4, 2) := by decide +kernel
theorem dX8_putTemplateSet_72 : decode cX8_putTemplateSet 72 = .ok (.iload_n 2, 1) := by decide +kernel
theorem dX8_putTemplateSet_73 : decode cX8_putTemplateSet 73 = .ok (.iastore, 1) := by decide +kernel
theorem dX8_putTemplateSet_74 : decode cX8_putTemplateSet 74 = .ok (.iinc 4 1, 3) := by decide +kernel
theorem dX8_putTemplateSet_77 : decode cX8_putTemplateSet 77 = .ok (.goto (-69), 3) := by decide +kernel
theorem dX8_putTemplateSet_80 : decode cX8_putTemplateSet 80 = .ok (.aload_n 1, 1) := by decide +kernel
theorem dX8_putTemplateSet_81 : decode cX8_putTemplateSet 81 = .ok (.getfield 61, 3) := by decide +kernel
theorem dX8_putTemplateSet_84 : decode cX8_putTemplateSet 84 = .ok (.iload_n 3, 1) := by decide +kernel
theorem dX8_putTemplateSet_85 : decode cX8_putTemplateSet 85 = .ok (.if_icmp .le 18, 3) := by decide +kernel
theorem dX8_putTemplateSet_88 : decode cX8_putTemplateSet 88 = .ok (.aload_n 1, 1) := by decide +kernel
theorem dX8_putTemplateSet_89 : decode cX8_putTemplateSet 89 = .ok (.iload_n 3, 1) := by decide +kernel
theorem dX8_putTemplateSet_90 : decode cX8_putTemplateSet 90 = .ok (.iconst 2, 1) := by decide +kernel
theorem dX8_putTemplateSet_91 : decode cX8_putTemplateSet 91 = .ok (.iadd, 1) := by decide +kernel
theorem dX8_putTemplateSet_92 : decode cX8_putTemplateSet 92 = .ok (.aload_n 1, 1) := by decide +kernel
theorem dX8_putTemplateSet_93 : decode cX8_putTemplateSet 93 = .ok (.getfield 61, 3) := by decide +kernel
theorem dX8_putTemplateSet_96 : decode cX8_putTemplateSet 96 = .ok (.iload_n 3, 1) := by decide +kernel
theorem dX8_putTemplateSet_97 : decode cX8_putTemplateSet 97 = .ok (.isub, 1) := by decide +kernel
theorem dX8_putTemplateSet_98 : decode cX8_putTemplateSet 98 = .ok (.i2l, 1) := by decide +kernel
theorem dX8_putTemplateSet_99 : decode cX8_putTemplateSet 99 = .ok (.iconst 2, 1) := by decide +kernel
theorem dX8_putTemplateSet_100 : decode cX8_putTemplateSet 100 = .ok (.invokevirtual 125, 3) := by decide +kernel
theorem dX8_putTemplateSet_103 : decode cX8_putTemplateSet 103 = .ok (.return_, 1) := by decide +kernel
set_option maxRecDepth 20000 in
theorem ggX8_putTemplate_X1_effective : GoodIn wsX8_putTemplate wsX1_effective := goodIn_r _ [7, 8, 41, 42, 43, 44, 45, 46] (by decide +kernel) (by decide +kernel)
set_option maxRecDepth 20000 in
theorem gX8_putTemplate_X1_effective : GoodIn wsX8_putTemplate (wsV RX8 82 RX1 yX1_effective wsX1_effective) := goodIn_app (goodIn_of _ (by decide +kernel)) ggX8_putTemplate_X1_effective
set_option maxRecDepth 20000 in
theorem ggX8_putTemplate_X5_put : GoodIn wsX8_putTemplate wsX5_put := goodIn_ca (goodIn_r _ [13, 14, 15, 47, 48] (by decide +kernel) (by decide +kernel)) (goodIn_sub (fun _ h => List.mem_cons_of_mem _ (List.mem_append_right _ h)) (by decide +kernel))
set_option maxRecDepth 20000 in
theorem gX8_putTemplate_X5_put : GoodIn wsX8_putTemplate (wsV RX8 106 RX5 yX5_put wsX5_put) := goodIn_app (goodIn_of _ (by decide +kernel)) ggX8_putTemplate_X5_put
set_option maxRecDepth 20000 in
theorem ggX8_putTemplate_X10_field : GoodIn wsX8_putTemplate wsX10_field := goodIn_ca (goodIn_r _ [20, 21, 22, 37, 38, 39, 40] (by decide +kernel) (by decide +kernel)) (goodIn_sub (fun _ h => List.mem_cons_of_mem _ (List.mem_append_right _ h)) (by decide +kernel))
set_option maxRecDepth 20000 in
theorem gX8_putTemplate_X10_field : GoodIn wsX8_putTemplate (wsV RX8 92 RX10 yX10_field wsX10_field) := goodIn_app (goodIn_of _ (by decide +kernel)) ggX8_putTemplate_X10_field
set_option maxRecDepth 20000 in
theorem ggX8_putTemplate_X11_lengthOf : GoodIn wsX8_putTemplate wsX11_lengthOf := goodIn_ca (goodIn_r _ [25, 26] (by decide +kernel) (by decide +kernel)) (goodIn_sub (fun _ h => List.mem_cons_of_mem _ (List.mem_append_right _ h)) (by decide +kernel))
set_option maxRecDepth 20000 in
theorem gX8_putTemplate_X11_lengthOf_n103 : GoodIn wsX8_putTemplate (wsX11_lengthOf) := ggX8_putTemplate_X11_lengthOf
theorem dX8_putTemplate_0 : decode cX8_putTemplate 0 = .ok (.aload_n 0, 1) := by decide +kernel
theorem dX8_putTemplate_1 : decode cX8_putTemplate 1 = .ok (.getfield 44, 3) := by decide +kernel
theorem dX8_putTemplate_4 : decode cX8_putTemplate 4 = .ok (.iload_n 2, 1) := by decide +kernel
theorem dX8_putTemplate_5 : decode cX8_putTemplate 5 = .ok (.invokevirtual 82, 3) := by decide +kernel
theorem dX8_putTemplate_8 : decode cX8_putTemplate 8 = .ok (.astore_n 3, 1) := by decide +kernel
theorem dX8_putTemplate_9 : decode cX8_putTemplate 9 = .ok (.aload_n 1, 1) := by decide +kernel
theorem dX8_putTemplate_10 : decode cX8_putTemplate 10 = .ok (.sipush 256, 3) := by decide +kernel
theorem dX8_putTemplate_13 : decode cX8_putTemplate 13 = .ok (.iload_n 2, 1) := by decide +kernel
theorem dX8_putTemplate_14 : decode cX8_putTemplate 14 = .ok (.iadd, 1) := by decide +kernel
theorem dX8_putTemplate_15 : decode cX8_putTemplate 15 = .ok (.i2l, 1) := by decide +kernel
theorem dX8_putTemplate_16 : decode cX8_putTemplate 16 = .ok (.iconst 2, 1) := by decide +kernel
theorem dX8_putTemplate_17 : decode cX8_putTemplate 17 = .ok (.invokevirtual 106, 3) := by decide +kernel
theorem dX8_putTemplate_20 : decode cX8_putTemplate 20 = .ok (.aload_n 1, 1) := by decide +kernel
theorem dX8_putTemplate_21 : decode cX8_putTemplate 21 = .ok (.aload_n 3, 1) := by decide +kernel
theorem dX8_putTemplate_22 : decode cX8_putTemplate 22 = .ok (.getfield 85, 3) := by decide +kernel
theorem dX8_putTemplate_25 : decode cX8_putTemplate 25 = .ok (.i2l, 1) := by decide +kernel
theorem dX8_putTemplate_26 : decode cX8_putTemplate 26 = .ok (.iconst 2, 1) := by decide +kernel
theorem dX8_putTemplate_27 : decode cX8_putTemplate 27 = .ok (.invokevirtual 106, 3) := by decide +kernel
theorem dX8_putTemplate_30 : decode cX8_putTemplate 30 = .ok (.iconst 0, 1) := by decide +kernel
theorem dX8_putTemplate_31 : decode cX8_putTemplate 31 = .ok (.istore 4, 2) := by decide +kernel
theorem dX8_putTemplate_33 : decode cX8_putTemplate 33 = .ok (.iload 4, 2) := by decide +kernel
theorem dX8_putTemplate_35 : decode cX8_putTemplate 35 = .ok (.aload_n 3, 1) := by decide +kernel
theorem dX8_putTemplate_36 : decode cX8_putTemplate 36 = .ok (.getfield 85, 3) := by decide +kernel
theorem dX8_putTemplate_39 : decode cX8_putTemplate 39 = .ok (.if_icmp .ge 36, 3) := by decide +kernel
theorem dX8_putTemplate_42 : decode cX8_putTemplate 42 = .ok (.aload_n 3, 1) := by decide +kernel
theorem dX8_putTemplate_43 : decode cX8_putTemplate 43 = .ok (.iload 4, 2) := by decide +kernel
theorem dX8_putTemplate_45 : decode cX8_putTemplate 45 = .ok (.invokevirtual 92, 3) := by decide +kernel
theorem dX8_putTemplate_48 : decode cX8_putTemplate 48 = .ok (.istore 5, 2) := by decide +kernel
theorem dX8_putTemplate_50 : decode cX8_putTemplate 50 = .ok (.aload_n 1, 1) := by decide +kernel
theorem dX8_putTemplate_51 : decode cX8_putTemplate 51 = .ok (.iload 5, 2) := by decide +kernel
theorem dX8_putTemplate_53 : decode cX8_putTemplate 53 = .ok (.i2l, 1) := by decide +kernel
theorem dX8_putTemplate_54 : decode cX8_putTemplate 54 = .ok (.iconst 2, 1) := by decide +kernel
theorem dX8_putTemplate_55 : decode cX8_putTemplate 55 = .ok (.invokevirtual 106, 3) := by decide +kernel
theorem dX8_putTemplate_58 : decode cX8_putTemplate 58 = .ok (.aload_n 1, 1) := by decide +kernel
theorem dX8_putTemplate_59 : decode cX8_putTemplate 59 = .ok (.iload 5, 2) := by decide +kernel
theorem dX8_putTemplate_61 : decode cX8_putTemplate 61 = .ok (.invokestatic 103, 3) := by decide +kernel
theorem dX8_putTemplate_64 : decode cX8_putTemplate 64 = .ok (.i2l, 1) := by decide +kernel
theorem dX8_putTemplate_65 : decode cX8_putTemplate 65 = .ok (.iconst 2, 1) := by decide +kernel
theorem dX8_putTemplate_66 : decode cX8_putTemplate 66 = .ok (.invokevirtual 106, 3) := by decide +kernel
theorem dX8_putTemplate_69 : decode cX8_putTemplate 69 = .ok (.iinc 4 1, 3) := by decide +kernel
theorem dX8_putTemplate_72 : decode cX8_putTemplate 72 = .ok (.goto (-39), 3) := by decide +kernel
theorem dX8_putTemplate_75 : decode cX8_putTemplate 75 = .ok (.return_, 1) := by decide +kernel
theorem dX9_indexOf_0 : decode cX9_indexOf 0 = .ok (.iconst 0, 1) := by decide +kernel
theorem dX9_indexOf_1 : decode cX9_indexOf 1 = .ok (.istore_n 3, 1) := by decide +kernel
theorem dX9_indexOf_2 : decode cX9_indexOf 2 = .ok (.iload_n 3, 1) := by decide +kernel
theorem dX9_indexOf_3 : decode cX9_indexOf 3 = .ok (.aload_n 0, 1) := by decide +kernel
theorem dX9_indexOf_4 : decode cX9_indexOf 4 = .ok (.getfield 28, 3) := by decide +kernel
theorem dX9_indexOf_7 : decode cX9_indexOf 7 = .ok (.if_icmp .ge 22, 3) := by decide +kernel
theorem dX9_indexOf_10 : decode cX9_indexOf 10 = .ok (.aload_n 0, 1) := by decide +kernel
theorem dX9_indexOf_11 : decode cX9_indexOf 11 = .ok (.getfield 9, 3) := by decide +kernel
theorem dX9_indexOf_14 : decode cX9_indexOf 14 = .ok (.iload_n 3, 1) := by decide +kernel
theorem dX9_indexOf_15 : decode cX9_indexOf 15 = .ok (.laload, 1) := by decide +kernel
theorem dX9_indexOf_16 : decode cX9_indexOf 16 = .ok (.lload_n 1, 1) := by decide +kernel
theorem dX9_indexOf_17 : decode cX9_indexOf 17 = .ok (.lcmp, 1) := by decide +kernel
theorem dX9_indexOf_18 : decode cX9_indexOf 18 = .ok (.ifCond .ne 5, 3) := by decide +kernel
theorem dX9_indexOf_21 : decode cX9_indexOf 21 = .ok (.iload_n 3, 1) := by decide +kernel
theorem dX9_indexOf_22 : decode cX9_indexOf 22 = .ok (.ireturn, 1) := by decide +kernel
theorem dX9_indexOf_23 : decode cX9_indexOf 23 = .ok (.iinc 3 1, 3) := by decide +kernel
theorem dX9_indexOf_26 : decode cX9_indexOf 26 = .ok (.goto (-24), 3) := by decide +kernel
theorem dX9_indexOf_29 : decode cX9_indexOf 29 = .ok (.iconst (-1), 1) := by decide +kernel
theorem dX9_indexOf_30 : decode cX9_indexOf 30 = .ok (.ireturn, 1) := by decide +kernel
set_option maxRecDepth 20000 in
theorem ggX9_indexOrNew_X9_indexOf : GoodIn wsX9_indexOrNew wsX9_indexOf := goodIn_ca (goodIn_r _ [10, 1, 2, 11, 12, 13, 14, 15] (by decide +kernel) (by decide +kernel)) (goodIn_sub (fun _ h => List.mem_cons_of_mem _ (List.mem_append_right _ h)) (by decide +kernel))
set_option maxRecDepth 20000 in
theorem gX9_indexOrNew_X9_indexOf : GoodIn wsX9_indexOrNew (wsV RX9 32 RX9 yX9_indexOf wsX9_indexOf) := goodIn_app (goodIn_of _ (by decide +kernel)) ggX9_indexOrNew_X9_indexOf
theorem dX9_indexOrNew_0 : decode cX9_indexOrNew 0 = .ok (.aload_n 0, 1) := by decide +kernel
theorem dX9_indexOrNew_1 : decode cX9_indexOrNew 1 = .ok (.lload_n 1, 1) := by decide +kernel
theorem dX9_indexOrNew_2 : decode cX9_indexOrNew 2 = .ok (.invokevirtual 32, 3) := by decide +kernel
theorem dX9_indexOrNew_5 : decode cX9_indexOrNew 5 = .ok (.istore_n 3, 1) := by decide +kernel
theorem dX9_indexOrNew_6 : decode cX9_indexOrNew 6 = .ok (.iload_n 3, 1) := by decide +kernel
theorem dX9_indexOrNew_7 : decode cX9_indexOrNew 7 = .ok (.iconst (-1), 1) := by decide +kernel
theorem dX9_indexOrNew_8 : decode cX9_indexOrNew 8 = .ok (.if_icmp .ne 12, 3) := by decide +kernel
theorem dX9_indexOrNew_11 : decode cX9_indexOrNew 11 = .ok (.aload_n 0, 1) := by decide +kernel
theorem dX9_indexOrNew_12 : decode cX9_indexOrNew 12 = .ok (.getfield 28, 3) := by decide +kernel
theorem dX9_indexOrNew_15 : decode cX9_indexOrNew 15 = .ok (.bipush 24, 2) := by decide +kernel
theorem dX9_indexOrNew_17 : decode cX9_indexOrNew 17 = .ok (.if_icmp .lt 5, 3) := by decide +kernel
theorem dX9_indexOrNew_20 : decode cX9_indexOrNew 20 = .ok (.iload_n 3, 1) := by decide +kernel
theorem dX9_indexOrNew_21 : decode cX9_indexOrNew 21 = .ok (.ireturn, 1) := by decide +kernel
theorem dX9_indexOrNew_22 : decode cX9_indexOrNew 22 = .ok (.aload_n 0, 1) := by decide +kernel
theorem dX9_indexOrNew_23 : decode cX9_indexOrNew 23 = .ok (.getfield 9, 3) := by decide +kernel
theorem dX9_indexOrNew_26 : decode cX9_indexOrNew 26 = .ok (.aload_n 0, 1) := by decide +kernel
theorem dX9_indexOrNew_27 : decode cX9_indexOrNew 27 = .ok (.getfield 28, 3) := by decide +kernel
theorem dX9_indexOrNew_30 : decode cX9_indexOrNew 30 = .ok (.lload_n 1, 1) := by decide +kernel
theorem dX9_indexOrNew_31 : decode cX9_indexOrNew 31 = .ok (.lastore, 1) := by decide +kernel
theorem dX9_indexOrNew_32 : decode cX9_indexOrNew 32 = .ok (.iconst 0, 1) := by decide +kernel
theorem dX9_indexOrNew_33 : decode cX9_indexOrNew 33 = .ok (.istore 4, 2) := by decide +kernel
theorem dX9_indexOrNew_35 : decode cX9_indexOrNew 35 = .ok (.iload 4, 2) := by decide +kernel
theorem dX9_indexOrNew_37 : decode cX9_indexOrNew 37 = .ok (.iconst 2, 1) := by decide +kernel
theorem dX9_indexOrNew_38 : decode cX9_indexOrNew 38 = .ok (.if_icmp .ge 48, 3) := by decide +kernel
theorem dX9_indexOrNew_41 : decode cX9_indexOrNew 41 = .ok (.aload_n 0, 1) := by decide +kernel
theorem dX9_indexOrNew_42 : decode cX9_indexOrNew 42 = .ok (.getfield 17, 3) := by decide +kernel
theorem dX9_indexOrNew_45 : decode cX9_indexOrNew 45 = .ok (.iload 4, 2) := by decide +kernel
theorem dX9_indexOrNew_47 : decode cX9_indexOrNew 47 = .ok (.aaload, 1) := by decide +kernel
theorem dX9_indexOrNew_48 : decode cX9_indexOrNew 48 = .ok (.aload_n 0, 1) := by decide +kernel
theorem dX9_indexOrNew_49 : decode cX9_indexOrNew 49 = .ok (.getfield 28, 3) := by decide +kernel
theorem dX9_indexOrNew_52 : decode cX9_indexOrNew 52 = .ok (.lconst 0, 1) := by decide +kernel
theorem dX9_indexOrNew_53 : decode cX9_indexOrNew 53 = .ok (.lastore, 1) := by decide +kernel
theorem dX9_indexOrNew_54 : decode cX9_indexOrNew 54 = .ok (.aload_n 0, 1) := by decide +kernel
theorem dX9_indexOrNew_55 : decode cX9_indexOrNew 55 = .ok (.getfield 20, 3) := by decide +kernel
theorem dX9_indexOrNew_58 : decode cX9_indexOrNew 58 = .ok (.iload 4, 2) := by decide +kernel
theorem dX9_indexOrNew_60 : decode cX9_indexOrNew 60 = .ok (.aaload, 1) := by decide +kernel
theorem dX9_indexOrNew_61 : decode cX9_indexOrNew 61 = .ok (.aload_n 0, 1) := by decide +kernel
theorem dX9_indexOrNew_62 : decode cX9_indexOrNew 62 = .ok (.getfield 28, 3) := by decide +kernel
theorem dX9_indexOrNew_65 : decode cX9_indexOrNew 65 = .ok (.lconst 0, 1) := by decide +kernel
theorem dX9_indexOrNew_66 : decode cX9_indexOrNew 66 = .ok (.lastore, 1) := by decide +kernel
theorem dX9_indexOrNew_67 : decode cX9_indexOrNew 67 = .ok (.aload_n 0, 1) := by decide +kernel
theorem dX9_indexOrNew_68 : decode cX9_indexOrNew 68 = .ok (.getfield 25, 3) := by decide +kernel
theorem dX9_indexOrNew_71 : decode cX9_indexOrNew 71 = .ok (.iload 4, 2) := by decide +kernel
theorem dX9_indexOrNew_73 : decode cX9_indexOrNew 73 = .ok (.aaload, 1) := by decide +kernel
theorem dX9_indexOrNew_74 : decode cX9_indexOrNew 74 = .ok (.aload_n 0, 1) := by decide +kernel
theorem dX9_indexOrNew_75 : decode cX9_indexOrNew 75 = .ok (.getfield 28, 3) := by decide +kernel
theorem dX9_indexOrNew_78 : decode cX9_indexOrNew 78 = .ok (.dconst 0, 1) := by decide +kernel
theorem dX9_indexOrNew_79 : decode cX9_indexOrNew 79 = .ok (.dastore, 1) := by decide +kernel
theorem dX9_indexOrNew_80 : decode cX9_indexOrNew 80 = .ok (.iinc 4 1, 3) := by decide +kernel
theorem dX9_indexOrNew_83 : decode cX9_indexOrNew 83 = .ok (.goto (-48), 3) := by decide +kernel
theorem dX9_indexOrNew_86 : decode cX9_indexOrNew 86 = .ok (.aload_n 0, 1) := by decide +kernel
theorem dX9_indexOrNew_87 : decode cX9_indexOrNew 87 = .ok (.dup, 1) := by decide +kernel
theorem dX9_indexOrNew_88 : decode cX9_indexOrNew 88 = .ok (.getfield 28, 3) := by decide +kernel
theorem dX9_indexOrNew_91 : decode cX9_indexOrNew 91 = .ok (.iconst 1, 1) := by decide +kernel
theorem dX9_indexOrNew_92 : decode cX9_indexOrNew 92 = .ok (.iadd, 1) := by decide +kernel
theorem dX9_indexOrNew_93 : decode cX9_indexOrNew 93 = .ok (.putfield 28, 3) := by decide +kernel
theorem dX9_indexOrNew_96 : decode cX9_indexOrNew 96 = .ok (.aload_n 0, 1) := by decide +kernel
theorem dX9_indexOrNew_97 : decode cX9_indexOrNew 97 = .ok (.getfield 28, 3) := by decide +kernel
theorem dX9_indexOrNew_100 : decode cX9_indexOrNew 100 = .ok (.iconst 1, 1) := by decide +kernel
theorem dX9_indexOrNew_101 : decode cX9_indexOrNew 101 = .ok (.isub, 1) := by decide +kernel
theorem dX9_indexOrNew_102 : decode cX9_indexOrNew 102 = .ok (.ireturn, 1) := by decide +kernel
theorem dX9_add_0 : decode cX9_add 0 = .ok (.iload_n 1, 1) := by decide +kernel
theorem dX9_add_1 : decode cX9_add 1 = .ok (.ifCond .lt 11, 3) := by decide +kernel
theorem dX9_add_4 : decode cX9_add 4 = .ok (.iload_n 1, 1) := by decide +kernel
theorem dX9_add_5 : decode cX9_add 5 = .ok (.aload_n 0, 1) := by decide +kernel
theorem dX9_add_6 : decode cX9_add 6 = .ok (.getfield 28, 3) := by decide +kernel
theorem dX9_add_9 : decode cX9_add 9 = .ok (.if_icmp .lt 4, 3) := by decide +kernel
theorem dX9_add_12 : decode cX9_add 12 = .ok (.return_, 1) := by decide +kernel
theorem dX9_add_13 : decode cX9_add 13 = .ok (.iload 6, 2) := by decide +kernel
theorem dX9_add_15 : decode cX9_add 15 = .ok (.i2d, 1) := by decide +kernel
theorem dX9_add_16 : decode cX9_add 16 = .ok (.iload 6, 2) := by decide +kernel
theorem dX9_add_18 : decode cX9_add 18 = .ok (.iconst 1, 1) := by decide +kernel
theorem dX9_add_19 : decode cX9_add 19 = .ok (.isub, 1) := by decide +kernel
theorem dX9_add_20 : decode cX9_add 20 = .ok (.i2d, 1) := by decide +kernel
theorem dX9_add_21 : decode cX9_add 21 = .ok (.dmul, 1) := by decide +kernel
theorem dX9_add_22 : decode cX9_add 22 = .ok (.dstore 7, 2) := by decide +kernel
theorem dX9_add_24 : decode cX9_add 24 = .ok (.aload_n 0, 1) := by decide +kernel
theorem dX9_add_25 : decode cX9_add 25 = .ok (.getfield 17, 3) := by decide +kernel
theorem dX9_add_28 : decode cX9_add 28 = .ok (.iconst 0, 1) := by decide +kernel
theorem dX9_add_29 : decode cX9_add 29 = .ok (.aaload, 1) := by decide +kernel
theorem dX9_add_30 : decode cX9_add 30 = .ok (.iload_n 1, 1) := by decide +kernel
theorem dX9_add_31 : decode cX9_add 31 = .ok (.dup2, 1) := by decide +kernel
theorem dX9_add_32 : decode cX9_add 32 = .ok (.laload, 1) := by decide +kernel
theorem dX9_add_33 : decode cX9_add 33 = .ok (.lload_n 2, 1) := by decide +kernel
theorem dX9_add_34 : decode cX9_add 34 = .ok (.ladd, 1) := by decide +kernel
theorem dX9_add_35 : decode cX9_add 35 = .ok (.lastore, 1) := by decide +kernel
theorem dX9_add_36 : decode cX9_add 36 = .ok (.aload_n 0, 1) := by decide +kernel
theorem dX9_add_37 : decode cX9_add 37 = .ok (.getfield 17, 3) := by decide +kernel
theorem dX9_add_40 : decode cX9_add 40 = .ok (.iconst 1, 1) := by decide +kernel
theorem dX9_add_41 : decode cX9_add 41 = .ok (.aaload, 1) := by decide +kernel
theorem dX9_add_42 : decode cX9_add 42 = .ok (.iload_n 1, 1) := by decide +kernel
theorem dX9_add_43 : decode cX9_add 43 = .ok (.dup2, 1) := by decide +kernel
theorem dX9_add_44 : decode cX9_add 44 = .ok (.laload, 1) := by decide +kernel
theorem dX9_add_45 : decode cX9_add 45 = .ok (.lload 4, 2) := by decide +kernel
theorem dX9_add_47 : decode cX9_add 47 = .ok (.ladd, 1) := by decide +kernel
theorem dX9_add_48 : decode cX9_add 48 = .ok (.lastore, 1) := by decide +kernel
theorem dX9_add_49 : decode cX9_add 49 = .ok (.aload_n 0, 1) := by decide +kernel
theorem dX9_add_50 : decode cX9_add 50 = .ok (.getfield 20, 3) := by decide +kernel
theorem dX9_add_53 : decode cX9_add 53 = .ok (.iconst 0, 1) := by decide +kernel
theorem dX9_add_54 : decode cX9_add 54 = .ok (.aaload, 1) := by decide +kernel
theorem dX9_add_55 : decode cX9_add 55 = .ok (.iload_n 1, 1) := by decide +kernel
theorem dX9_add_56 : decode cX9_add 56 = .ok (.dup2, 1) := by decide +kernel
theorem dX9_add_57 : decode cX9_add 57 = .ok (.laload, 1) := by decide +kernel
theorem dX9_add_58 : decode cX9_add 58 = .ok (.iload 6, 2) := by decide +kernel
theorem dX9_add_60 : decode cX9_add 60 = .ok (.i2l, 1) := by decide +kernel
theorem dX9_add_61 : decode cX9_add 61 = .ok (.lload_n 2, 1) := by decide +kernel
theorem dX9_add_62 : decode cX9_add 62 = .ok (.lmul, 1) := by decide +kernel
theorem dX9_add_63 : decode cX9_add 63 = .ok (.ladd, 1) := by decide +kernel
theorem dX9_add_64 : decode cX9_add 64 = .ok (.lastore, 1) := by decide +kernel
theorem dX9_add_65 : decode cX9_add 65 = .ok (.aload_n 0, 1) := by decide +kernel
theorem dX9_add_66 : decode cX9_add 66 = .ok (.getfield 20, 3) := by decide +kernel
theorem dX9_add_69 : decode cX9_add 69 = .ok (.iconst 1, 1) := by decide +kernel
theorem dX9_add_70 : decode cX9_add 70 = .ok (.aaload, 1) := by decide +kernel
theorem dX9_add_71 : decode cX9_add 71 = .ok (.iload_n 1, 1) := by decide +kernel
theorem dX9_add_72 : decode cX9_add 72 = .ok (.dup2, 1) := by decide +kernel
theorem dX9_add_73 : decode cX9_add 73 = .ok (.laload, 1) := by decide +kernel
theorem dX9_add_74 : decode cX9_add 74 = .ok (.iload 6, 2) := by decide +kernel
theorem dX9_add_76 : decode cX9_add 76 = .ok (.i2l, 1) := by decide +kernel
theorem dX9_add_77 : decode cX9_add 77 = .ok (.lload 4, 2) := by decide +kernel
theorem dX9_add_79 : decode cX9_add 79 = .ok (.lmul, 1) := by decide +kernel
theorem dX9_add_80 : decode cX9_add 80 = .ok (.ladd, 1) := by decide +kernel
theorem dX9_add_81 : decode cX9_add 81 = .ok (.lastore, 1) := by decide +kernel
theorem dX9_add_82 : decode cX9_add 82 = .ok (.aload_n 0, 1) := by decide +kernel
theorem dX9_add_83 : decode cX9_add 83 = .ok (.getfield 25, 3) := by decide +kernel
theorem dX9_add_86 : decode cX9_add 86 = .ok (.iconst 0, 1) := by decide +kernel
theorem dX9_add_87 : decode cX9_add 87 = .ok (.aaload, 1) := by decide +kernel
theorem dX9_add_88 : decode cX9_add 88 = .ok (.iload_n 1, 1) := by decide +kernel
theorem dX9_add_89 : decode cX9_add 89 = .ok (.dup2, 1) := by decide +kernel
theorem dX9_add_90 : decode cX9_add 90 = .ok (.daload, 1) := by decide +kernel
theorem dX9_add_91 : decode cX9_add 91 = .ok (.dload 7, 2) := by decide +kernel
theorem dX9_add_93 : decode cX9_add 93 = .ok (.lload_n 2, 1) := by decide +kernel
theorem dX9_add_94 : decode cX9_add 94 = .ok (.l2d, 1) := by decide +kernel
theorem dX9_add_95 : decode cX9_add 95 = .ok (.dmul, 1) := by decide +kernel
theorem dX9_add_96 : decode cX9_add 96 = .ok (.dadd, 1) := by decide +kernel
theorem dX9_add_97 : decode cX9_add 97 = .ok (.dastore, 1) := by decide +kernel
theorem dX9_add_98 : decode cX9_add 98 = .ok (.lload_n 2, 1) := by decide +kernel
theorem dX9_add_99 : decode cX9_add 99 = .ok (.lconst 0, 1) := by decide +kernel
theorem dX9_add_100 : decode cX9_add 100 = .ok (.lcmp, 1) := by decide +kernel
theorem dX9_add_101 : decode cX9_add 101 = .ok (.ifCond .eq 27, 3) := by decide +kernel
theorem dX9_add_104 : decode cX9_add 104 = .ok (.aload_n 0, 1) := by decide +kernel
theorem dX9_add_105 : decode cX9_add 105 = .ok (.getfield 25, 3) := by decide +kernel
theorem dX9_add_108 : decode cX9_add 108 = .ok (.iconst 1, 1) := by decide +kernel
theorem dX9_add_109 : decode cX9_add 109 = .ok (.aaload, 1) := by decide +kernel
theorem dX9_add_110 : decode cX9_add 110 = .ok (.iload_n 1, 1) := by decide +kernel
theorem dX9_add_111 : decode cX9_add 111 = .ok (.dup2, 1) := by decide +kernel
theorem dX9_add_112 : decode cX9_add 112 = .ok (.daload, 1) := by decide +kernel
theorem dX9_add_113 : decode cX9_add 113 = .ok (.dload 7, 2) := by decide +kernel
theorem dX9_add_115 : decode cX9_add 115 = .ok (.lload 4, 2) := by decide +kernel
theorem dX9_add_117 : decode cX9_add 117 = .ok (.l2d, 1) := by decide +kernel
theorem dX9_add_118 : decode cX9_add 118 = .ok (.dmul, 1) := by decide +kernel
theorem dX9_add_119 : decode cX9_add 119 = .ok (.lload 4, 2) := by decide +kernel
theorem dX9_add_121 : decode cX9_add 121 = .ok (.l2d, 1) := by decide +kernel
theorem dX9_add_122 : decode cX9_add 122 = .ok (.dmul, 1) := by decide +kernel
theorem dX9_add_123 : decode cX9_add 123 = .ok (.lload_n 2, 1) := by decide +kernel
theorem dX9_add_124 : decode cX9_add 124 = .ok (.l2d, 1) := by decide +kernel
theorem dX9_add_125 : decode cX9_add 125 = .ok (.ddiv, 1) := by decide +kernel
theorem dX9_add_126 : decode cX9_add 126 = .ok (.dadd, 1) := by decide +kernel
theorem dX9_add_127 : decode cX9_add 127 = .ok (.dastore, 1) := by decide +kernel
theorem dX9_add_128 : decode cX9_add 128 = .ok (.return_, 1) := by decide +kernel
set_option maxRecDepth 20000 in
theorem ggX9_lowerBound_X9_margin : GoodIn wsX9_lowerBound wsX9_margin := goodIn_r _ [7, 8, 9, 10, 6, 11, 12, 13, 14, 15, 16, 17, 18, 19, 20, 21, 22, 23, 24] (by decide +kernel) (by decide +kernel)
set_option maxRecDepth 20000 in
theorem gX9_lowerBound_X9_margin : GoodIn wsX9_lowerBound (va_wsS RX9 36 yX9_margin wsX9_margin) := goodIn_app (goodIn_of _ (by decide +kernel)) ggX9_lowerBound_X9_margin
theorem dX9_lowerBound_0 : decode cX9_lowerBound 0 = .ok (.aload_n 0, 1) := by decide +kernel
theorem dX9_lowerBound_1 : decode cX9_lowerBound 1 = .ok (.getfield 20, 3) := by decide +kernel
theorem dX9_lowerBound_4 : decode cX9_lowerBound 4 = .ok (.iload_n 2, 1) := by decide +kernel
theorem dX9_lowerBound_5 : decode cX9_lowerBound 5 = .ok (.aaload, 1) := by decide +kernel
theorem dX9_lowerBound_6 : decode cX9_lowerBound 6 = .ok (.iload_n 1, 1) := by decide +kernel
theorem dX9_lowerBound_7 : decode cX9_lowerBound 7 = .ok (.laload, 1) := by decide +kernel
theorem dX9_lowerBound_8 : decode cX9_lowerBound 8 = .ok (.l2d, 1) := by decide +kernel
theorem dX9_lowerBound_9 : decode cX9_lowerBound 9 = .ok (.aload_n 0, 1) := by decide +kernel
theorem dX9_lowerBound_10 : decode cX9_lowerBound 10 = .ok (.getfield 25, 3) := by decide +kernel
theorem dX9_lowerBound_13 : decode cX9_lowerBound 13 = .ok (.iload_n 2, 1) := by decide +kernel
theorem dX9_lowerBound_14 : decode cX9_lowerBound 14 = .ok (.aaload, 1) := by decide +kernel
theorem dX9_lowerBound_15 : decode cX9_lowerBound 15 = .ok (.iload_n 1, 1) := by decide +kernel
theorem dX9_lowerBound_16 : decode cX9_lowerBound 16 = .ok (.daload, 1) := by decide +kernel
theorem dX9_lowerBound_17 : decode cX9_lowerBound 17 = .ok (.invokestatic 36, 3) := by decide +kernel
theorem dX9_lowerBound_20 : decode cX9_lowerBound 20 = .ok (.dsub, 1) := by decide +kernel
theorem dX9_lowerBound_21 : decode cX9_lowerBound 21 = .ok (.dstore_n 3, 1) := by decide +kernel
theorem dX9_lowerBound_22 : decode cX9_lowerBound 22 = .ok (.aload_n 0, 1) := by decide +kernel
theorem dX9_lowerBound_23 : decode cX9_lowerBound 23 = .ok (.getfield 17, 3) := by decide +kernel
theorem dX9_lowerBound_26 : decode cX9_lowerBound 26 = .ok (.iload_n 2, 1) := by decide +kernel
theorem dX9_lowerBound_27 : decode cX9_lowerBound 27 = .ok (.aaload, 1) := by decide +kernel
theorem dX9_lowerBound_28 : decode cX9_lowerBound 28 = .ok (.iload_n 1, 1) := by decide +kernel
theorem dX9_lowerBound_29 : decode cX9_lowerBound 29 = .ok (.laload, 1) := by decide +kernel
theorem dX9_lowerBound_30 : decode cX9_lowerBound 30 = .ok (.l2d, 1) := by decide +kernel
theorem dX9_lowerBound_31 : decode cX9_lowerBound 31 = .ok (.dstore 5, 2) := by decide +kernel
theorem dX9_lowerBound_33 : decode cX9_lowerBound 33 = .ok (.dload_n 3, 1) := by decide +kernel
theorem dX9_lowerBound_34 : decode cX9_lowerBound 34 = .ok (.dload 5, 2) := by decide +kernel
theorem dX9_lowerBound_36 : decode cX9_lowerBound 36 = .ok (.dcmp .l, 1) := by decide +kernel
theorem dX9_lowerBound_37 : decode cX9_lowerBound 37 = .ok (.ifCond .le 7, 3) := by decide +kernel
theorem dX9_lowerBound_40 : decode cX9_lowerBound 40 = .ok (.dload_n 3, 1) := by decide +kernel
theorem dX9_lowerBound_41 : decode cX9_lowerBound 41 = .ok (.goto 5, 3) := by decide +kernel
theorem dX9_lowerBound_44 : decode cX9_lowerBound 44 = .ok (.dload 5, 2) := by decide +kernel
theorem dX9_lowerBound_46 : decode cX9_lowerBound 46 = .ok (.dreturn, 1) := by decide +kernel
set_option maxRecDepth 20000 in
theorem ggX9_upperBound_X9_margin : GoodIn wsX9_upperBound wsX9_margin := goodIn_r _ [6, 7, 8, 9, 5, 10, 11, 12, 13, 14, 15, 16, 17, 18, 19, 20, 21, 22, 23] (by decide +kernel) (by decide +kernel)
set_option maxRecDepth 20000 in
theorem gX9_upperBound_X9_margin : GoodIn wsX9_upperBound (va_wsS RX9 36 yX9_margin wsX9_margin) := goodIn_app (goodIn_of _ (by decide +kernel)) ggX9_upperBound_X9_margin
theorem dX9_upperBound_0 : decode cX9_upperBound 0 = .ok (.aload_n 0, 1) := by decide +kernel
theorem dX9_upperBound_1 : decode cX9_upperBound 1 = .ok (.getfield 20, 3) := by decide +kernel
theorem dX9_upperBound_4 : decode cX9_upperBound 4 = .ok (.iload_n 2, 1) := by decide +kernel
theorem dX9_upperBound_5 : decode cX9_upperBound 5 = .ok (.aaload, 1) := by decide +kernel
theorem dX9_upperBound_6 : decode cX9_upperBound 6 = .ok (.iload_n 1, 1) := by decide +kernel
theorem dX9_upperBound_7 : decode cX9_upperBound 7 = .ok (.laload, 1) := by decide +kernel
theorem dX9_upperBound_8 : decode cX9_upperBound 8 = .ok (.l2d, 1) := by decide +kernel
theorem dX9_upperBound_9 : decode cX9_upperBound 9 = .ok (.aload_n 0, 1) := by decide +kernel
theorem dX9_upperBound_10 : decode cX9_upperBound 10 = .ok (.getfield 25, 3) := by decide +kernel
theorem dX9_upperBound_13 : decode cX9_upperBound 13 = .ok (.iload_n 2, 1) := by decide +kernel
theorem dX9_upperBound_14 : decode cX9_upperBound 14 = .ok (.aaload, 1) := by decide +kernel
theorem dX9_upperBound_15 : decode cX9_upperBound 15 = .ok (.iload_n 1, 1) := by decide +kernel
theorem dX9_upperBound_16 : decode cX9_upperBound 16 = .ok (.daload, 1) := by decide +kernel
theorem dX9_upperBound_17 : decode cX9_upperBound 17 = .ok (.invokestatic 36, 3) := by decide +kernel
theorem dX9_upperBound_20 : decode cX9_upperBound 20 = .ok (.dadd, 1) := by decide +kernel
theorem dX9_upperBound_21 : decode cX9_upperBound 21 = .ok (.dreturn, 1) := by decide +kernel
theorem dX9_estimateOfAll_0 : decode cX9_estimateOfAll 0 = .ok (.lconst 0, 1) := by decide +kernel
theorem dX9_estimateOfAll_1 : decode cX9_estimateOfAll 1 = .ok (.lstore_n 2, 1) := by decide +kernel
theorem dX9_estimateOfAll_2 : decode cX9_estimateOfAll 2 = .ok (.iconst 0, 1) := by decide +kernel
theorem dX9_estimateOfAll_3 : decode cX9_estimateOfAll 3 = .ok (.istore 4, 2) := by decide +kernel
theorem dX9_estimateOfAll_5 : decode cX9_estimateOfAll 5 = .ok (.iload 4, 2) := by decide +kernel
theorem dX9_estimateOfAll_7 : decode cX9_estimateOfAll 7 = .ok (.aload_n 0, 1) := by decide +kernel
theorem dX9_estimateOfAll_8 : decode cX9_estimateOfAll 8 = .ok (.getfield 28, 3) := by decide +kernel
theorem dX9_estimateOfAll_11 : decode cX9_estimateOfAll 11 = .ok (.if_icmp .ge 21, 3) := by decide +kernel
theorem dX9_estimateOfAll_14 : decode cX9_estimateOfAll 14 = .ok (.lload_n 2, 1) := by decide +kernel
theorem dX9_estimateOfAll_15 : decode cX9_estimateOfAll 15 = .ok (.aload_n 0, 1) := by decide +kernel
theorem dX9_estimateOfAll_16 : decode cX9_estimateOfAll 16 = .ok (.getfield 20, 3) := by decide +kernel
theorem dX9_estimateOfAll_19 : decode cX9_estimateOfAll 19 = .ok (.iload_n 1, 1) := by decide +kernel
theorem dX9_estimateOfAll_20 : decode cX9_estimateOfAll 20 = .ok (.aaload, 1) := by decide +kernel
theorem dX9_estimateOfAll_21 : decode cX9_estimateOfAll 21 = .ok (.iload 4, 2) := by decide +kernel
theorem dX9_estimateOfAll_23 : decode cX9_estimateOfAll 23 = .ok (.laload, 1) := by decide +kernel
theorem dX9_estimateOfAll_24 : decode cX9_estimateOfAll 24 = .ok (.ladd, 1) := by decide +kernel
theorem dX9_estimateOfAll_25 : decode cX9_estimateOfAll 25 = .ok (.lstore_n 2, 1) := by decide +kernel
theorem dX9_estimateOfAll_26 : decode cX9_estimateOfAll 26 = .ok (.iinc 4 1, 3) := by decide +kernel
theorem dX9_estimateOfAll_29 : decode cX9_estimateOfAll 29 = .ok (.goto (-24), 3) := by decide +kernel
theorem dX9_estimateOfAll_32 : decode cX9_estimateOfAll 32 = .ok (.lload_n 2, 1) := by decide +kernel
theorem dX9_estimateOfAll_33 : decode cX9_estimateOfAll 33 = .ok (.lreturn, 1) := by decide +kernel
set_option maxRecDepth 20000 in
theorem ggX9_marginOfAll_X9_margin : GoodIn wsX9_marginOfAll wsX9_margin := goodIn_r _ [6, 7, 8, 9, 5, 10, 11, 12, 13, 14, 15, 16, 17, 18, 19, 20, 21, 22, 23] (by decide +kernel) (by decide +kernel)
set_option maxRecDepth 20000 in
theorem gX9_marginOfAll_X9_margin : GoodIn wsX9_marginOfAll (va_wsS RX9 36 yX9_margin wsX9_margin) := goodIn_app (goodIn_of _ (by decide +kernel)) ggX9_marginOfAll_X9_margin
theorem dX9_marginOfAll_0 : decode cX9_marginOfAll 0 = .ok (.dconst 0, 1) := by decide +kernel
theorem dX9_marginOfAll_1 : decode cX9_marginOfAll 1 = .ok (.dstore_n 2, 1) := by decide +kernel
theorem dX9_marginOfAll_2 : decode cX9_marginOfAll 2 = .ok (.iconst 0, 1) := by decide +kernel
theorem dX9_marginOfAll_3 : decode cX9_marginOfAll 3 = .ok (.istore 4, 2) := by decide +kernel
theorem dX9_marginOfAll_5 : decode cX9_marginOfAll 5 = .ok (.iload 4, 2) := by decide +kernel
theorem dX9_marginOfAll_7 : decode cX9_marginOfAll 7 = .ok (.aload_n 0, 1) := by decide +kernel
theorem dX9_marginOfAll_8 : decode cX9_marginOfAll 8 = .ok (.getfield 28, 3) := by decide +kernel
theorem dX9_marginOfAll_11 : decode cX9_marginOfAll 11 = .ok (.if_icmp .ge 21, 3) := by decide +kernel
theorem dX9_marginOfAll_14 : decode cX9_marginOfAll 14 = .ok (.dload_n 2, 1) := by decide +kernel
theorem dX9_marginOfAll_15 : decode cX9_marginOfAll 15 = .ok (.aload_n 0, 1) := by decide +kernel
theorem dX9_marginOfAll_16 : decode cX9_marginOfAll 16 = .ok (.getfield 25, 3) := by decide +kernel
theorem dX9_marginOfAll_19 : decode cX9_marginOfAll 19 = .ok (.iload_n 1, 1) := by decide +kernel
theorem dX9_marginOfAll_20 : decode cX9_marginOfAll 20 = .ok (.aaload, 1) := by decide +kernel
theorem dX9_marginOfAll_21 : decode cX9_marginOfAll 21 = .ok (.iload 4, 2) := by decide +kernel
theorem dX9_marginOfAll_23 : decode cX9_marginOfAll 23 = .ok (.daload, 1) := by decide +kernel
theorem dX9_marginOfAll_24 : decode cX9_marginOfAll 24 = .ok (.dadd, 1) := by decide +kernel
theorem dX9_marginOfAll_25 : decode cX9_marginOfAll 25 = .ok (.dstore_n 2, 1) := by decide +kernel
theorem dX9_marginOfAll_26 : decode cX9_marginOfAll 26 = .ok (.iinc 4 1, 3) := by decide +kernel
theorem dX9_marginOfAll_29 : decode cX9_marginOfAll 29 = .ok (.goto (-24), 3) := by decide +kernel
theorem dX9_marginOfAll_32 : decode cX9_marginOfAll 32 = .ok (.dload_n 2, 1) := by decide +kernel
theorem dX9_marginOfAll_33 : decode cX9_marginOfAll 33 = .ok (.invokestatic 36, 3) := by decide +kernel
theorem dX9_marginOfAll_36 : decode cX9_marginOfAll 36 = .ok (.dreturn, 1) := by decide +kernel
set_option maxRecDepth 20000 in
theorem ggX9_indexWithRank_X9_rankOf : GoodIn wsX9_indexWithRank wsX9_rankOf := goodIn_ca (goodIn_r _ [6, 7, 1, 8, 9, 10, 11, 12] (by decide +kernel) (by decide +kernel)) (goodIn_sub (fun _ h => List.mem_cons_of_mem _ (List.mem_append_right _ h)) (by decide +kernel))
set_option maxRecDepth 20000 in
theorem gX9_indexWithRank_X9_rankOf : GoodIn wsX9_indexWithRank (wsV RX9 40 RX9 yX9_rankOf wsX9_rankOf) := goodIn_app (goodIn_of _ (by decide +kernel)) ggX9_indexWithRank_X9_rankOf
theorem dX9_indexWithRank_0 : decode cX9_indexWithRank 0 = .ok (.iconst 0, 1) := by decide +kernel
theorem dX9_indexWithRank_1 : decode cX9_indexWithRank 1 = .ok (.istore_n 3, 1) := by decide +kernel
theorem dX9_indexWithRank_2 : decode cX9_indexWithRank 2 = .ok (.iload_n 3, 1) := by decide +kernel
theorem dX9_indexWithRank_3 : decode cX9_indexWithRank 3 = .ok (.aload_n 0, 1) := by decide +kernel
theorem dX9_indexWithRank_4 : decode cX9_indexWithRank 4 = .ok (.getfield 28, 3) := by decide +kernel
theorem dX9_indexWithRank_7 : decode cX9_indexWithRank 7 = .ok (.if_icmp .ge 21, 3) := by decide +kernel
theorem dX9_indexWithRank_10 : decode cX9_indexWithRank 10 = .ok (.aload_n 0, 1) := by decide +kernel
theorem dX9_indexWithRank_11 : decode cX9_indexWithRank 11 = .ok (.iload_n 3, 1) := by decide +kernel
theorem dX9_indexWithRank_12 : decode cX9_indexWithRank 12 = .ok (.iload_n 2, 1) := by decide +kernel
theorem dX9_indexWithRank_13 : decode cX9_indexWithRank 13 = .ok (.invokevirtual 40, 3) := by decide +kernel
theorem dX9_indexWithRank_16 : decode cX9_indexWithRank 16 = .ok (.iload_n 1, 1) := by decide +kernel
theorem dX9_indexWithRank_17 : decode cX9_indexWithRank 17 = .ok (.if_icmp .ne 5, 3) := by decide +kernel
theorem dX9_indexWithRank_20 : decode cX9_indexWithRank 20 = .ok (.iload_n 3, 1) := by decide +kernel
theorem dX9_indexWithRank_21 : decode cX9_indexWithRank 21 = .ok (.ireturn, 1) := by decide +kernel
theorem dX9_indexWithRank_22 : decode cX9_indexWithRank 22 = .ok (.iinc 3 1, 3) := by decide +kernel
theorem dX9_indexWithRank_25 : decode cX9_indexWithRank 25 = .ok (.goto (-23), 3) := by decide +kernel
theorem dX9_indexWithRank_28 : decode cX9_indexWithRank 28 = .ok (.iconst (-1), 1) := by decide +kernel
theorem dX9_indexWithRank_29 : decode cX9_indexWithRank 29 = .ok (.ireturn, 1) := by decide +kernel
theorem dX9_rankOf_0 : decode cX9_rankOf 0 = .ok (.aload_n 0, 1) := by decide +kernel
theorem dX9_rankOf_1 : decode cX9_rankOf 1 = .ok (.getfield 20, 3) := by decide +kernel
theorem dX9_rankOf_4 : decode cX9_rankOf 4 = .ok (.iload_n 2, 1) := by decide +kernel
theorem dX9_rankOf_5 : decode cX9_rankOf 5 = .ok (.aaload, 1) := by decide +kernel
theorem dX9_rankOf_6 : decode cX9_rankOf 6 = .ok (.iload_n 1, 1) := by decide +kernel
theorem dX9_rankOf_7 : decode cX9_rankOf 7 = .ok (.laload, 1) := by decide +kernel
theorem dX9_rankOf_8 : decode cX9_rankOf 8 = .ok (.lstore_n 3, 1) := by decide +kernel
theorem dX9_rankOf_9 : decode cX9_rankOf 9 = .ok (.iconst 0, 1) := by decide +kernel
theorem dX9_rankOf_10 : decode cX9_rankOf 10 = .ok (.istore 5, 2) := by decide +kernel
theorem dX9_rankOf_12 : decode cX9_rankOf 12 = .ok (.iconst 0, 1) := by decide +kernel
theorem dX9_rankOf_13 : decode cX9_rankOf 13 = .ok (.istore 6, 2) := by decide +kernel
theorem dX9_rankOf_15 : decode cX9_rankOf 15 = .ok (.iload 6, 2) := by decide +kernel
theorem dX9_rankOf_17 : decode cX9_rankOf 17 = .ok (.aload_n 0, 1) := by decide +kernel
theorem dX9_rankOf_18 : decode cX9_rankOf 18 = .ok (.getfield 28, 3) := by decide +kernel
theorem dX9_rankOf_21 : decode cX9_rankOf 21 = .ok (.if_icmp .ge 43, 3) := by decide +kernel
theorem dX9_rankOf_24 : decode cX9_rankOf 24 = .ok (.aload_n 0, 1) := by decide +kernel
theorem dX9_rankOf_25 : decode cX9_rankOf 25 = .ok (.getfield 20, 3) := by decide +kernel
theorem dX9_rankOf_28 : decode cX9_rankOf 28 = .ok (.iload_n 2, 1) := by decide +kernel
theorem dX9_rankOf_29 : decode cX9_rankOf 29 = .ok (.aaload, 1) := by decide +kernel
theorem dX9_rankOf_30 : decode cX9_rankOf 30 = .ok (.iload 6, 2) := by decide +kernel
theorem dX9_rankOf_32 : decode cX9_rankOf 32 = .ok (.laload, 1) := by decide +kernel
theorem dX9_rankOf_33 : decode cX9_rankOf 33 = .ok (.lstore 7, 2) := by decide +kernel
theorem dX9_rankOf_35 : decode cX9_rankOf 35 = .ok (.lload 7, 2) := by decide +kernel
theorem dX9_rankOf_37 : decode cX9_rankOf 37 = .ok (.lload_n 3, 1) := by decide +kernel
theorem dX9_rankOf_38 : decode cX9_rankOf 38 = .ok (.lcmp, 1) := by decide +kernel
theorem dX9_rankOf_39 : decode cX9_rankOf 39 = .ok (.ifCond .gt 16, 3) := by decide +kernel
theorem dX9_rankOf_42 : decode cX9_rankOf 42 = .ok (.lload 7, 2) := by decide +kernel
theorem dX9_rankOf_44 : decode cX9_rankOf 44 = .ok (.lload_n 3, 1) := by decide +kernel
theorem dX9_rankOf_45 : decode cX9_rankOf 45 = .ok (.lcmp, 1) := by decide +kernel
theorem dX9_rankOf_46 : decode cX9_rankOf 46 = .ok (.ifCond .ne 12, 3) := by decide +kernel
theorem dX9_rankOf_49 : decode cX9_rankOf 49 = .ok (.iload 6, 2) := by decide +kernel
theorem dX9_rankOf_51 : decode cX9_rankOf 51 = .ok (.iload_n 1, 1) := by decide +kernel
theorem dX9_rankOf_52 : decode cX9_rankOf 52 = .ok (.if_icmp .ge 6, 3) := by decide +kernel
theorem dX9_rankOf_55 : decode cX9_rankOf 55 = .ok (.iinc 5 1, 3) := by decide +kernel
theorem dX9_rankOf_58 : decode cX9_rankOf 58 = .ok (.iinc 6 1, 3) := by decide +kernel
theorem dX9_rankOf_61 : decode cX9_rankOf 61 = .ok (.goto (-46), 3) := by decide +kernel
theorem dX9_rankOf_64 : decode cX9_rankOf 64 = .ok (.iload 5, 2) := by decide +kernel
theorem dX9_rankOf_66 : decode cX9_rankOf 66 = .ok (.ireturn, 1) := by decide +kernel
set_option maxRecDepth 20000 in
theorem ggX9_margin_X9_root : GoodIn wsX9_margin wsX9_root := goodIn_r _ [5, 6, 7, 8, 9, 10, 4, 11, 12, 13, 14, 15, 16, 17, 18] (by decide +kernel) (by decide +kernel)
set_option maxRecDepth 20000 in
theorem gX9_margin_X9_root : GoodIn wsX9_margin (va_wsS RX9 46 yX9_root wsX9_root) := goodIn_app (goodIn_of _ (by decide +kernel)) ggX9_margin_X9_root
theorem dX9_margin_0 : decode cX9_margin 0 = .ok (.ldc2_w 44, 3) := by decide +kernel
theorem dX9_margin_3 : decode cX9_margin 3 = .ok (.dload_n 0, 1) := by decide +kernel
theorem dX9_margin_4 : decode cX9_margin 4 = .ok (.invokestatic 46, 3) := by decide +kernel
theorem dX9_margin_7 : decode cX9_margin 7 = .ok (.dmul, 1) := by decide +kernel
theorem dX9_margin_8 : decode cX9_margin 8 = .ok (.dreturn, 1) := by decide +kernel
set_option maxRecDepth 20000 in
theorem ggX9_root_X9_scaledRoot : GoodIn wsX9_root wsX9_scaledRoot := goodIn_r _ [7, 8, 9, 10] (by decide +kernel) (by decide +kernel)
set_option maxRecDepth 20000 in
theorem gX9_root_X9_scaledRoot : GoodIn wsX9_root (va_wsS RX9 55 yX9_scaledRoot wsX9_scaledRoot) := goodIn_app (goodIn_of _ (by decide +kernel)) ggX9_root_X9_scaledRoot
set_option maxRecDepth 20000 in
theorem ggX9_root_X9_timesPowerOfTwo : GoodIn wsX9_root wsX9_timesPowerOfTwo := goodIn_r _ [13, 14] (by decide +kernel) (by decide +kernel)
set_option maxRecDepth 20000 in
theorem gX9_root_X9_timesPowerOfTwo : GoodIn wsX9_root (va_wsS RX9 59 yX9_timesPowerOfTwo wsX9_timesPowerOfTwo) := goodIn_app (goodIn_of _ (by decide +kernel)) ggX9_root_X9_timesPowerOfTwo
theorem dX9_root_0 : decode cX9_root 0 = .ok (.dload_n 0, 1) := by decide +kernel
theorem dX9_root_1 : decode cX9_root 1 = .ok (.dconst 0, 1) := by decide +kernel
theorem dX9_root_2 : decode cX9_root 2 = .ok (.dcmp .l, 1) := by decide +kernel
theorem dX9_root_3 : decode cX9_root 3 = .ok (.ifCond .gt 5, 3) := by decide +kernel
theorem dX9_root_6 : decode cX9_root 6 = .ok (.dconst 0, 1) := by decide +kernel
theorem dX9_root_7 : decode cX9_root 7 = .ok (.dreturn, 1) := by decide +kernel
theorem dX9_root_8 : decode cX9_root 8 = .ok (.dload_n 0, 1) := by decide +kernel
theorem dX9_root_9 : decode cX9_root 9 = .ok (.dstore_n 2, 1) := by decide +kernel
theorem dX9_root_10 : decode cX9_root 10 = .ok (.iconst 0, 1) := by decide +kernel
theorem dX9_root_11 : decode cX9_root 11 = .ok (.istore 4, 2) := by decide +kernel
theorem dX9_root_13 : decode cX9_root 13 = .ok (.iconst 0, 1) := by decide +kernel
theorem dX9_root_14 : decode cX9_root 14 = .ok (.istore 5, 2) := by decide +kernel
theorem dX9_root_16 : decode cX9_root 16 = .ok (.iload 5, 2) := by decide +kernel
theorem dX9_root_18 : decode cX9_root 18 = .ok (.sipush 600, 3) := by decide +kernel
theorem dX9_root_21 : decode cX9_root 21 = .ok (.if_icmp .ge 26, 3) := by decide +kernel
theorem dX9_root_24 : decode cX9_root 24 = .ok (.dload_n 2, 1) := by decide +kernel
theorem dX9_root_25 : decode cX9_root 25 = .ok (.ldc2_w 49, 3) := by decide +kernel
theorem dX9_root_28 : decode cX9_root 28 = .ok (.dcmp .l, 1) := by decide +kernel
theorem dX9_root_29 : decode cX9_root 29 = .ok (.ifCond .lt 18, 3) := by decide +kernel
theorem dX9_root_32 : decode cX9_root 32 = .ok (.dload_n 2, 1) := by decide +kernel
theorem dX9_root_33 : decode cX9_root 33 = .ok (.ldc2_w 51, 3) := by decide +kernel
theorem dX9_root_36 : decode cX9_root 36 = .ok (.ddiv, 1) := by decide +kernel
theorem dX9_root_37 : decode cX9_root 37 = .ok (.dstore_n 2, 1) := by decide +kernel
theorem dX9_root_38 : decode cX9_root 38 = .ok (.iinc 4 1, 3) := by decide +kernel
theorem dX9_root_41 : decode cX9_root 41 = .ok (.iinc 5 1, 3) := by decide +kernel
theorem dX9_root_44 : decode cX9_root 44 = .ok (.goto (-28), 3) := by decide +kernel
theorem dX9_root_47 : decode cX9_root 47 = .ok (.iconst 0, 1) := by decide +kernel
theorem dX9_root_48 : decode cX9_root 48 = .ok (.istore 5, 2) := by decide +kernel
theorem dX9_root_50 : decode cX9_root 50 = .ok (.iload 5, 2) := by decide +kernel
theorem dX9_root_52 : decode cX9_root 52 = .ok (.sipush 600, 3) := by decide +kernel
theorem dX9_root_55 : decode cX9_root 55 = .ok (.if_icmp .ge 26, 3) := by decide +kernel
theorem dX9_root_58 : decode cX9_root 58 = .ok (.dload_n 2, 1) := by decide +kernel
theorem dX9_root_59 : decode cX9_root 59 = .ok (.ldc2_w 53, 3) := by decide +kernel
theorem dX9_root_62 : decode cX9_root 62 = .ok (.dcmp .g, 1) := by decide +kernel
theorem dX9_root_63 : decode cX9_root 63 = .ok (.ifCond .ge 18, 3) := by decide +kernel
theorem dX9_root_66 : decode cX9_root 66 = .ok (.dload_n 2, 1) := by decide +kernel
theorem dX9_root_67 : decode cX9_root 67 = .ok (.ldc2_w 51, 3) := by decide +kernel
theorem dX9_root_70 : decode cX9_root 70 = .ok (.dmul, 1) := by decide +kernel
theorem dX9_root_71 : decode cX9_root 71 = .ok (.dstore_n 2, 1) := by decide +kernel
theorem dX9_root_72 : decode cX9_root 72 = .ok (.iinc 4 (-1), 3) := by decide +kernel
theorem dX9_root_75 : decode cX9_root 75 = .ok (.iinc 5 1, 3) := by decide +kernel
theorem dX9_root_78 : decode cX9_root 78 = .ok (.goto (-28), 3) := by decide +kernel
theorem dX9_root_81 : decode cX9_root 81 = .ok (.dload_n 2, 1) := by decide +kernel
theorem dX9_root_82 : decode cX9_root 82 = .ok (.d2l, 1) := by decide +kernel
theorem dX9_root_83 : decode cX9_root 83 = .ok (.invokestatic 55, 3) := by decide +kernel
theorem dX9_root_86 : decode cX9_root 86 = .ok (.iload 4, 2) := by decide +kernel
theorem dX9_root_88 : decode cX9_root 88 = .ok (.bipush 26, 2) := by decide +kernel
theorem dX9_root_90 : decode cX9_root 90 = .ok (.isub, 1) := by decide +kernel
theorem dX9_root_91 : decode cX9_root 91 = .ok (.invokestatic 59, 3) := by decide +kernel
theorem dX9_root_94 : decode cX9_root 94 = .ok (.dreturn, 1) := by decide +kernel
theorem dX9_scaledRoot_0 : decode cX9_scaledRoot 0 = .ok (.lconst 0, 1) := by decide +kernel
theorem dX9_scaledRoot_1 : decode cX9_scaledRoot 1 = .ok (.lstore_n 2, 1) := by decide +kernel
theorem dX9_scaledRoot_2 : decode cX9_scaledRoot 2 = .ok (.lconst 0, 1) := by decide +kernel
theorem dX9_scaledRoot_3 : decode cX9_scaledRoot 3 = .ok (.lstore 4, 2) := by decide +kernel
theorem dX9_scaledRoot_5 : decode cX9_scaledRoot 5 = .ok (.bipush 52, 2) := by decide +kernel
theorem dX9_scaledRoot_7 : decode cX9_scaledRoot 7 = .ok (.istore 6, 2) := by decide +kernel
theorem dX9_scaledRoot_9 : decode cX9_scaledRoot 9 = .ok (.iload 6, 2) := by decide +kernel
theorem dX9_scaledRoot_11 : decode cX9_scaledRoot 11 = .ok (.ifCond .lt 80, 3) := by decide +kernel
theorem dX9_scaledRoot_14 : decode cX9_scaledRoot 14 = .ok (.iload 6, 2) := by decide +kernel
theorem dX9_scaledRoot_16 : decode cX9_scaledRoot 16 = .ok (.bipush 26, 2) := by decide +kernel
theorem dX9_scaledRoot_18 : decode cX9_scaledRoot 18 = .ok (.if_icmp .lt 19, 3) := by decide +kernel
theorem dX9_scaledRoot_21 : decode cX9_scaledRoot 21 = .ok (.lload_n 0, 1) := by decide +kernel
theorem dX9_scaledRoot_22 : decode cX9_scaledRoot 22 = .ok (.iconst 2, 1) := by decide +kernel
theorem dX9_scaledRoot_23 : decode cX9_scaledRoot 23 = .ok (.iload 6, 2) := by decide +kernel
theorem dX9_scaledRoot_25 : decode cX9_scaledRoot 25 = .ok (.bipush 26, 2) := by decide +kernel
theorem dX9_scaledRoot_27 : decode cX9_scaledRoot 27 = .ok (.isub, 1) := by decide +kernel
theorem dX9_scaledRoot_28 : decode cX9_scaledRoot 28 = .ok (.imul, 1) := by decide +kernel
theorem dX9_scaledRoot_29 : decode cX9_scaledRoot 29 = .ok (.lshr, 1) := by decide +kernel
theorem dX9_scaledRoot_30 : decode cX9_scaledRoot 30 = .ok (.ldc2_w 63, 3) := by decide +kernel
theorem dX9_scaledRoot_33 : decode cX9_scaledRoot 33 = .ok (.land, 1) := by decide +kernel
theorem dX9_scaledRoot_34 : decode cX9_scaledRoot 34 = .ok (.goto 4, 3) := by decide +kernel
theorem dX9_scaledRoot_37 : decode cX9_scaledRoot 37 = .ok (.lconst 0, 1) := by decide +kernel
theorem dX9_scaledRoot_38 : decode cX9_scaledRoot 38 = .ok (.lstore 7, 2) := by decide +kernel
theorem dX9_scaledRoot_40 : decode cX9_scaledRoot 40 = .ok (.ldc2_w 65, 3) := by decide +kernel
theorem dX9_scaledRoot_43 : decode cX9_scaledRoot 43 = .ok (.lload_n 2, 1) := by decide +kernel
theorem dX9_scaledRoot_44 : decode cX9_scaledRoot 44 = .ok (.lmul, 1) := by decide +kernel
theorem dX9_scaledRoot_45 : decode cX9_scaledRoot 45 = .ok (.lconst 1, 1) := by decide +kernel
theorem dX9_scaledRoot_46 : decode cX9_scaledRoot 46 = .ok (.ladd, 1) := by decide +kernel
theorem dX9_scaledRoot_47 : decode cX9_scaledRoot 47 = .ok (.lstore 9, 2) := by decide +kernel
theorem dX9_scaledRoot_49 : decode cX9_scaledRoot 49 = .ok (.ldc2_w 65, 3) := by decide +kernel
theorem dX9_scaledRoot_52 : decode cX9_scaledRoot 52 = .ok (.lload 4, 2) := by decide +kernel
theorem dX9_scaledRoot_54 : decode cX9_scaledRoot 54 = .ok (.lmul, 1) := by decide +kernel
theorem dX9_scaledRoot_55 : decode cX9_scaledRoot 55 = .ok (.lload 7, 2) := by decide +kernel
theorem dX9_scaledRoot_57 : decode cX9_scaledRoot 57 = .ok (.ladd, 1) := by decide +kernel
theorem dX9_scaledRoot_58 : decode cX9_scaledRoot 58 = .ok (.lstore 4, 2) := by decide +kernel
theorem dX9_scaledRoot_60 : decode cX9_scaledRoot 60 = .ok (.ldc2_w 67, 3) := by decide +kernel
theorem dX9_scaledRoot_63 : decode cX9_scaledRoot 63 = .ok (.lload_n 2, 1) := by decide +kernel
theorem dX9_scaledRoot_64 : decode cX9_scaledRoot 64 = .ok (.lmul, 1) := by decide +kernel
theorem dX9_scaledRoot_65 : decode cX9_scaledRoot 65 = .ok (.lstore_n 2, 1) := by decide +kernel
theorem dX9_scaledRoot_66 : decode cX9_scaledRoot 66 = .ok (.lload 4, 2) := by decide +kernel
theorem dX9_scaledRoot_68 : decode cX9_scaledRoot 68 = .ok (.lload 9, 2) := by decide +kernel
theorem dX9_scaledRoot_70 : decode cX9_scaledRoot 70 = .ok (.lcmp, 1) := by decide +kernel
theorem dX9_scaledRoot_71 : decode cX9_scaledRoot 71 = .ok (.ifCond .lt 14, 3) := by decide +kernel
theorem dX9_scaledRoot_74 : decode cX9_scaledRoot 74 = .ok (.lload 4, 2) := by decide +kernel
theorem dX9_scaledRoot_76 : decode cX9_scaledRoot 76 = .ok (.lload 9, 2) := by decide +kernel
theorem dX9_scaledRoot_78 : decode cX9_scaledRoot 78 = .ok (.lsub, 1) := by decide +kernel
theorem dX9_scaledRoot_79 : decode cX9_scaledRoot 79 = .ok (.lstore 4, 2) := by decide +kernel
theorem dX9_scaledRoot_81 : decode cX9_scaledRoot 81 = .ok (.lload_n 2, 1) := by decide +kernel
theorem dX9_scaledRoot_82 : decode cX9_scaledRoot 82 = .ok (.lconst 1, 1) := by decide +kernel
theorem dX9_scaledRoot_83 : decode cX9_scaledRoot 83 = .ok (.ladd, 1) := by decide +kernel
theorem dX9_scaledRoot_84 : decode cX9_scaledRoot 84 = .ok (.lstore_n 2, 1) := by decide +kernel
theorem dX9_scaledRoot_85 : decode cX9_scaledRoot 85 = .ok (.iinc 6 (-1), 3) := by decide +kernel
theorem dX9_scaledRoot_88 : decode cX9_scaledRoot 88 = .ok (.goto (-79), 3) := by decide +kernel
theorem dX9_scaledRoot_91 : decode cX9_scaledRoot 91 = .ok (.lload 4, 2) := by decide +kernel
theorem dX9_scaledRoot_93 : decode cX9_scaledRoot 93 = .ok (.lload_n 2, 1) := by decide +kernel
theorem dX9_scaledRoot_94 : decode cX9_scaledRoot 94 = .ok (.lcmp, 1) := by decide +kernel
theorem dX9_scaledRoot_95 : decode cX9_scaledRoot 95 = .ok (.ifCond .le 9, 3) := by decide +kernel
theorem dX9_scaledRoot_98 : decode cX9_scaledRoot 98 = .ok (.lload_n 2, 1) := by decide +kernel
theorem dX9_scaledRoot_99 : decode cX9_scaledRoot 99 = .ok (.lconst 1, 1) := by decide +kernel
theorem dX9_scaledRoot_100 : decode cX9_scaledRoot 100 = .ok (.ladd, 1) := by decide +kernel
theorem dX9_scaledRoot_101 : decode cX9_scaledRoot 101 = .ok (.goto 4, 3) := by decide +kernel
theorem dX9_scaledRoot_104 : decode cX9_scaledRoot 104 = .ok (.lload_n 2, 1) := by decide +kernel
theorem dX9_scaledRoot_105 : decode cX9_scaledRoot 105 = .ok (.lreturn, 1) := by decide +kernel
theorem dX9_timesPowerOfTwo_0 : decode cX9_timesPowerOfTwo 0 = .ok (.lload_n 0, 1) := by decide +kernel
theorem dX9_timesPowerOfTwo_1 : decode cX9_timesPowerOfTwo 1 = .ok (.l2d, 1) := by decide +kernel
theorem dX9_timesPowerOfTwo_2 : decode cX9_timesPowerOfTwo 2 = .ok (.dstore_n 3, 1) := by decide +kernel
theorem dX9_timesPowerOfTwo_3 : decode cX9_timesPowerOfTwo 3 = .ok (.iconst 0, 1) := by decide +kernel
theorem dX9_timesPowerOfTwo_4 : decode cX9_timesPowerOfTwo 4 = .ok (.istore 5, 2) := by decide +kernel
theorem dX9_timesPowerOfTwo_6 : decode cX9_timesPowerOfTwo 6 = .ok (.iload 5, 2) := by decide +kernel
theorem dX9_timesPowerOfTwo_8 : decode cX9_timesPowerOfTwo 8 = .ok (.iload_n 2, 1) := by decide +kernel
theorem dX9_timesPowerOfTwo_9 : decode cX9_timesPowerOfTwo 9 = .ok (.if_icmp .ge 15, 3) := by decide +kernel
theorem dX9_timesPowerOfTwo_12 : decode cX9_timesPowerOfTwo 12 = .ok (.dload_n 3, 1) := by decide +kernel
theorem dX9_timesPowerOfTwo_13 : decode cX9_timesPowerOfTwo 13 = .ok (.ldc2_w 69, 3) := by decide +kernel
theorem dX9_timesPowerOfTwo_16 : decode cX9_timesPowerOfTwo 16 = .ok (.dmul, 1) := by decide +kernel
theorem dX9_timesPowerOfTwo_17 : decode cX9_timesPowerOfTwo 17 = .ok (.dstore_n 3, 1) := by decide +kernel
theorem dX9_timesPowerOfTwo_18 : decode cX9_timesPowerOfTwo 18 = .ok (.iinc 5 1, 3) := by decide +kernel
theorem dX9_timesPowerOfTwo_21 : decode cX9_timesPowerOfTwo 21 = .ok (.goto (-15), 3) := by decide +kernel
theorem dX9_timesPowerOfTwo_24 : decode cX9_timesPowerOfTwo 24 = .ok (.iload_n 2, 1) := by decide +kernel
theorem dX9_timesPowerOfTwo_25 : decode cX9_timesPowerOfTwo 25 = .ok (.istore 5, 2) := by decide +kernel
theorem dX9_timesPowerOfTwo_27 : decode cX9_timesPowerOfTwo 27 = .ok (.iload 5, 2) := by decide +kernel
theorem dX9_timesPowerOfTwo_29 : decode cX9_timesPowerOfTwo 29 = .ok (.ifCond .ge 15, 3) := by decide +kernel
theorem dX9_timesPowerOfTwo_32 : decode cX9_timesPowerOfTwo 32 = .ok (.dload_n 3, 1) := by decide +kernel
theorem dX9_timesPowerOfTwo_33 : decode cX9_timesPowerOfTwo 33 = .ok (.ldc2_w 69, 3) := by decide +kernel
theorem dX9_timesPowerOfTwo_36 : decode cX9_timesPowerOfTwo 36 = .ok (.ddiv, 1) := by decide +kernel
theorem dX9_timesPowerOfTwo_37 : decode cX9_timesPowerOfTwo 37 = .ok (.dstore_n 3, 1) := by decide +kernel
theorem dX9_timesPowerOfTwo_38 : decode cX9_timesPowerOfTwo 38 = .ok (.iinc 5 1, 3) := by decide +kernel
theorem dX9_timesPowerOfTwo_41 : decode cX9_timesPowerOfTwo 41 = .ok (.goto (-14), 3) := by decide +kernel
theorem dX9_timesPowerOfTwo_44 : decode cX9_timesPowerOfTwo 44 = .ok (.dload_n 3, 1) := by decide +kernel
theorem dX9_timesPowerOfTwo_45 : decode cX9_timesPowerOfTwo 45 = .ok (.dreturn, 1) := by decide +kernel
theorem dX10_has_0 : decode cX10_has 0 = .ok (.iload_n 1, 1) := by decide +kernel
theorem dX10_has_1 : decode cX10_has 1 = .ok (.ifCond .lt 25, 3) := by decide +kernel
theorem dX10_has_4 : decode cX10_has 4 = .ok (.iload_n 1, 1) := by decide +kernel
theorem dX10_has_5 : decode cX10_has 5 = .ok (.bipush 9, 2) := by decide +kernel
theorem dX10_has_7 : decode cX10_has 7 = .ok (.if_icmp .ge 19, 3) := by decide +kernel
theorem dX10_has_10 : decode cX10_has 10 = .ok (.aload_n 0, 1) := by decide +kernel
theorem dX10_has_11 : decode cX10_has 11 = .ok (.getfield 19, 3) := by decide +kernel
theorem dX10_has_14 : decode cX10_has 14 = .ok (.iload_n 1, 1) := by decide +kernel
theorem dX10_has_15 : decode cX10_has 15 = .ok (.ishr, 1) := by decide +kernel
theorem dX10_has_16 : decode cX10_has 16 = .ok (.iconst 1, 1) := by decide +kernel
theorem dX10_has_17 : decode cX10_has 17 = .ok (.iand, 1) := by decide +kernel
theorem dX10_has_18 : decode cX10_has 18 = .ok (.iconst 1, 1) := by decide +kernel
theorem dX10_has_19 : decode cX10_has 19 = .ok (.if_icmp .ne 7, 3) := by decide +kernel
theorem dX10_has_22 : decode cX10_has 22 = .ok (.iconst 1, 1) := by decide +kernel
theorem dX10_has_23 : decode cX10_has 23 = .ok (.goto 4, 3) := by decide +kernel
theorem dX10_has_26 : decode cX10_has 26 = .ok (.iconst 0, 1) := by decide +kernel
theorem dX10_has_27 : decode cX10_has 27 = .ok (.ireturn, 1) := by decide +kernel
theorem dX10_field_21 : decode cX10_field 21 = .ok (.iconst (-1), 1) := by decide +kernel
set_option maxRecDepth 20000 in
theorem ggX11_startAnew_X1_copyFrom : GoodIn wsX11_startAnew wsX1_copyFrom := goodIn_ca (goodIn_r _ [14, 15, 16, 17, 18, 19, 20, 21, 22, 23, 24, 25, 26, 27, 28, 29, 30, 31, 32, 33, 34, 35, 36, 37, 38, 39, 40, 41, 42, 43, 44, 45, 46, 47, 13, 48, 49, 145, 146, 147, 148, 149, 150, 151, 152, 153, 154] (by decide +kernel) (by decide +kernel)) (goodIn_sub (fun _ h => List.mem_cons_of_mem _ (List.mem_append_right _ h)) (by decide +kernel))
set_option maxRecDepth 20000 in
theorem gX11_startAnew_X1_copyFrom : GoodIn wsX11_startAnew (wsV RX11 83 RX1 yX1_copyFrom wsX1_copyFrom) := goodIn_app (goodIn_of _ (by decide +kernel)) ggX11_startAnew_X1_copyFrom
set_option maxRecDepth 20000 in
theorem ggX11_startAnew_X7_clear : GoodIn wsX11_startAnew wsX7_clear := goodIn_r _ [54, 55, 56, 155, 156, 157] (by decide +kernel) (by decide +kernel)
set_option maxRecDepth 20000 in
theorem gX11_startAnew_X7_clear : GoodIn wsX11_startAnew (wsV RX11 87 RX7 yX7_clear wsX7_clear) := goodIn_app (goodIn_of _ (by decide +kernel)) ggX11_startAnew_X7_clear
set_option maxRecDepth 20000 in
theorem ggX11_startAnew_X8_clear : GoodIn wsX11_startAnew wsX8_clear := goodIn_r _ [61, 62, 63, 64, 65, 66, 60, 67, 68, 69, 70, 71, 72, 73, 74, 75, 76, 77, 78, 79, 80, 81, 82, 83, 84, 158, 159, 160, 161, 162, 163, 164, 165, 166, 167, 168, 169] (by decide +kernel) (by decide +kernel)
set_option maxRecDepth 20000 in
theorem gX11_startAnew_X8_clear : GoodIn wsX11_startAnew (wsV RX11 90 RX8 yX8_clear wsX8_clear) := goodIn_app (goodIn_of _ (by decide +kernel)) ggX11_startAnew_X8_clear
set_option maxRecDepth 20000 in
theorem ggX11_startAnew_X2_clear : GoodIn wsX11_startAnew wsX2_clear := goodIn_ca (goodIn_r _ [89, 90, 91, 92, 93, 94, 95, 96, 97, 98, 99, 100, 101, 102, 103, 104, 105, 13, 106, 15, 170, 171, 172, 173, 174, 175, 176, 177, 178, 179, 180, 181, 182, 183, 184, 145, 146, 147, 148, 149, 150] (by decide +kernel) (by decide +kernel)) (goodIn_sub (fun _ h => List.mem_cons_of_mem _ (List.mem_append_right _ h)) (by decide +kernel))
set_option maxRecDepth 20000 in
theorem gX11_startAnew_X2_clear : GoodIn wsX11_startAnew (wsV RX11 91 RX2 yX2_clear wsX2_clear) := goodIn_app (goodIn_of _ (by decide +kernel)) ggX11_startAnew_X2_clear
set_option maxRecDepth 20000 in
theorem ggX11_startAnew_X0_clear : GoodIn wsX11_startAnew wsX0_clear := goodIn_r _ [111, 112, 113, 114, 83, 115, 116, 117, 118, 110, 119, 120, 121, 122, 123, 31, 32, 27, 33, 29, 34, 35, 185, 186, 187, 188, 189, 190, 191, 192, 193, 194, 195, 196, 151, 152, 153, 154] (by decide +kernel) (by decide +kernel)
set_option maxRecDepth 20000 in
theorem gX11_startAnew_X0_clear : GoodIn wsX11_startAnew (wsV RX11 96 RX0 yX0_clear wsX0_clear) := goodIn_app (goodIn_of _ (by decide +kernel)) ggX11_startAnew_X0_clear
theorem dX11_startAnew_0 : decode cX11_startAnew 0 = .ok (.aload_n 0, 1) := by decide +kernel
theorem dX11_startAnew_1 : decode cX11_startAnew 1 = .ok (.getfield 21, 3) := by decide +kernel
theorem dX11_startAnew_4 : decode cX11_startAnew 4 = .ok (.aload_n 0, 1) := by decide +kernel
theorem dX11_startAnew_5 : decode cX11_startAnew 5 = .ok (.getfield 30, 3) := by decide +kernel
theorem dX11_startAnew_8 : decode cX11_startAnew 8 = .ok (.getfield 82, 3) := by decide +kernel
theorem dX11_startAnew_11 : decode cX11_startAnew 11 = .ok (.invokevirtual 83, 3) := by decide +kernel
theorem dX11_startAnew_14 : decode cX11_startAnew 14 = .ok (.aload_n 0, 1) := by decide +kernel
theorem dX11_startAnew_15 : decode cX11_startAnew 15 = .ok (.getfield 37, 3) := by decide +kernel
theorem dX11_startAnew_18 : decode cX11_startAnew 18 = .ok (.invokevirtual 87, 3) := by decide +kernel
theorem dX11_startAnew_21 : decode cX11_startAnew 21 = .ok (.aload_n 0, 1) := by decide +kernel
theorem dX11_startAnew_22 : decode cX11_startAnew 22 = .ok (.getfield 46, 3) := by decide +kernel
theorem dX11_startAnew_25 : decode cX11_startAnew 25 = .ok (.invokevirtual 90, 3) := by decide +kernel
theorem dX11_startAnew_28 : decode cX11_startAnew 28 = .ok (.aload_n 0, 1) := by decide +kernel
theorem dX11_startAnew_29 : decode cX11_startAnew 29 = .ok (.getfield 55, 3) := by decide +kernel
theorem dX11_startAnew_32 : decode cX11_startAnew 32 = .ok (.invokevirtual 91, 3) := by decide +kernel
theorem dX11_startAnew_35 : decode cX11_startAnew 35 = .ok (.aload_n 0, 1) := by decide +kernel
theorem dX11_startAnew_36 : decode cX11_startAnew 36 = .ok (.getfield 62, 3) := by decide +kernel
theorem dX11_startAnew_39 : decode cX11_startAnew 39 = .ok (.iconst 0, 1) := by decide +kernel
theorem dX11_startAnew_40 : decode cX11_startAnew 40 = .ok (.putfield 92, 3) := by decide +kernel
theorem dX11_startAnew_43 : decode cX11_startAnew 43 = .ok (.aload_n 0, 1) := by decide +kernel
theorem dX11_startAnew_44 : decode cX11_startAnew 44 = .ok (.getfield 71, 3) := by decide +kernel
theorem dX11_startAnew_47 : decode cX11_startAnew 47 = .ok (.invokevirtual 96, 3) := by decide +kernel
theorem dX11_startAnew_50 : decode cX11_startAnew 50 = .ok (.return_, 1) := by decide +kernel
set_option maxRecDepth 20000 in
theorem ggX11_appendInput_X5_put : GoodIn wsX11_appendInput wsX5_put := goodIn_ca (goodIn_r _ [7, 8, 9, 18, 19] (by decide +kernel) (by decide +kernel)) (goodIn_sub (fun _ h => List.mem_cons_of_mem _ (List.mem_append_right _ h)) (by decide +kernel))
set_option maxRecDepth 20000 in
theorem gX11_appendInput_X5_put : GoodIn wsX11_appendInput (wsV RX11 100 RX5 yX5_put wsX5_put) := goodIn_app (goodIn_of _ (by decide +kernel)) ggX11_appendInput_X5_put
theorem dX11_appendInput_0 : decode cX11_appendInput 0 = .ok (.aload_n 0, 1) := by decide +kernel
theorem dX11_appendInput_1 : decode cX11_appendInput 1 = .ok (.getfield 14, 3) := by decide +kernel
theorem dX11_appendInput_4 : decode cX11_appendInput 4 = .ok (.getfield 97, 3) := by decide +kernel
theorem dX11_appendInput_7 : decode cX11_appendInput 7 = .ok (.bipush 20, 2) := by decide +kernel
theorem dX11_appendInput_9 : decode cX11_appendInput 9 = .ok (.iadd, 1) := by decide +kernel
theorem dX11_appendInput_10 : decode cX11_appendInput 10 = .ok (.sipush 700, 3) := by decide +kernel
theorem dX11_appendInput_13 : decode cX11_appendInput 13 = .ok (.if_icmp .le 5, 3) := by decide +kernel
theorem dX11_appendInput_16 : decode cX11_appendInput 16 = .ok (.iconst (-1), 1) := by decide +kernel
theorem dX11_appendInput_17 : decode cX11_appendInput 17 = .ok (.ireturn, 1) := by decide +kernel
theorem dX11_appendInput_18 : decode cX11_appendInput 18 = .ok (.aload_n 0, 1) := by decide +kernel
theorem dX11_appendInput_19 : decode cX11_appendInput 19 = .ok (.getfield 14, 3) := by decide +kernel
theorem dX11_appendInput_22 : decode cX11_appendInput 22 = .ok (.iload_n 1, 1) := by decide +kernel
theorem dX11_appendInput_23 : decode cX11_appendInput 23 = .ok (.i2l, 1) := by decide +kernel
theorem dX11_appendInput_24 : decode cX11_appendInput 24 = .ok (.iconst 4, 1) := by decide +kernel
theorem dX11_appendInput_25 : decode cX11_appendInput 25 = .ok (.invokevirtual 100, 3) := by decide +kernel
theorem dX11_appendInput_28 : decode cX11_appendInput 28 = .ok (.aload_n 0, 1) := by decide +kernel
theorem dX11_appendInput_29 : decode cX11_appendInput 29 = .ok (.getfield 14, 3) := by decide +kernel
theorem dX11_appendInput_32 : decode cX11_appendInput 32 = .ok (.iload_n 2, 1) := by decide +kernel
theorem dX11_appendInput_33 : decode cX11_appendInput 33 = .ok (.i2l, 1) := by decide +kernel
theorem dX11_appendInput_34 : decode cX11_appendInput 34 = .ok (.iconst 4, 1) := by decide +kernel
theorem dX11_appendInput_35 : decode cX11_appendInput 35 = .ok (.invokevirtual 100, 3) := by decide +kernel
theorem dX11_appendInput_38 : decode cX11_appendInput 38 = .ok (.aload_n 0, 1) := by decide +kernel
theorem dX11_appendInput_39 : decode cX11_appendInput 39 = .ok (.getfield 14, 3) := by decide +kernel
theorem dX11_appendInput_42 : decode cX11_appendInput 42 = .ok (.iload_n 3, 1) := by decide +kernel
theorem dX11_appendInput_43 : decode cX11_appendInput 43 = .ok (.i2l, 1) := by decide +kernel
theorem dX11_appendInput_44 : decode cX11_appendInput 44 = .ok (.iconst 4, 1) := by decide +kernel
theorem dX11_appendInput_45 : decode cX11_appendInput 45 = .ok (.invokevirtual 100, 3) := by decide +kernel
theorem dX11_appendInput_48 : decode cX11_appendInput 48 = .ok (.aload_n 0, 1) := by decide +kernel
theorem dX11_appendInput_49 : decode cX11_appendInput 49 = .ok (.getfield 14, 3) := by decide +kernel
theorem dX11_appendInput_52 : decode cX11_appendInput 52 = .ok (.iload 4, 2) := by decide +kernel
theorem dX11_appendInput_54 : decode cX11_appendInput 54 = .ok (.i2l, 1) := by decide +kernel
theorem dX11_appendInput_55 : decode cX11_appendInput 55 = .ok (.iconst 4, 1) := by decide +kernel
theorem dX11_appendInput_56 : decode cX11_appendInput 56 = .ok (.invokevirtual 100, 3) := by decide +kernel
theorem dX11_appendInput_59 : decode cX11_appendInput 59 = .ok (.aload_n 0, 1) := by decide +kernel
theorem dX11_appendInput_60 : decode cX11_appendInput 60 = .ok (.getfield 14, 3) := by decide +kernel
theorem dX11_appendInput_63 : decode cX11_appendInput 63 = .ok (.iload 5, 2) := by decide +kernel
theorem dX11_appendInput_65 : decode cX11_appendInput 65 = .ok (.i2l, 1) := by decide +kernel
theorem dX11_appendInput_66 : decode cX11_appendInput 66 = .ok (.iconst 4, 1) := by decide +kernel
theorem dX11_appendInput_67 : decode cX11_appendInput 67 = .ok (.invokevirtual 100, 3) := by decide +kernel
theorem dX11_appendInput_70 : decode cX11_appendInput 70 = .ok (.aload_n 0, 1) := by decide +kernel
theorem dX11_appendInput_71 : decode cX11_appendInput 71 = .ok (.getfield 14, 3) := by decide +kernel
theorem dX11_appendInput_74 : decode cX11_appendInput 74 = .ok (.getfield 97, 3) := by decide +kernel
theorem dX11_appendInput_77 : decode cX11_appendInput 77 = .ok (.ireturn, 1) := by decide +kernel
theorem dX11_truncateInput_0 : decode cX11_truncateInput 0 = .ok (.iload_n 1, 1) := by decide +kernel
theorem dX11_truncateInput_1 : decode cX11_truncateInput 1 = .ok (.ifCond .lt 14, 3) := by decide +kernel
theorem dX11_truncateInput_4 : decode cX11_truncateInput 4 = .ok (.iload_n 1, 1) := by decide +kernel
theorem dX11_truncateInput_5 : decode cX11_truncateInput 5 = .ok (.aload_n 0, 1) := by decide +kernel
theorem dX11_truncateInput_6 : decode cX11_truncateInput 6 = .ok (.getfield 14, 3) := by decide +kernel
theorem dX11_truncateInput_9 : decode cX11_truncateInput 9 = .ok (.getfield 97, 3) := by decide +kernel
theorem dX11_truncateInput_12 : decode cX11_truncateInput 12 = .ok (.if_icmp .le 5, 3) := by decide +kernel
theorem dX11_truncateInput_15 : decode cX11_truncateInput 15 = .ok (.iconst (-1), 1) := by decide +kernel
theorem dX11_truncateInput_16 : decode cX11_truncateInput 16 = .ok (.ireturn, 1) := by decide +kernel
theorem dX11_truncateInput_17 : decode cX11_truncateInput 17 = .ok (.aload_n 0, 1) := by decide +kernel
theorem dX11_truncateInput_18 : decode cX11_truncateInput 18 = .ok (.getfield 14, 3) := by decide +kernel
theorem dX11_truncateInput_21 : decode cX11_truncateInput 21 = .ok (.iload_n 1, 1) := by decide +kernel
theorem dX11_truncateInput_22 : decode cX11_truncateInput 22 = .ok (.putfield 97, 3) := by decide +kernel
theorem dX11_truncateInput_25 : decode cX11_truncateInput 25 = .ok (.iload_n 1, 1) := by decide +kernel
theorem dX11_truncateInput_26 : decode cX11_truncateInput 26 = .ok (.ireturn, 1) := by decide +kernel
theorem dX11_errorCode_0 : decode cX11_errorCode 0 = .ok (.aload_n 0, 1) := by decide +kernel
theorem dX11_errorCode_1 : decode cX11_errorCode 1 = .ok (.getfield 30, 3) := by decide +kernel
theorem dX11_errorCode_4 : decode cX11_errorCode 4 = .ok (.getfield 104, 3) := by decide +kernel
theorem dX11_errorCode_7 : decode cX11_errorCode 7 = .ok (.ireturn, 1) := by decide +kernel
theorem dX11_errorPosition_0 : decode cX11_errorPosition 0 = .ok (.aload_n 0, 1) := by decide +kernel
theorem dX11_errorPosition_1 : decode cX11_errorPosition 1 = .ok (.getfield 30, 3) := by decide +kernel
theorem dX11_errorPosition_4 : decode cX11_errorPosition 4 = .ok (.getfield 107, 3) := by decide +kernel
theorem dX11_errorPosition_7 : decode cX11_errorPosition 7 = .ok (.ireturn, 1) := by decide +kernel
theorem dX11_now_0 : decode cX11_now 0 = .ok (.aload_n 0, 1) := by decide +kernel
theorem dX11_now_1 : decode cX11_now 1 = .ok (.getfield 55, 3) := by decide +kernel
theorem dX11_now_4 : decode cX11_now 4 = .ok (.getfield 110, 3) := by decide +kernel
theorem dX11_now_7 : decode cX11_now 7 = .ok (.ireturn, 1) := by decide +kernel
set_option maxRecDepth 20000 in
theorem ggX11_flush_X2_exportAllAndSend : GoodIn wsX11_flush wsX2_exportAllAndSend := goodIn_ca (goodIn_ca (goodIn_r _ [6, 7, 8, 9, 10, 11, 12, 13, 5, 14, 15, 16, 17, 18, 19, 20, 21, 22, 23, 24, 25, 26, 27, 28, 29, 30, 31, 32, 33, 34, 35, 36, 37, 38, 39, 40, 41, 42, 43, 44, 45, 46, 47, 48, 49, 50, 51, 52, 53, 54, 55, 56, 57, 58, 59, 60, 61, 62, 63, 64, 65, 66, 67, 68, 69, 70, 71, 72, 73, 74, 75, 76, 77, 78, 79, 80, 81, 82, 83, 84, 85, 86, 87, 88, 89, 90, 91, 92, 93, 94, 95, 96, 97, 98, 99, 100, 101, 102, 103, 104, 105, 106, 107, 108, 109, 110, 111, 112, 113, 114, 115, 116, 117, 118, 119, 120, 121, 122, 123, 124, 125, 126, 127, 128, 129, 130, 131, 132, 133, 134, 135, 136, 137, 138, 139, 140, 141, 142, 143, 144, 145, 146, 147, 148, 149, 150, 151, 152, 153, 154, 155, 156, 157, 158, 159, 160, 161, 162, 163, 164, 165, 166, 167, 168, 169, 170, 171, 172, 181, 182, 183, 184, 185, 186, 187, 188, 189, 190, 191, 192, 193, 194, 195, 196, 197, 198, 199, 200, 201, 202, 203, 204, 205, 206, 207, 208, 209, 210, 211, 212, 213, 214, 215, 216, 217, 218, 219, 220, 221, 222, 223, 224, 225] (by decide +kernel) (by decide +kernel)) (goodIn_sub (fun _ h => List.mem_cons_of_mem _ (List.mem_append_left _ (List.mem_append_right _ h))) (by decide +kernel))) (goodIn_sub (fun _ h => List.mem_cons_of_mem _ (List.mem_append_right _ h)) (by decide +kernel))
set_option maxRecDepth 20000 in
theorem gX11_flush_X2_exportAllAndSend : GoodIn wsX11_flush (wsV RX11 143 RX2 yX2_exportAllAndSend wsX2_exportAllAndSend) := goodIn_app (goodIn_of _ (by decide +kernel)) ggX11_flush_X2_exportAllAndSend
theorem dX11_flush_0 : decode cX11_flush 0 = .ok (.aload_n 0, 1) := by decide +kernel
theorem dX11_flush_1 : decode cX11_flush 1 = .ok (.getfield 55, 3) := by decide +kernel
theorem dX11_flush_4 : decode cX11_flush 4 = .ok (.invokevirtual 143, 3) := by decide +kernel
theorem dX11_flush_7 : decode cX11_flush 7 = .ok (.ireturn, 1) := by decide +kernel
theorem dX11_cacheSize_0 : decode cX11_cacheSize 0 = .ok (.aload_n 0, 1) := by decide +kernel
theorem dX11_cacheSize_1 : decode cX11_cacheSize 1 = .ok (.getfield 55, 3) := by decide +kernel
theorem dX11_cacheSize_4 : decode cX11_cacheSize 4 = .ok (.getfield 146, 3) := by decide +kernel
theorem dX11_cacheSize_7 : decode cX11_cacheSize 7 = .ok (.getfield 150, 3) := by decide +kernel
theorem dX11_cacheSize_10 : decode cX11_cacheSize 10 = .ok (.ireturn, 1) := by decide +kernel
theorem dX11_rate_0 : decode cX11_rate 0 = .ok (.aload_n 0, 1) := by decide +kernel
theorem dX11_rate_1 : decode cX11_rate 1 = .ok (.getfield 55, 3) := by decide +kernel
theorem dX11_rate_4 : decode cX11_rate 4 = .ok (.getfield 164, 3) := by decide +kernel
theorem dX11_rate_7 : decode cX11_rate 7 = .ok (.ireturn, 1) := by decide +kernel
set_option maxRecDepth 20000 in
theorem ggX11_rateBits_X2_bitsOfInverse : GoodIn wsX11_rateBits wsX2_bitsOfInverse := goodIn_ca (goodIn_r _ [6, 7] (by decide +kernel) (by decide +kernel)) (goodIn_sub (fun _ h => List.mem_cons_of_mem _ (List.mem_append_right _ h)) (by decide +kernel))
set_option maxRecDepth 20000 in
theorem gX11_rateBits_X2_bitsOfInverse : GoodIn wsX11_rateBits (va_wsS RX11 167 yX2_bitsOfInverse wsX2_bitsOfInverse) := goodIn_app (goodIn_of _ (by decide +kernel)) ggX11_rateBits_X2_bitsOfInverse
theorem dX11_rateBits_0 : decode cX11_rateBits 0 = .ok (.aload_n 0, 1) := by decide +kernel
theorem dX11_rateBits_1 : decode cX11_rateBits 1 = .ok (.getfield 55, 3) := by decide +kernel
theorem dX11_rateBits_4 : decode cX11_rateBits 4 = .ok (.getfield 164, 3) := by decide +kernel
theorem dX11_rateBits_7 : decode cX11_rateBits 7 = .ok (.invokestatic 167, 3) := by decide +kernel
theorem dX11_rateBits_10 : decode cX11_rateBits 10 = .ok (.ireturn, 1) := by decide +kernel
set_option maxRecDepth 20000 in
theorem ggX11_setRate_X2_exportAllAndSend : GoodIn wsX11_setRate wsX2_exportAllAndSend := goodIn_ca (goodIn_ca (goodIn_r _ [7, 8, 9, 10, 11, 12, 13, 14, 6, 15, 16, 17, 18, 19, 20, 21, 22, 23, 24, 25, 26, 27, 28, 29, 30, 31, 32, 33, 34, 35, 36, 37, 38, 39, 40, 41, 42, 43, 44, 45, 46, 47, 48, 49, 50, 51, 52, 53, 54, 55, 56, 57, 58, 59, 60, 61, 62, 63, 64, 65, 66, 67, 68, 69, 70, 71, 72, 73, 74, 75, 76, 77, 78, 79, 80, 81, 82, 83, 84, 85, 86, 87, 88, 89, 90, 91, 92, 93, 94, 95, 96, 97, 98, 99, 100, 101, 102, 103, 104, 105, 106, 107, 108, 109, 110, 111, 112, 113, 114, 115, 116, 117, 118, 119, 120, 121, 122, 123, 124, 125, 126, 127, 128, 129, 130, 131, 132, 133, 134, 135, 136, 137, 138, 139, 140, 141, 142, 143, 144, 145, 146, 147, 148, 149, 150, 151, 152, 153, 154, 155, 156, 157, 158, 159, 160, 161, 162, 163, 164, 165, 166, 167, 168, 169, 170, 171, 172, 173, 182, 183, 184, 185, 186, 187, 188, 189, 190, 191, 192, 193, 194, 195, 196, 197, 198, 199, 200, 201, 202, 203, 204, 205, 206, 207, 208, 209, 210, 211, 212, 213, 214, 215, 216, 217, 218, 219, 220, 221, 222, 223, 224, 225, 226] (by decide +kernel) (by decide +kernel)) (goodIn_sub (fun _ h => List.mem_cons_of_mem _ (List.mem_append_left _ (List.mem_append_right _ h))) (by decide +kernel))) (goodIn_sub (fun _ h => List.mem_cons_of_mem _ (List.mem_append_right _ h)) (by decide +kernel))
set_option maxRecDepth 20000 in
theorem gX11_setRate_X2_exportAllAndSend : GoodIn wsX11_setRate (wsV RX11 143 RX2 yX2_exportAllAndSend wsX2_exportAllAndSend) := goodIn_app (goodIn_of _ (by decide +kernel)) ggX11_setRate_X2_exportAllAndSend
theorem dX11_setRate_0 : decode cX11_setRate 0 = .ok (.iload_n 1, 1) := by decide +kernel
theorem dX11_setRate_1 : decode cX11_setRate 1 = .ok (.iconst 1, 1) := by decide +kernel
theorem dX11_setRate_2 : decode cX11_setRate 2 = .ok (.if_icmp .lt 10, 3) := by decide +kernel
theorem dX11_setRate_5 : decode cX11_setRate 5 = .ok (.iload_n 1, 1) := by decide +kernel
theorem dX11_setRate_6 : decode cX11_setRate 6 = .ok (.sipush 1024, 3) := by decide +kernel
theorem dX11_setRate_9 : decode cX11_setRate 9 = .ok (.if_icmp .le 5, 3) := by decide +kernel
theorem dX11_setRate_12 : decode cX11_setRate 12 = .ok (.iconst (-1), 1) := by decide +kernel
theorem dX11_setRate_13 : decode cX11_setRate 13 = .ok (.ireturn, 1) := by decide +kernel
theorem dX11_setRate_14 : decode cX11_setRate 14 = .ok (.iload_n 1, 1) := by decide +kernel
theorem dX11_setRate_15 : decode cX11_setRate 15 = .ok (.aload_n 0, 1) := by decide +kernel
theorem dX11_setRate_16 : decode cX11_setRate 16 = .ok (.getfield 55, 3) := by decide +kernel
theorem dX11_setRate_19 : decode cX11_setRate 19 = .ok (.getfield 164, 3) := by decide +kernel
theorem dX11_setRate_22 : decode cX11_setRate 22 = .ok (.if_icmp .ne 5, 3) := by decide +kernel
theorem dX11_setRate_25 : decode cX11_setRate 25 = .ok (.iconst 0, 1) := by decide +kernel
theorem dX11_setRate_26 : decode cX11_setRate 26 = .ok (.ireturn, 1) := by decide +kernel
theorem dX11_setRate_27 : decode cX11_setRate 27 = .ok (.aload_n 0, 1) := by decide +kernel
theorem dX11_setRate_28 : decode cX11_setRate 28 = .ok (.getfield 55, 3) := by decide +kernel
theorem dX11_setRate_31 : decode cX11_setRate 31 = .ok (.invokevirtual 143, 3) := by decide +kernel
theorem dX11_setRate_34 : decode cX11_setRate 34 = .ok (.istore_n 2, 1) := by decide +kernel
theorem dX11_setRate_35 : decode cX11_setRate 35 = .ok (.aload_n 0, 1) := by decide +kernel
theorem dX11_setRate_36 : decode cX11_setRate 36 = .ok (.getfield 55, 3) := by decide +kernel
theorem dX11_setRate_39 : decode cX11_setRate 39 = .ok (.iload_n 1, 1) := by decide +kernel
theorem dX11_setRate_40 : decode cX11_setRate 40 = .ok (.putfield 164, 3) := by decide +kernel
theorem dX11_setRate_43 : decode cX11_setRate 43 = .ok (.iload_n 2, 1) := by decide +kernel
theorem dX11_setRate_44 : decode cX11_setRate 44 = .ok (.ireturn, 1) := by decide +kernel
theorem dX11_setAdaptive_0 : decode cX11_setAdaptive 0 = .ok (.aload_n 0, 1) := by decide +kernel
theorem dX11_setAdaptive_1 : decode cX11_setAdaptive 1 = .ok (.getfield 55, 3) := by decide +kernel
theorem dX11_setAdaptive_4 : decode cX11_setAdaptive 4 = .ok (.getfield 171, 3) := by decide +kernel
theorem dX11_setAdaptive_7 : decode cX11_setAdaptive 7 = .ok (.istore_n 2, 1) := by decide +kernel
theorem dX11_setAdaptive_8 : decode cX11_setAdaptive 8 = .ok (.aload_n 0, 1) := by decide +kernel
theorem dX11_setAdaptive_9 : decode cX11_setAdaptive 9 = .ok (.getfield 55, 3) := by decide +kernel
theorem dX11_setAdaptive_12 : decode cX11_setAdaptive 12 = .ok (.iload_n 1, 1) := by decide +kernel
theorem dX11_setAdaptive_13 : decode cX11_setAdaptive 13 = .ok (.putfield 171, 3) := by decide +kernel
theorem dX11_setAdaptive_16 : decode cX11_setAdaptive 16 = .ok (.iload_n 2, 1) := by decide +kernel
theorem dX11_setAdaptive_17 : decode cX11_setAdaptive 17 = .ok (.ireturn, 1) := by decide +kernel
theorem dX11_setSeed_0 : decode cX11_setSeed 0 = .ok (.iload_n 1, 1) := by decide +kernel
theorem dX11_setSeed_1 : decode cX11_setSeed 1 = .ok (.ifCond .ge 5, 3) := by decide +kernel
theorem dX11_setSeed_4 : decode cX11_setSeed 4 = .ok (.iconst 0, 1) := by decide +kernel
theorem dX11_setSeed_5 : decode cX11_setSeed 5 = .ok (.ireturn, 1) := by decide +kernel
theorem dX11_setSeed_6 : decode cX11_setSeed 6 = .ok (.aload_n 0, 1) := by decide +kernel
theorem dX11_setSeed_7 : decode cX11_setSeed 7 = .ok (.getfield 55, 3) := by decide +kernel
theorem dX11_setSeed_10 : decode cX11_setSeed 10 = .ok (.iload_n 1, 1) := by decide +kernel
theorem dX11_setSeed_11 : decode cX11_setSeed 11 = .ok (.putfield 175, 3) := by decide +kernel
theorem dX11_setSeed_14 : decode cX11_setSeed 14 = .ok (.iconst 1, 1) := by decide +kernel
theorem dX11_setSeed_15 : decode cX11_setSeed 15 = .ok (.ireturn, 1) := by decide +kernel
set_option maxRecDepth 20000 in
theorem ggX11_restartExporter_X8_restart : GoodIn wsX11_restartExporter wsX8_restart := goodIn_r _ [9, 10, 11, 12, 13, 8, 14, 15, 16, 17, 18, 19, 20, 21, 22, 23, 24, 25, 26, 50, 51, 52, 53, 54, 55, 56, 57, 58, 59, 60, 61] (by decide +kernel) (by decide +kernel)
set_option maxRecDepth 20000 in
theorem gX11_restartExporter_X8_restart : GoodIn wsX11_restartExporter (wsV RX11 178 RX8 yX8_restart wsX8_restart) := goodIn_app (goodIn_of _ (by decide +kernel)) ggX11_restartExporter_X8_restart
theorem dX11_restartExporter_0 : decode cX11_restartExporter 0 = .ok (.aload_n 0, 1) := by decide +kernel
theorem dX11_restartExporter_1 : decode cX11_restartExporter 1 = .ok (.getfield 55, 3) := by decide +kernel
theorem dX11_restartExporter_4 : decode cX11_restartExporter 4 = .ok (.getfield 146, 3) := by decide +kernel
theorem dX11_restartExporter_7 : decode cX11_restartExporter 7 = .ok (.getfield 150, 3) := by decide +kernel
theorem dX11_restartExporter_10 : decode cX11_restartExporter 10 = .ok (.istore_n 1, 1) := by decide +kernel
theorem dX11_restartExporter_11 : decode cX11_restartExporter 11 = .ok (.aload_n 0, 1) := by decide +kernel
theorem dX11_restartExporter_12 : decode cX11_restartExporter 12 = .ok (.getfield 55, 3) := by decide +kernel
theorem dX11_restartExporter_15 : decode cX11_restartExporter 15 = .ok (.getfield 146, 3) := by decide +kernel
theorem dX11_restartExporter_18 : decode cX11_restartExporter 18 = .ok (.iconst 0, 1) := by decide +kernel
theorem dX11_restartExporter_19 : decode cX11_restartExporter 19 = .ok (.putfield 150, 3) := by decide +kernel
theorem dX11_restartExporter_22 : decode cX11_restartExporter 22 = .ok (.aload_n 0, 1) := by decide +kernel
theorem dX11_restartExporter_23 : decode cX11_restartExporter 23 = .ok (.getfield 46, 3) := by decide +kernel
theorem dX11_restartExporter_26 : decode cX11_restartExporter 26 = .ok (.invokevirtual 178, 3) := by decide +kernel
theorem dX11_restartExporter_29 : decode cX11_restartExporter 29 = .ok (.iload_n 1, 1) := by decide +kernel
theorem dX11_restartExporter_30 : decode cX11_restartExporter 30 = .ok (.ireturn, 1) := by decide +kernel
theorem dX11_observed_0 : decode cX11_observed 0 = .ok (.aload_n 0, 1) := by decide +kernel
theorem dX11_observed_1 : decode cX11_observed 1 = .ok (.getfield 55, 3) := by decide +kernel
theorem dX11_observed_4 : decode cX11_observed 4 = .ok (.getfield 181, 3) := by decide +kernel
theorem dX11_observed_7 : decode cX11_observed 7 = .ok (.lreturn, 1) := by decide +kernel
theorem dX11_sampled_0 : decode cX11_sampled 0 = .ok (.aload_n 0, 1) := by decide +kernel
theorem dX11_sampled_1 : decode cX11_sampled 1 = .ok (.getfield 55, 3) := by decide +kernel
theorem dX11_sampled_4 : decode cX11_sampled 4 = .ok (.getfield 185, 3) := by decide +kernel
theorem dX11_sampled_7 : decode cX11_sampled 7 = .ok (.lreturn, 1) := by decide +kernel
theorem dX11_unsent_0 : decode cX11_unsent 0 = .ok (.aload_n 0, 1) := by decide +kernel
theorem dX11_unsent_1 : decode cX11_unsent 1 = .ok (.getfield 55, 3) := by decide +kernel
theorem dX11_unsent_4 : decode cX11_unsent 4 = .ok (.getfield 188, 3) := by decide +kernel
theorem dX11_unsent_7 : decode cX11_unsent 7 = .ok (.lreturn, 1) := by decide +kernel
theorem dX11_templateCount_0 : decode cX11_templateCount 0 = .ok (.aload_n 0, 1) := by decide +kernel
theorem dX11_templateCount_1 : decode cX11_templateCount 1 = .ok (.getfield 21, 3) := by decide +kernel
theorem dX11_templateCount_4 : decode cX11_templateCount 4 = .ok (.getfield 191, 3) := by decide +kernel
theorem dX11_templateCount_7 : decode cX11_templateCount 7 = .ok (.ireturn, 1) := by decide +kernel
set_option maxRecDepth 20000 in
theorem ggX11_requestTemplates_X8_forgetTemplates : GoodIn wsX11_requestTemplates wsX8_forgetTemplates := goodIn_r _ [6, 7, 8, 9, 10, 11, 20, 21, 22, 23, 24, 25, 26, 27, 28, 29] (by decide +kernel) (by decide +kernel)
set_option maxRecDepth 20000 in
theorem gX11_requestTemplates_X8_forgetTemplates : GoodIn wsX11_requestTemplates (wsV RX11 224 RX8 yX8_forgetTemplates wsX8_forgetTemplates) := goodIn_app (goodIn_of _ (by decide +kernel)) ggX11_requestTemplates_X8_forgetTemplates
theorem dX11_requestTemplates_0 : decode cX11_requestTemplates 0 = .ok (.aload_n 0, 1) := by decide +kernel
theorem dX11_requestTemplates_1 : decode cX11_requestTemplates 1 = .ok (.getfield 46, 3) := by decide +kernel
theorem dX11_requestTemplates_4 : decode cX11_requestTemplates 4 = .ok (.invokevirtual 224, 3) := by decide +kernel
theorem dX11_requestTemplates_7 : decode cX11_requestTemplates 7 = .ok (.return_, 1) := by decide +kernel
theorem dX11_sent_0 : decode cX11_sent 0 = .ok (.aload_n 0, 1) := by decide +kernel
theorem dX11_sent_1 : decode cX11_sent 1 = .ok (.getfield 46, 3) := by decide +kernel
theorem dX11_sent_4 : decode cX11_sent 4 = .ok (.getfield 232, 3) := by decide +kernel
theorem dX11_sent_7 : decode cX11_sent 7 = .ok (.lreturn, 1) := by decide +kernel
theorem dX11_dropped_0 : decode cX11_dropped 0 = .ok (.aload_n 0, 1) := by decide +kernel
theorem dX11_dropped_1 : decode cX11_dropped 1 = .ok (.getfield 37, 3) := by decide +kernel
theorem dX11_dropped_4 : decode cX11_dropped 4 = .ok (.getfield 235, 3) := by decide +kernel
theorem dX11_dropped_7 : decode cX11_dropped 7 = .ok (.ireturn, 1) := by decide +kernel
theorem dX11_sequence_0 : decode cX11_sequence 0 = .ok (.aload_n 0, 1) := by decide +kernel
theorem dX11_sequence_1 : decode cX11_sequence 1 = .ok (.getfield 46, 3) := by decide +kernel
theorem dX11_sequence_4 : decode cX11_sequence 4 = .ok (.getfield 238, 3) := by decide +kernel
theorem dX11_sequence_7 : decode cX11_sequence 7 = .ok (.i2l, 1) := by decide +kernel
theorem dX11_sequence_8 : decode cX11_sequence 8 = .ok (.ldc2_w 241, 3) := by decide +kernel
theorem dX11_sequence_11 : decode cX11_sequence 11 = .ok (.land, 1) := by decide +kernel
theorem dX11_sequence_12 : decode cX11_sequence 12 = .ok (.lreturn, 1) := by decide +kernel
theorem dX11_queueLength_0 : decode cX11_queueLength 0 = .ok (.aload_n 0, 1) := by decide +kernel
theorem dX11_queueLength_1 : decode cX11_queueLength 1 = .ok (.getfield 37, 3) := by decide +kernel
theorem dX11_queueLength_4 : decode cX11_queueLength 4 = .ok (.getfield 231, 3) := by decide +kernel
theorem dX11_queueLength_7 : decode cX11_queueLength 7 = .ok (.ireturn, 1) := by decide +kernel
set_option maxRecDepth 20000 in
theorem ggX11_deliverAll_X7_takeOut : GoodIn wsX11_deliverAll wsX7_takeOut := goodIn_r _ [10, 11, 12, 13, 14, 15, 9, 16, 180, 181, 182] (by decide +kernel) (by decide +kernel)
set_option maxRecDepth 20000 in
theorem gX11_deliverAll_X7_takeOut : GoodIn wsX11_deliverAll (wsV RX11 253 RX7 yX7_takeOut wsX7_takeOut) := goodIn_app (goodIn_of _ (by decide +kernel)) ggX11_deliverAll_X7_takeOut
set_option maxRecDepth 20000 in
theorem ggX11_deliverAll_X0_take : GoodIn wsX11_deliverAll wsX0_take := goodIn_ca (goodIn_r _ [21, 22, 23, 24, 25, 26, 27, 28, 29, 30, 31, 32, 33, 34, 35, 36, 37, 38, 39, 40, 41, 20, 42, 43, 44, 45, 46, 47, 48, 49, 50, 51, 52, 53, 54, 55, 56, 57, 58, 59, 60, 61, 62, 63, 64, 65, 66, 67, 68, 69, 70, 71, 72, 73, 74, 75, 76, 77, 78, 79, 80, 81, 82, 83, 84, 85, 86, 87, 88, 89, 90, 91, 92, 93, 94, 95, 96, 97, 98, 99, 100, 101, 102, 103, 104, 105, 106, 107, 108, 109, 110, 111, 112, 113, 114, 115, 116, 117, 118, 119, 120, 121, 122, 123, 124, 125, 126, 127, 128, 129, 130, 131, 132, 133, 134, 135, 136, 137, 138, 139, 140, 141, 142, 143, 144, 145, 146, 147, 148, 149, 150, 151, 152, 153, 154, 155, 156, 157, 158, 159, 160, 161, 162, 163, 164, 165, 166, 167, 168, 169, 170, 171, 196, 197, 198, 199, 200, 201, 202, 203, 204, 205, 206, 207, 208, 209, 210, 211, 212, 213, 214, 215, 216, 217, 218, 219, 220, 221, 222, 223, 224] (by decide +kernel) (by decide +kernel)) (goodIn_sub (fun _ h => List.mem_cons_of_mem _ (List.mem_append_right _ h)) (by decide +kernel))
set_option maxRecDepth 20000 in
theorem gX11_deliverAll_X0_take : GoodIn wsX11_deliverAll (wsV RX11 256 RX0 yX0_take wsX0_take) := goodIn_app (goodIn_of _ (by decide +kernel)) ggX11_deliverAll_X0_take
theorem dX11_deliverAll_0 : decode cX11_deliverAll 0 = .ok (.iconst 0, 1) := by decide +kernel
theorem dX11_deliverAll_1 : decode cX11_deliverAll 1 = .ok (.istore_n 1, 1) := by decide +kernel
theorem dX11_deliverAll_2 : decode cX11_deliverAll 2 = .ok (.aload_n 0, 1) := by decide +kernel
theorem dX11_deliverAll_3 : decode cX11_deliverAll 3 = .ok (.getfield 37, 3) := by decide +kernel
theorem dX11_deliverAll_6 : decode cX11_deliverAll 6 = .ok (.getfield 231, 3) := by decide +kernel
theorem dX11_deliverAll_9 : decode cX11_deliverAll 9 = .ok (.istore_n 2, 1) := by decide +kernel
theorem dX11_deliverAll_10 : decode cX11_deliverAll 10 = .ok (.iload_n 2, 1) := by decide +kernel
theorem dX11_deliverAll_11 : decode cX11_deliverAll 11 = .ok (.ifCond .le 34, 3) := by decide +kernel
theorem dX11_deliverAll_14 : decode cX11_deliverAll 14 = .ok (.iload_n 1, 1) := by decide +kernel
theorem dX11_deliverAll_15 : decode cX11_deliverAll 15 = .ok (.aload_n 0, 1) := by decide +kernel
theorem dX11_deliverAll_16 : decode cX11_deliverAll 16 = .ok (.getfield 71, 3) := by decide +kernel
theorem dX11_deliverAll_19 : decode cX11_deliverAll 19 = .ok (.aload_n 0, 1) := by decide +kernel
theorem dX11_deliverAll_20 : decode cX11_deliverAll 20 = .ok (.getfield 37, 3) := by decide +kernel
theorem dX11_deliverAll_23 : decode cX11_deliverAll 23 = .ok (.iconst 0, 1) := by decide +kernel
theorem dX11_deliverAll_24 : decode cX11_deliverAll 24 = .ok (.invokevirtual 253, 3) := by decide +kernel
theorem dX11_deliverAll_27 : decode cX11_deliverAll 27 = .ok (.aload_n 0, 1) := by decide +kernel
theorem dX11_deliverAll_28 : decode cX11_deliverAll 28 = .ok (.getfield 55, 3) := by decide +kernel
theorem dX11_deliverAll_31 : decode cX11_deliverAll 31 = .ok (.getfield 110, 3) := by decide +kernel
theorem dX11_deliverAll_34 : decode cX11_deliverAll 34 = .ok (.invokevirtual 256, 3) := by decide +kernel
theorem dX11_deliverAll_37 : decode cX11_deliverAll 37 = .ok (.iadd, 1) := by decide +kernel
theorem dX11_deliverAll_38 : decode cX11_deliverAll 38 = .ok (.istore_n 1, 1) := by decide +kernel
theorem dX11_deliverAll_39 : decode cX11_deliverAll 39 = .ok (.iinc 2 (-1), 3) := by decide +kernel
theorem dX11_deliverAll_42 : decode cX11_deliverAll 42 = .ok (.goto (-32), 3) := by decide +kernel
theorem dX11_deliverAll_45 : decode cX11_deliverAll 45 = .ok (.iload_n 1, 1) := by decide +kernel
theorem dX11_deliverAll_46 : decode cX11_deliverAll 46 = .ok (.ireturn, 1) := by decide +kernel
set_option maxRecDepth 20000 in
theorem ggX11_receive_X0_take : GoodIn wsX11_receive wsX0_take := goodIn_ca (goodIn_r _ [10, 11, 12, 13, 14, 15, 16, 17, 18, 19, 20, 21, 22, 23, 24, 25, 26, 27, 28, 29, 30, 9, 31, 32, 33, 34, 35, 36, 37, 38, 39, 40, 41, 42, 43, 44, 45, 46, 47, 48, 49, 50, 51, 52, 53, 54, 55, 56, 57, 58, 59, 60, 61, 62, 63, 64, 65, 66, 67, 68, 69, 70, 71, 72, 73, 74, 75, 76, 77, 78, 79, 80, 81, 82, 83, 84, 85, 86, 87, 88, 89, 90, 91, 92, 93, 94, 95, 96, 97, 98, 99, 100, 101, 102, 103, 104, 105, 106, 107, 108, 109, 110, 111, 112, 113, 114, 115, 116, 117, 118, 119, 120, 121, 122, 123, 124, 125, 126, 127, 128, 129, 130, 131, 132, 133, 134, 135, 136, 137, 138, 139, 140, 141, 142, 143, 144, 145, 146, 147, 148, 149, 150, 151, 152, 153, 154, 155, 156, 157, 158, 159, 160, 184, 185, 186, 187, 188, 189, 190, 191, 192, 193, 194, 195, 182, 183, 196, 197, 198, 199, 200, 201, 202, 203, 204, 205, 206, 207, 208, 209, 210] (by decide +kernel) (by decide +kernel)) (goodIn_sub (fun _ h => List.mem_cons_of_mem _ (List.mem_append_right _ h)) (by decide +kernel))
set_option maxRecDepth 20000 in
theorem gX11_receive_X0_take : GoodIn wsX11_receive (wsV RX11 256 RX0 yX0_take wsX0_take) := goodIn_app (goodIn_of _ (by decide +kernel)) ggX11_receive_X0_take
theorem dX11_receive_0 : decode cX11_receive 0 = .ok (.aload_n 0, 1) := by decide +kernel
theorem dX11_receive_1 : decode cX11_receive 1 = .ok (.getfield 71, 3) := by decide +kernel
theorem dX11_receive_4 : decode cX11_receive 4 = .ok (.aload_n 0, 1) := by decide +kernel
theorem dX11_receive_5 : decode cX11_receive 5 = .ok (.getfield 14, 3) := by decide +kernel
theorem dX11_receive_8 : decode cX11_receive 8 = .ok (.aload_n 0, 1) := by decide +kernel
theorem dX11_receive_9 : decode cX11_receive 9 = .ok (.getfield 55, 3) := by decide +kernel
theorem dX11_receive_12 : decode cX11_receive 12 = .ok (.getfield 110, 3) := by decide +kernel
theorem dX11_receive_15 : decode cX11_receive 15 = .ok (.invokevirtual 256, 3) := by decide +kernel
theorem dX11_receive_18 : decode cX11_receive 18 = .ok (.istore_n 1, 1) := by decide +kernel
theorem dX11_receive_19 : decode cX11_receive 19 = .ok (.aload_n 0, 1) := by decide +kernel
theorem dX11_receive_20 : decode cX11_receive 20 = .ok (.getfield 14, 3) := by decide +kernel
theorem dX11_receive_23 : decode cX11_receive 23 = .ok (.iconst 0, 1) := by decide +kernel
theorem dX11_receive_24 : decode cX11_receive 24 = .ok (.putfield 97, 3) := by decide +kernel
theorem dX11_receive_27 : decode cX11_receive 27 = .ok (.iload_n 1, 1) := by decide +kernel
theorem dX11_receive_28 : decode cX11_receive 28 = .ok (.ireturn, 1) := by decide +kernel
set_option maxRecDepth 20000 in
theorem ggX11_knownTemplates_X0_usableTemplates : GoodIn wsX11_knownTemplates wsX0_usableTemplates := goodIn_ca (goodIn_r _ [8, 9, 10, 11, 7, 12, 13, 14, 15, 16, 17, 18, 19, 20, 21, 22, 23, 24, 25, 26, 48, 49, 50, 51, 52, 53, 54, 55, 56, 57, 58, 59, 60, 61, 62, 63, 64, 65, 66, 67, 68, 69] (by decide +kernel) (by decide +kernel)) (goodIn_sub (fun _ h => List.mem_cons_of_mem _ (List.mem_append_right _ h)) (by decide +kernel))
set_option maxRecDepth 20000 in
theorem gX11_knownTemplates_X0_usableTemplates : GoodIn wsX11_knownTemplates (wsV RX11 275 RX0 yX0_usableTemplates wsX0_usableTemplates) := goodIn_app (goodIn_of _ (by decide +kernel)) ggX11_knownTemplates_X0_usableTemplates
theorem dX11_knownTemplates_0 : decode cX11_knownTemplates 0 = .ok (.aload_n 0, 1) := by decide +kernel
theorem dX11_knownTemplates_1 : decode cX11_knownTemplates 1 = .ok (.getfield 71, 3) := by decide +kernel
theorem dX11_knownTemplates_4 : decode cX11_knownTemplates 4 = .ok (.aload_n 0, 1) := by decide +kernel
theorem dX11_knownTemplates_5 : decode cX11_knownTemplates 5 = .ok (.getfield 55, 3) := by decide +kernel
theorem dX11_knownTemplates_8 : decode cX11_knownTemplates 8 = .ok (.getfield 110, 3) := by decide +kernel
theorem dX11_knownTemplates_11 : decode cX11_knownTemplates 11 = .ok (.invokevirtual 275, 3) := by decide +kernel
theorem dX11_knownTemplates_14 : decode cX11_knownTemplates 14 = .ok (.ireturn, 1) := by decide +kernel
set_option maxRecDepth 20000 in
theorem ggX11_expected_X0_hasStarted : GoodIn wsX11_expected wsX0_hasStarted := goodIn_r _ [9, 10, 19, 20, 21, 22, 23, 24, 25, 26, 27, 28, 29, 30] (by decide +kernel) (by decide +kernel)
set_option maxRecDepth 20000 in
theorem gX11_expected_X0_hasStarted : GoodIn wsX11_expected (wsV RX11 282 RX0 yX0_hasStarted wsX0_hasStarted) := goodIn_app (goodIn_of _ (by decide +kernel)) ggX11_expected_X0_hasStarted
theorem dX11_expected_0 : decode cX11_expected 0 = .ok (.aload_n 0, 1) := by decide +kernel
theorem dX11_expected_1 : decode cX11_expected 1 = .ok (.getfield 71, 3) := by decide +kernel
theorem dX11_expected_4 : decode cX11_expected 4 = .ok (.invokevirtual 282, 3) := by decide +kernel
theorem dX11_expected_7 : decode cX11_expected 7 = .ok (.ifCond .eq 18, 3) := by decide +kernel
theorem dX11_expected_10 : decode cX11_expected 10 = .ok (.aload_n 0, 1) := by decide +kernel
theorem dX11_expected_11 : decode cX11_expected 11 = .ok (.getfield 71, 3) := by decide +kernel
theorem dX11_expected_14 : decode cX11_expected 14 = .ok (.getfield 286, 3) := by decide +kernel
theorem dX11_expected_17 : decode cX11_expected 17 = .ok (.i2l, 1) := by decide +kernel
theorem dX11_expected_18 : decode cX11_expected 18 = .ok (.ldc2_w 241, 3) := by decide +kernel
theorem dX11_expected_21 : decode cX11_expected 21 = .ok (.land, 1) := by decide +kernel
theorem dX11_expected_22 : decode cX11_expected 22 = .ok (.goto 6, 3) := by decide +kernel
theorem dX11_expected_25 : decode cX11_expected 25 = .ok (.ldc2_w 113, 3) := by decide +kernel
theorem dX11_expected_28 : decode cX11_expected 28 = .ok (.lreturn, 1) := by decide +kernel
set_option maxRecDepth 20000 in
theorem ggX11_restartCollector_X0_restart : GoodIn wsX11_restartCollector wsX0_restart := goodIn_r _ [6, 7, 8, 9, 10, 11, 12, 13, 14, 15, 16, 17, 26, 27, 28, 29, 30, 31, 32, 33, 34, 35, 36, 37, 38, 39, 40, 41] (by decide +kernel) (by decide +kernel)
set_option maxRecDepth 20000 in
theorem gX11_restartCollector_X0_restart : GoodIn wsX11_restartCollector (wsV RX11 296 RX0 yX0_restart wsX0_restart) := goodIn_app (goodIn_of _ (by decide +kernel)) ggX11_restartCollector_X0_restart
theorem dX11_restartCollector_0 : decode cX11_restartCollector 0 = .ok (.aload_n 0, 1) := by decide +kernel
theorem dX11_restartCollector_1 : decode cX11_restartCollector 1 = .ok (.getfield 71, 3) := by decide +kernel
theorem dX11_restartCollector_4 : decode cX11_restartCollector 4 = .ok (.invokevirtual 296, 3) := by decide +kernel
theorem dX11_restartCollector_7 : decode cX11_restartCollector 7 = .ok (.ireturn, 1) := by decide +kernel
theorem dX11_keyCount_0 : decode cX11_keyCount 0 = .ok (.aload_n 0, 1) := by decide +kernel
theorem dX11_keyCount_1 : decode cX11_keyCount 1 = .ok (.getfield 62, 3) := by decide +kernel
theorem dX11_keyCount_4 : decode cX11_keyCount 4 = .ok (.getfield 92, 3) := by decide +kernel
theorem dX11_keyCount_7 : decode cX11_keyCount 7 = .ok (.ireturn, 1) := by decide +kernel
set_option maxRecDepth 20000 in
theorem ggX11_find_X3_keyOf : GoodIn wsX11_find wsX3_keyOf := goodIn_r _ [5, 6, 7] (by decide +kernel) (by decide +kernel)
set_option maxRecDepth 20000 in
theorem gX11_find_X3_keyOf : GoodIn wsX11_find (va_wsS RX11 119 yX3_keyOf wsX3_keyOf) := goodIn_app (goodIn_of _ (by decide +kernel)) ggX11_find_X3_keyOf
set_option maxRecDepth 20000 in
theorem ggX11_find_X9_indexOf : GoodIn wsX11_find wsX9_indexOf := goodIn_ca (goodIn_r _ [12, 13, 14, 23, 24, 25, 26, 27] (by decide +kernel) (by decide +kernel)) (goodIn_sub (fun _ h => List.mem_cons_of_mem _ (List.mem_append_right _ h)) (by decide +kernel))
set_option maxRecDepth 20000 in
theorem gX11_find_X9_indexOf : GoodIn wsX11_find (wsV RX11 308 RX9 yX9_indexOf wsX9_indexOf) := goodIn_app (goodIn_of _ (by decide +kernel)) ggX11_find_X9_indexOf
theorem dX11_find_0 : decode cX11_find 0 = .ok (.aload_n 0, 1) := by decide +kernel
theorem dX11_find_1 : decode cX11_find 1 = .ok (.getfield 62, 3) := by decide +kernel
theorem dX11_find_4 : decode cX11_find 4 = .ok (.iload_n 1, 1) := by decide +kernel
theorem dX11_find_5 : decode cX11_find 5 = .ok (.iload_n 2, 1) := by decide +kernel
theorem dX11_find_6 : decode cX11_find 6 = .ok (.iload_n 3, 1) := by decide +kernel
theorem dX11_find_7 : decode cX11_find 7 = .ok (.iload 4, 2) := by decide +kernel
theorem dX11_find_9 : decode cX11_find 9 = .ok (.invokestatic 119, 3) := by decide +kernel
theorem dX11_find_12 : decode cX11_find 12 = .ok (.invokevirtual 308, 3) := by decide +kernel
theorem dX11_find_15 : decode cX11_find 15 = .ok (.ireturn, 1) := by decide +kernel
theorem dX11_lengthOf_0 : decode cX11_lengthOf 0 = .ok (.iload_n 0, 1) := by decide +kernel
theorem dX11_lengthOf_1 : decode cX11_lengthOf 1 = .ok (.ifCond .lt 17, 3) := by decide +kernel
theorem dX11_lengthOf_4 : decode cX11_lengthOf 4 = .ok (.iload_n 0, 1) := by decide +kernel
theorem dX11_lengthOf_5 : decode cX11_lengthOf 5 = .ok (.bipush 9, 2) := by decide +kernel
theorem dX11_lengthOf_7 : decode cX11_lengthOf 7 = .ok (.if_icmp .ge 11, 3) := by decide +kernel
theorem dX11_lengthOf_10 : decode cX11_lengthOf 10 = .ok (.getstatic 343, 3) := by decide +kernel
theorem dX11_lengthOf_13 : decode cX11_lengthOf 13 = .ok (.iload_n 0, 1) := by decide +kernel
theorem dX11_lengthOf_14 : decode cX11_lengthOf 14 = .ok (.iaload, 1) := by decide +kernel
theorem dX11_lengthOf_15 : decode cX11_lengthOf 15 = .ok (.goto 4, 3) := by decide +kernel
theorem dX11_lengthOf_18 : decode cX11_lengthOf 18 = .ok (.iconst 0, 1) := by decide +kernel
theorem dX11_lengthOf_19 : decode cX11_lengthOf 19 = .ok (.ireturn, 1) := by decide +kernel

set_option maxRecDepth 20000 in
theorem ggX0_clear_J7_fill_d0a16 : GoodIn wsX0_clear wsJ7_fill_d0a16 := goodIn_r _ [5] rfl (by decide +kernel)
set_option maxRecDepth 20000 in
theorem gX0_clear_J7_fill_d0a16 : GoodIn wsX0_clear (va_wsS RX0 57 yJ7_fill_d0a16 wsJ7_fill_d0a16) := goodIn_app (goodIn_of _ (by decide +kernel)) ggX0_clear_J7_fill_d0a16
set_option maxRecDepth 20000 in
theorem ggX0_clear_X0_restart : GoodIn wsX0_clear wsX0_restart := goodIn_r _ [10, 11, 12, 13, 14, 15, 16, 17, 18, 19, 20, 21, 22, 23, 24, 25, 26, 27, 28, 29, 30, 31, 32, 33, 34, 35, 36, 37] rfl (by decide +kernel)
set_option maxRecDepth 20000 in
theorem gX0_clear_X0_restart : GoodIn wsX0_clear (wsV RX0 63 RX0 yX0_restart wsX0_restart) := goodIn_app (goodIn_of _ (by decide +kernel)) ggX0_clear_X0_restart
theorem dX0_clear_0 : decode cX0_clear 0 = .ok (.aload_n 0, 1) := by decide +kernel
theorem dX0_clear_1 : decode cX0_clear 1 = .ok (.getfield 32, 3) := by decide +kernel
theorem dX0_clear_4 : decode cX0_clear 4 = .ok (.lconst 0, 1) := by decide +kernel
theorem dX0_clear_5 : decode cX0_clear 5 = .ok (.invokestatic 57, 3) := by decide +kernel
theorem dX0_clear_8 : decode cX0_clear 8 = .ok (.aload_n 0, 1) := by decide +kernel
theorem dX0_clear_9 : decode cX0_clear 9 = .ok (.invokevirtual 63, 3) := by decide +kernel
theorem dX0_clear_12 : decode cX0_clear 12 = .ok (.pop, 1) := by decide +kernel
theorem dX0_clear_13 : decode cX0_clear 13 = .ok (.return_, 1) := by decide +kernel
set_option maxRecDepth 20000 in
theorem ggX0_restart_X10_clear : GoodIn wsX0_restart wsX10_clear := goodIn_r _ [8, 9, 10, 11, 24, 25, 26, 27] rfl (by decide +kernel)
set_option maxRecDepth 20000 in
theorem gX0_restart_X10_clear : GoodIn wsX0_restart (wsV RX0 70 RX10 yX10_clear wsX10_clear) := goodIn_app (goodIn_of _ (by decide +kernel)) ggX0_restart_X10_clear
theorem dX0_restart_0 : decode cX0_restart 0 = .ok (.iconst 0, 1) := by decide +kernel
theorem dX0_restart_1 : decode cX0_restart 1 = .ok (.istore_n 1, 1) := by decide +kernel
theorem dX0_restart_2 : decode cX0_restart 2 = .ok (.iconst 0, 1) := by decide +kernel
theorem dX0_restart_3 : decode cX0_restart 3 = .ok (.istore_n 2, 1) := by decide +kernel
theorem dX0_restart_4 : decode cX0_restart 4 = .ok (.iload_n 2, 1) := by decide +kernel
theorem dX0_restart_5 : decode cX0_restart 5 = .ok (.iconst 4, 1) := by decide +kernel
theorem dX0_restart_6 : decode cX0_restart 6 = .ok (.if_icmp .ge 33, 3) := by decide +kernel
theorem dX0_restart_9 : decode cX0_restart 9 = .ok (.aload_n 0, 1) := by decide +kernel
theorem dX0_restart_10 : decode cX0_restart 10 = .ok (.getfield 11, 3) := by decide +kernel
theorem dX0_restart_13 : decode cX0_restart 13 = .ok (.iload_n 2, 1) := by decide +kernel
theorem dX0_restart_14 : decode cX0_restart 14 = .ok (.aaload, 1) := by decide +kernel
theorem dX0_restart_15 : decode cX0_restart 15 = .ok (.getfield 67, 3) := by decide +kernel
theorem dX0_restart_18 : decode cX0_restart 18 = .ok (.ifCond .le 6, 3) := by decide +kernel
theorem dX0_restart_21 : decode cX0_restart 21 = .ok (.iinc 1 1, 3) := by decide +kernel
theorem dX0_restart_24 : decode cX0_restart 24 = .ok (.aload_n 0, 1) := by decide +kernel
theorem dX0_restart_25 : decode cX0_restart 25 = .ok (.getfield 11, 3) := by decide +kernel
theorem dX0_restart_28 : decode cX0_restart 28 = .ok (.iload_n 2, 1) := by decide +kernel
theorem dX0_restart_29 : decode cX0_restart 29 = .ok (.aaload, 1) := by decide +kernel
theorem dX0_restart_30 : decode cX0_restart 30 = .ok (.invokevirtual 70, 3) := by decide +kernel
theorem dX0_restart_33 : decode cX0_restart 33 = .ok (.iinc 2 1, 3) := by decide +kernel
theorem dX0_restart_36 : decode cX0_restart 36 = .ok (.goto (-32), 3) := by decide +kernel
theorem dX0_restart_39 : decode cX0_restart 39 = .ok (.aload_n 0, 1) := by decide +kernel
theorem dX0_restart_40 : decode cX0_restart 40 = .ok (.iconst 0, 1) := by decide +kernel
theorem dX0_restart_41 : decode cX0_restart 41 = .ok (.putfield 39, 3) := by decide +kernel
theorem dX0_restart_44 : decode cX0_restart 44 = .ok (.iload_n 1, 1) := by decide +kernel
theorem dX0_restart_45 : decode cX0_restart 45 = .ok (.ireturn, 1) := by decide +kernel
theorem dX0_hasStarted_0 : decode cX0_hasStarted 0 = .ok (.aload_n 0, 1) := by decide +kernel
theorem dX0_hasStarted_1 : decode cX0_hasStarted 1 = .ok (.getfield 39, 3) := by decide +kernel
theorem dX0_hasStarted_4 : decode cX0_hasStarted 4 = .ok (.ifCond .le 7, 3) := by decide +kernel
theorem dX0_hasStarted_7 : decode cX0_hasStarted 7 = .ok (.iconst 1, 1) := by decide +kernel
theorem dX0_hasStarted_8 : decode cX0_hasStarted 8 = .ok (.goto 4, 3) := by decide +kernel
theorem dX0_hasStarted_11 : decode cX0_hasStarted 11 = .ok (.iconst 0, 1) := by decide +kernel
theorem dX0_hasStarted_12 : decode cX0_hasStarted 12 = .ok (.ireturn, 1) := by decide +kernel
theorem dX0_ageOf_0 : decode cX0_ageOf 0 = .ok (.iload_n 1, 1) := by decide +kernel
theorem dX0_ageOf_1 : decode cX0_ageOf 1 = .ok (.ifCond .lt 20, 3) := by decide +kernel
theorem dX0_ageOf_4 : decode cX0_ageOf 4 = .ok (.iload_n 1, 1) := by decide +kernel
theorem dX0_ageOf_5 : decode cX0_ageOf 5 = .ok (.iconst 4, 1) := by decide +kernel
theorem dX0_ageOf_6 : decode cX0_ageOf 6 = .ok (.if_icmp .ge 15, 3) := by decide +kernel
theorem dX0_ageOf_9 : decode cX0_ageOf 9 = .ok (.aload_n 0, 1) := by decide +kernel
theorem dX0_ageOf_10 : decode cX0_ageOf 10 = .ok (.getfield 11, 3) := by decide +kernel
theorem dX0_ageOf_13 : decode cX0_ageOf 13 = .ok (.iload_n 1, 1) := by decide +kernel
theorem dX0_ageOf_14 : decode cX0_ageOf 14 = .ok (.aaload, 1) := by decide +kernel
theorem dX0_ageOf_15 : decode cX0_ageOf 15 = .ok (.getfield 67, 3) := by decide +kernel
theorem dX0_ageOf_18 : decode cX0_ageOf 18 = .ok (.ifCond .ne 5, 3) := by decide +kernel
theorem dX0_ageOf_21 : decode cX0_ageOf 21 = .ok (.iconst (-1), 1) := by decide +kernel
theorem dX0_ageOf_22 : decode cX0_ageOf 22 = .ok (.ireturn, 1) := by decide +kernel
theorem dX0_ageOf_23 : decode cX0_ageOf 23 = .ok (.iload_n 2, 1) := by decide +kernel
theorem dX0_ageOf_24 : decode cX0_ageOf 24 = .ok (.aload_n 0, 1) := by decide +kernel
theorem dX0_ageOf_25 : decode cX0_ageOf 25 = .ok (.getfield 17, 3) := by decide +kernel
theorem dX0_ageOf_28 : decode cX0_ageOf 28 = .ok (.iload_n 1, 1) := by decide +kernel
theorem dX0_ageOf_29 : decode cX0_ageOf 29 = .ok (.iaload, 1) := by decide +kernel
theorem dX0_ageOf_30 : decode cX0_ageOf 30 = .ok (.isub, 1) := by decide +kernel
theorem dX0_ageOf_31 : decode cX0_ageOf 31 = .ok (.ireturn, 1) := by decide +kernel
set_option maxRecDepth 20000 in
theorem ggX0_isUsable_X0_ageOf : GoodIn wsX0_isUsable wsX0_ageOf := goodIn_ca (goodIn_r _ [6, 7, 8, 9, 16, 17, 18, 19, 20, 21, 22, 23, 24, 25, 26, 27, 28, 29, 30, 31] rfl (by decide +kernel)) (goodIn_sub (fun _ h => List.mem_cons_of_mem _ (List.mem_append_right _ h)) (by decide +kernel))
set_option maxRecDepth 20000 in
theorem gX0_isUsable_X0_ageOf : GoodIn wsX0_isUsable (wsV RX0 73 RX0 yX0_ageOf wsX0_ageOf) := goodIn_app (goodIn_of _ (by decide +kernel)) ggX0_isUsable_X0_ageOf
set_option maxRecDepth 20000 in
theorem ggX0_isUsable_X1_get : GoodIn wsX0_isUsable wsX1_get := goodIn_ca (goodIn_r _ [14, 15, 32, 33, 34, 35, 36, 37] rfl (by decide +kernel)) (goodIn_sub (fun _ h => List.mem_cons_of_mem _ (List.mem_append_right _ h)) (by decide +kernel))
set_option maxRecDepth 20000 in
theorem gX0_isUsable_X1_get : GoodIn wsX0_isUsable (wsV RX0 77 RX1 yX1_get wsX1_get) := goodIn_app (goodIn_of _ (by decide +kernel)) ggX0_isUsable_X1_get
theorem dX0_isUsable_0 : decode cX0_isUsable 0 = .ok (.aload_n 0, 1) := by decide +kernel
theorem dX0_isUsable_1 : decode cX0_isUsable 1 = .ok (.iload_n 1, 1) := by decide +kernel
theorem dX0_isUsable_2 : decode cX0_isUsable 2 = .ok (.iload_n 2, 1) := by decide +kernel
theorem dX0_isUsable_3 : decode cX0_isUsable 3 = .ok (.invokevirtual 73, 3) := by decide +kernel
theorem dX0_isUsable_6 : decode cX0_isUsable 6 = .ok (.istore_n 3, 1) := by decide +kernel
theorem dX0_isUsable_7 : decode cX0_isUsable 7 = .ok (.iload_n 3, 1) := by decide +kernel
theorem dX0_isUsable_8 : decode cX0_isUsable 8 = .ok (.iconst (-1), 1) := by decide +kernel
theorem dX0_isUsable_9 : decode cX0_isUsable 9 = .ok (.if_icmp .eq 20, 3) := by decide +kernel
theorem dX0_isUsable_12 : decode cX0_isUsable 12 = .ok (.iload_n 3, 1) := by decide +kernel
theorem dX0_isUsable_13 : decode cX0_isUsable 13 = .ok (.aload_n 0, 1) := by decide +kernel
theorem dX0_isUsable_14 : decode cX0_isUsable 14 = .ok (.getfield 49, 3) := by decide +kernel
theorem dX0_isUsable_17 : decode cX0_isUsable 17 = .ok (.bipush 6, 2) := by decide +kernel
theorem dX0_isUsable_19 : decode cX0_isUsable 19 = .ok (.invokevirtual 77, 3) := by decide +kernel
theorem dX0_isUsable_22 : decode cX0_isUsable 22 = .ok (.if_icmp .gt 7, 3) := by decide +kernel
theorem dX0_isUsable_25 : decode cX0_isUsable 25 = .ok (.iconst 1, 1) := by decide +kernel
theorem dX0_isUsable_26 : decode cX0_isUsable 26 = .ok (.goto 4, 3) := by decide +kernel
theorem dX0_isUsable_29 : decode cX0_isUsable 29 = .ok (.iconst 0, 1) := by decide +kernel
theorem dX0_isUsable_30 : decode cX0_isUsable 30 = .ok (.ireturn, 1) := by decide +kernel
set_option maxRecDepth 20000 in
theorem ggX0_usableTemplates_X0_isUsable : GoodIn wsX0_usableTemplates wsX0_isUsable := goodIn_ca (goodIn_r _ [5, 6, 7, 8, 9, 4, 10, 11, 12, 13, 14, 15, 16, 17, 18, 19, 20, 21, 22, 23, 24, 25, 26, 27, 28, 29, 30, 31, 32, 33, 34, 35, 36, 37, 38, 39, 40, 41] rfl (by decide +kernel)) (goodIn_sub (fun _ h => List.mem_cons_of_mem _ (List.mem_append_right _ h)) (by decide +kernel))
set_option maxRecDepth 20000 in
theorem gX0_usableTemplates_X0_isUsable : GoodIn wsX0_usableTemplates (wsV RX0 83 RX0 yX0_isUsable wsX0_isUsable) := goodIn_app (goodIn_of _ (by decide +kernel)) ggX0_usableTemplates_X0_isUsable
theorem dX0_usableTemplates_0 : decode cX0_usableTemplates 0 = .ok (.iconst 0, 1) := by decide +kernel
theorem dX0_usableTemplates_1 : decode cX0_usableTemplates 1 = .ok (.istore_n 2, 1) := by decide +kernel
theorem dX0_usableTemplates_2 : decode cX0_usableTemplates 2 = .ok (.iconst 0, 1) := by decide +kernel
theorem dX0_usableTemplates_3 : decode cX0_usableTemplates 3 = .ok (.istore_n 3, 1) := by decide +kernel
theorem dX0_usableTemplates_4 : decode cX0_usableTemplates 4 = .ok (.iload_n 3, 1) := by decide +kernel
theorem dX0_usableTemplates_5 : decode cX0_usableTemplates 5 = .ok (.iconst 4, 1) := by decide +kernel
theorem dX0_usableTemplates_6 : decode cX0_usableTemplates 6 = .ok (.if_icmp .ge 24, 3) := by decide +kernel
theorem dX0_usableTemplates_9 : decode cX0_usableTemplates 9 = .ok (.aload_n 0, 1) := by decide +kernel
theorem dX0_usableTemplates_10 : decode cX0_usableTemplates 10 = .ok (.iload_n 3, 1) := by decide +kernel
theorem dX0_usableTemplates_11 : decode cX0_usableTemplates 11 = .ok (.iload_n 1, 1) := by decide +kernel
theorem dX0_usableTemplates_12 : decode cX0_usableTemplates 12 = .ok (.invokevirtual 83, 3) := by decide +kernel
theorem dX0_usableTemplates_15 : decode cX0_usableTemplates 15 = .ok (.ifCond .eq 9, 3) := by decide +kernel
theorem dX0_usableTemplates_18 : decode cX0_usableTemplates 18 = .ok (.iload_n 2, 1) := by decide +kernel
theorem dX0_usableTemplates_19 : decode cX0_usableTemplates 19 = .ok (.iconst 1, 1) := by decide +kernel
theorem dX0_usableTemplates_20 : decode cX0_usableTemplates 20 = .ok (.iload_n 3, 1) := by decide +kernel
theorem dX0_usableTemplates_21 : decode cX0_usableTemplates 21 = .ok (.ishl, 1) := by decide +kernel
theorem dX0_usableTemplates_22 : decode cX0_usableTemplates 22 = .ok (.ior, 1) := by decide +kernel
theorem dX0_usableTemplates_23 : decode cX0_usableTemplates 23 = .ok (.istore_n 2, 1) := by decide +kernel
theorem dX0_usableTemplates_24 : decode cX0_usableTemplates 24 = .ok (.iinc 3 1, 3) := by decide +kernel
theorem dX0_usableTemplates_27 : decode cX0_usableTemplates 27 = .ok (.goto (-23), 3) := by decide +kernel
theorem dX0_usableTemplates_30 : decode cX0_usableTemplates 30 = .ok (.iload_n 2, 1) := by decide +kernel
theorem dX0_usableTemplates_31 : decode cX0_usableTemplates 31 = .ok (.ireturn, 1) := by decide +kernel
set_option maxRecDepth 20000 in
theorem ggX2_takePackets_X2_remember : GoodIn wsX2_takePackets wsX2_remember := goodIn_r _ [9, 10, 4, 11, 12, 13, 14, 15, 16, 17, 18, 19, 20, 21, 22, 23, 24, 25, 26, 27, 28, 29, 30, 31, 32, 33, 34, 35, 36, 37, 38, 39, 40, 41, 42, 43, 44, 45, 46, 47, 208, 209, 210, 211, 212, 213, 214, 215, 216, 217, 218, 219, 220, 221, 222, 223, 224, 225, 226, 227] rfl (by decide +kernel)
set_option maxRecDepth 20000 in
theorem gX2_takePackets_X2_remember : GoodIn wsX2_takePackets (wsV RX2 70 RX2 yX2_remember wsX2_remember) := goodIn_app (goodIn_of _ (by decide +kernel)) ggX2_takePackets_X2_remember
set_option maxRecDepth 20000 in
theorem ggX2_takePackets_X2_isSampled : GoodIn wsX2_takePackets wsX2_isSampled := goodIn_ca (goodIn_r _ [51, 52, 53, 54, 55, 208, 209, 210, 211, 212, 213, 214, 215, 216, 217, 218, 219, 220] rfl (by decide +kernel)) (goodIn_sub (fun _ h => List.mem_cons_of_mem _ (List.mem_append_left _ (List.mem_append_right _ h))) (by decide +kernel))
set_option maxRecDepth 20000 in
theorem gX2_takePackets_X2_isSampled : GoodIn wsX2_takePackets (wsV RX2 74 RX2 yX2_isSampled wsX2_isSampled) := goodIn_app (goodIn_of _ (by decide +kernel)) ggX2_takePackets_X2_isSampled
set_option maxRecDepth 20000 in
theorem ggX2_takePackets_X2_addToFlow : GoodIn wsX2_takePackets wsX2_addToFlow := goodIn_ca (goodIn_ca (goodIn_r _ [59, 60, 4, 11, 12, 61, 13, 14, 15, 16, 17, 18, 19, 20, 21, 22, 23, 24, 62, 63, 64, 65, 66, 67, 68, 69, 8, 70, 71, 72, 73, 74, 75, 3, 52, 76, 77, 78, 79, 33, 34, 35, 36, 80, 81, 40, 82, 83, 84, 85, 86, 87, 88, 89, 90, 91, 92, 93, 94, 95, 96, 97, 98, 99, 100, 101, 102, 103, 104, 105, 106, 107, 108, 109, 110, 111, 112, 113, 114, 115, 116, 117, 118, 119, 120, 121, 122, 43, 44, 45, 46, 42, 123, 124, 125, 126, 127, 128, 129, 130, 131, 132, 133, 134, 25, 26, 27, 28, 29, 30, 31, 32, 37, 38, 39, 41, 47, 208, 209, 210, 211, 212, 213, 214, 215, 216, 217, 218, 219, 220, 221, 222, 223, 224, 225, 226, 227, 228, 229, 230, 231, 232, 233, 234, 235, 236, 237, 238, 239, 240, 241, 242, 243, 244, 245, 246, 247, 248, 249] rfl (by decide +kernel)) (goodIn_sub (fun _ h => List.mem_cons_of_mem _ (List.mem_append_right _ h)) (by decide +kernel))) (goodIn_sub (fun _ h => List.mem_cons_of_mem _ (List.mem_append_left _ (List.mem_append_right _ h))) (by decide +kernel))
set_option maxRecDepth 20000 in
theorem gX2_takePackets_X2_addToFlow : GoodIn wsX2_takePackets (wsV RX2 78 RX2 yX2_addToFlow wsX2_addToFlow) := goodIn_app (goodIn_of _ (by decide +kernel)) ggX2_takePackets_X2_addToFlow
set_option maxRecDepth 20000 in
theorem ggX2_takePackets_X8_sendPending : GoodIn wsX2_takePackets wsX8_sendPending := goodIn_ca (goodIn_r _ [138, 105, 106, 107, 139, 140, 109, 141, 142, 143, 103, 144, 145, 146, 147, 148, 149, 150, 151, 152, 153, 154, 155, 156, 157, 158, 159, 128, 129, 130, 131, 132, 133, 134, 160, 161, 162, 163, 164, 165, 166, 167, 168, 169, 170, 171, 108, 111, 92, 93, 88, 94, 95, 172, 173, 174, 175, 176, 177, 178, 179, 180, 112, 113, 114, 115, 116, 117, 118, 124, 125, 126, 127, 181, 182, 183, 184, 185, 186, 187, 188, 189, 190, 191, 192, 193, 194, 195, 196, 197, 198, 199, 30, 31, 32, 200, 201, 202, 203, 204, 205, 206, 207, 238, 239, 240, 241, 242, 243, 244, 245, 246, 247, 228, 229, 230, 231, 248, 249, 250, 251, 252, 232, 233, 234, 235, 236, 237] rfl (by decide +kernel)) (goodIn_sub (fun _ h => List.mem_cons_of_mem _ (List.mem_append_right _ h)) (by decide +kernel))
set_option maxRecDepth 20000 in
theorem gX2_takePackets_X8_sendPending : GoodIn wsX2_takePackets (wsV RX2 82 RX8 yX8_sendPending wsX8_sendPending) := goodIn_app (goodIn_of _ (by decide +kernel)) ggX2_takePackets_X8_sendPending
theorem dX2_takePackets_0 : decode cX2_takePackets 0 = .ok (.aload_n 0, 1) := by decide +kernel
theorem dX2_takePackets_1 : decode cX2_takePackets 1 = .ok (.dup, 1) := by decide +kernel
theorem dX2_takePackets_2 : decode cX2_takePackets 2 = .ok (.getfield 43, 3) := by decide +kernel
theorem dX2_takePackets_5 : decode cX2_takePackets 5 = .ok (.iload 4, 2) := by decide +kernel
theorem dX2_takePackets_7 : decode cX2_takePackets 7 = .ok (.i2l, 1) := by decide +kernel
theorem dX2_takePackets_8 : decode cX2_takePackets 8 = .ok (.ladd, 1) := by decide +kernel
theorem dX2_takePackets_9 : decode cX2_takePackets 9 = .ok (.putfield 43, 3) := by decide +kernel
theorem dX2_takePackets_12 : decode cX2_takePackets 12 = .ok (.aload_n 0, 1) := by decide +kernel
theorem dX2_takePackets_13 : decode cX2_takePackets 13 = .ok (.lload_n 1, 1) := by decide +kernel
theorem dX2_takePackets_14 : decode cX2_takePackets 14 = .ok (.iload_n 3, 1) := by decide +kernel
theorem dX2_takePackets_15 : decode cX2_takePackets 15 = .ok (.iload 4, 2) := by decide +kernel
theorem dX2_takePackets_17 : decode cX2_takePackets 17 = .ok (.invokevirtual 70, 3) := by decide +kernel
theorem dX2_takePackets_20 : decode cX2_takePackets 20 = .ok (.iconst 0, 1) := by decide +kernel
theorem dX2_takePackets_21 : decode cX2_takePackets 21 = .ok (.istore 5, 2) := by decide +kernel
theorem dX2_takePackets_23 : decode cX2_takePackets 23 = .ok (.iconst 0, 1) := by decide +kernel
theorem dX2_takePackets_24 : decode cX2_takePackets 24 = .ok (.istore 6, 2) := by decide +kernel
theorem dX2_takePackets_26 : decode cX2_takePackets 26 = .ok (.iload 6, 2) := by decide +kernel
theorem dX2_takePackets_28 : decode cX2_takePackets 28 = .ok (.iload 4, 2) := by decide +kernel
theorem dX2_takePackets_30 : decode cX2_takePackets 30 = .ok (.if_icmp .ge 25, 3) := by decide +kernel
theorem dX2_takePackets_33 : decode cX2_takePackets 33 = .ok (.aload_n 0, 1) := by decide +kernel
theorem dX2_takePackets_34 : decode cX2_takePackets 34 = .ok (.invokevirtual 74, 3) := by decide +kernel
theorem dX2_takePackets_37 : decode cX2_takePackets 37 = .ok (.ifCond .eq 12, 3) := by decide +kernel
theorem dX2_takePackets_40 : decode cX2_takePackets 40 = .ok (.aload_n 0, 1) := by decide +kernel
theorem dX2_takePackets_41 : decode cX2_takePackets 41 = .ok (.lload_n 1, 1) := by decide +kernel
theorem dX2_takePackets_42 : decode cX2_takePackets 42 = .ok (.iload_n 3, 1) := by decide +kernel
theorem dX2_takePackets_43 : decode cX2_takePackets 43 = .ok (.invokevirtual 78, 3) := by decide +kernel
theorem dX2_takePackets_46 : decode cX2_takePackets 46 = .ok (.iinc 5 1, 3) := by decide +kernel
theorem dX2_takePackets_49 : decode cX2_takePackets 49 = .ok (.iinc 6 1, 3) := by decide +kernel
theorem dX2_takePackets_52 : decode cX2_takePackets 52 = .ok (.goto (-26), 3) := by decide +kernel
theorem dX2_takePackets_55 : decode cX2_takePackets 55 = .ok (.aload_n 0, 1) := by decide +kernel
theorem dX2_takePackets_56 : decode cX2_takePackets 56 = .ok (.dup, 1) := by decide +kernel
theorem dX2_takePackets_57 : decode cX2_takePackets 57 = .ok (.getfield 47, 3) := by decide +kernel
theorem dX2_takePackets_60 : decode cX2_takePackets 60 = .ok (.iload 5, 2) := by decide +kernel
theorem dX2_takePackets_62 : decode cX2_takePackets 62 = .ok (.i2l, 1) := by decide +kernel
theorem dX2_takePackets_63 : decode cX2_takePackets 63 = .ok (.ladd, 1) := by decide +kernel
theorem dX2_takePackets_64 : decode cX2_takePackets 64 = .ok (.putfield 47, 3) := by decide +kernel
theorem dX2_takePackets_67 : decode cX2_takePackets 67 = .ok (.aload_n 0, 1) := by decide +kernel
theorem dX2_takePackets_68 : decode cX2_takePackets 68 = .ok (.getfield 57, 3) := by decide +kernel
theorem dX2_takePackets_71 : decode cX2_takePackets 71 = .ok (.aload_n 0, 1) := by decide +kernel
theorem dX2_takePackets_72 : decode cX2_takePackets 72 = .ok (.getfield 23, 3) := by decide +kernel
theorem dX2_takePackets_75 : decode cX2_takePackets 75 = .ok (.invokevirtual 82, 3) := by decide +kernel
theorem dX2_takePackets_78 : decode cX2_takePackets 78 = .ok (.iload 5, 2) := by decide +kernel
theorem dX2_takePackets_80 : decode cX2_takePackets 80 = .ok (.ireturn, 1) := by decide +kernel
set_option maxRecDepth 20000 in
theorem ggX2_exportAll_X2_exportAt : GoodIn wsX2_exportAll wsX2_exportAt := goodIn_ca (goodIn_ca (goodIn_r _ [7, 1, 8, 9, 10, 11, 12, 13, 14, 15, 16, 17, 18, 19, 20, 21, 22, 23, 24, 25, 26, 27, 28, 29, 30, 31, 32, 33, 34, 35, 36, 37, 38, 39, 40, 41, 42, 43, 44, 6, 45, 46, 47, 48, 49, 50, 51, 52, 53, 54, 55, 56, 57, 58, 59, 60, 61, 62, 63, 64, 65, 66, 67, 68, 69, 70, 71, 72, 73, 74, 75, 76, 77, 78, 79, 80, 81, 82, 83, 84, 85, 86, 87, 88, 89, 90, 91, 92, 93, 94, 95, 96, 97, 98, 99, 102, 103, 104, 105, 106, 107, 108, 109, 110, 100, 101, 111, 112, 113, 114, 115, 116, 117, 118, 119, 120, 121, 122, 123, 124, 125, 126, 127, 128] rfl (by decide +kernel)) (goodIn_sub (fun _ h => List.mem_cons_of_mem _ (List.mem_append_left _ (List.mem_append_right _ h))) (by decide +kernel))) (goodIn_sub (fun _ h => List.mem_cons_of_mem _ (List.mem_append_right _ h)) (by decide +kernel))
set_option maxRecDepth 20000 in
theorem gX2_exportAll_X2_exportAt : GoodIn wsX2_exportAll (wsV RX2 120 RX2 yX2_exportAt wsX2_exportAt) := goodIn_app (goodIn_of _ (by decide +kernel)) ggX2_exportAll_X2_exportAt
theorem dX2_exportAll_0 : decode cX2_exportAll 0 = .ok (.aload_n 0, 1) := by decide +kernel
theorem dX2_exportAll_1 : decode cX2_exportAll 1 = .ok (.getfield 14, 3) := by decide +kernel
theorem dX2_exportAll_4 : decode cX2_exportAll 4 = .ok (.getfield 61, 3) := by decide +kernel
theorem dX2_exportAll_7 : decode cX2_exportAll 7 = .ok (.istore_n 1, 1) := by decide +kernel
theorem dX2_exportAll_8 : decode cX2_exportAll 8 = .ok (.iload_n 1, 1) := by decide +kernel
theorem dX2_exportAll_9 : decode cX2_exportAll 9 = .ok (.ifCond .le 14, 3) := by decide +kernel
theorem dX2_exportAll_12 : decode cX2_exportAll 12 = .ok (.aload_n 0, 1) := by decide +kernel
theorem dX2_exportAll_13 : decode cX2_exportAll 13 = .ok (.iconst 0, 1) := by decide +kernel
theorem dX2_exportAll_14 : decode cX2_exportAll 14 = .ok (.invokevirtual 120, 3) := by decide +kernel
theorem dX2_exportAll_17 : decode cX2_exportAll 17 = .ok (.iinc 1 (-1), 3) := by decide +kernel
theorem dX2_exportAll_20 : decode cX2_exportAll 20 = .ok (.goto (-12), 3) := by decide +kernel
theorem dX2_exportAll_23 : decode cX2_exportAll 23 = .ok (.return_, 1) := by decide +kernel
set_option maxRecDepth 20000 in
theorem ggX2_exportAllAndSend_X2_exportAll : GoodIn wsX2_exportAllAndSend wsX2_exportAll := goodIn_ca (goodIn_ca (goodIn_r _ [9, 1, 2, 10, 11, 12, 8, 13, 14, 15, 16, 17, 18, 3, 19, 20, 21, 22, 23, 24, 25, 26, 27, 28, 29, 30, 31, 32, 33, 34, 35, 36, 37, 38, 39, 40, 41, 42, 43, 44, 45, 46, 47, 48, 49, 50, 51, 52, 53, 54, 55, 56, 57, 58, 59, 60, 61, 62, 63, 64, 65, 66, 67, 68, 69, 70, 71, 72, 73, 74, 75, 76, 77, 78, 79, 80, 81, 82, 83, 84, 85, 86, 87, 88, 89, 90, 91, 168, 169, 170, 171, 172, 173, 174, 175, 176, 177, 178, 179, 180, 181, 182, 183, 184, 185, 186, 187, 188, 189, 190, 191, 192, 193, 194, 195, 196, 197, 198, 199, 200, 201, 202, 203, 204, 205, 206, 207, 208, 209] rfl (by decide +kernel)) (goodIn_sub (fun _ h => List.mem_cons_of_mem _ (List.mem_append_left _ (List.mem_append_right _ h))) (by decide +kernel))) (goodIn_sub (fun _ h => List.mem_cons_of_mem _ (List.mem_append_right _ h)) (by decide +kernel))
set_option maxRecDepth 20000 in
theorem gX2_exportAllAndSend_X2_exportAll : GoodIn wsX2_exportAllAndSend (wsV RX2 153 RX2 yX2_exportAll wsX2_exportAll) := goodIn_app (goodIn_of _ (by decide +kernel)) ggX2_exportAllAndSend_X2_exportAll
set_option maxRecDepth 20000 in
theorem ggX2_exportAllAndSend_X8_sendPending : GoodIn wsX2_exportAllAndSend wsX8_sendPending := goodIn_ca (goodIn_r _ [95, 57, 58, 59, 96, 97, 61, 98, 99, 100, 55, 101, 102, 103, 104, 105, 106, 107, 108, 109, 110, 111, 112, 113, 114, 115, 116, 85, 86, 87, 88, 89, 90, 91, 117, 118, 119, 120, 121, 122, 123, 124, 125, 126, 127, 128, 60, 63, 44, 45, 40, 46, 47, 129, 130, 131, 132, 133, 134, 135, 136, 137, 64, 65, 66, 67, 68, 69, 70, 81, 82, 83, 84, 138, 139, 140, 141, 142, 143, 144, 145, 146, 147, 148, 149, 150, 151, 152, 153, 154, 155, 156, 157, 158, 159, 160, 161, 162, 163, 164, 165, 166, 167, 198, 199, 200, 201, 202, 203, 204, 205, 206, 207, 188, 189, 190, 191, 208, 209, 210, 211, 212, 192, 193, 194, 195, 196, 197] rfl (by decide +kernel)) (goodIn_sub (fun _ h => List.mem_cons_of_mem _ (List.mem_append_left _ (List.mem_append_right _ h))) (by decide +kernel))
set_option maxRecDepth 20000 in
theorem gX2_exportAllAndSend_X8_sendPending : GoodIn wsX2_exportAllAndSend (wsV RX2 82 RX8 yX8_sendPending wsX8_sendPending) := goodIn_app (goodIn_of _ (by decide +kernel)) ggX2_exportAllAndSend_X8_sendPending
theorem dX2_exportAllAndSend_0 : decode cX2_exportAllAndSend 0 = .ok (.aload_n 0, 1) := by decide +kernel
theorem dX2_exportAllAndSend_1 : decode cX2_exportAllAndSend 1 = .ok (.getfield 14, 3) := by decide +kernel
theorem dX2_exportAllAndSend_4 : decode cX2_exportAllAndSend 4 = .ok (.getfield 61, 3) := by decide +kernel
theorem dX2_exportAllAndSend_7 : decode cX2_exportAllAndSend 7 = .ok (.istore_n 1, 1) := by decide +kernel
theorem dX2_exportAllAndSend_8 : decode cX2_exportAllAndSend 8 = .ok (.aload_n 0, 1) := by decide +kernel
theorem dX2_exportAllAndSend_9 : decode cX2_exportAllAndSend 9 = .ok (.invokevirtual 153, 3) := by decide +kernel
theorem dX2_exportAllAndSend_12 : decode cX2_exportAllAndSend 12 = .ok (.aload_n 0, 1) := by decide +kernel
theorem dX2_exportAllAndSend_13 : decode cX2_exportAllAndSend 13 = .ok (.getfield 57, 3) := by decide +kernel
theorem dX2_exportAllAndSend_16 : decode cX2_exportAllAndSend 16 = .ok (.aload_n 0, 1) := by decide +kernel
theorem dX2_exportAllAndSend_17 : decode cX2_exportAllAndSend 17 = .ok (.getfield 23, 3) := by decide +kernel
theorem dX2_exportAllAndSend_20 : decode cX2_exportAllAndSend 20 = .ok (.invokevirtual 82, 3) := by decide +kernel
theorem dX2_exportAllAndSend_23 : decode cX2_exportAllAndSend 23 = .ok (.iload_n 1, 1) := by decide +kernel
theorem dX2_exportAllAndSend_24 : decode cX2_exportAllAndSend 24 = .ok (.ireturn, 1) := by decide +kernel
set_option maxRecDepth 20000 in
theorem ggX2_tick_X2_exportOld : GoodIn wsX2_tick wsX2_exportOld := goodIn_ca (goodIn_ca (goodIn_r _ [8, 9, 10, 11, 1, 12, 13, 14, 15, 16, 17, 18, 19, 20, 21, 22, 23, 24, 25, 26, 27, 28, 7, 29, 30, 31, 32, 33, 3, 2, 34, 35, 36, 37, 38, 39, 40, 41, 42, 43, 44, 45, 46, 47, 48, 49, 50, 51, 52, 53, 54, 55, 56, 57, 58, 59, 60, 61, 62, 63, 64, 65, 66, 67, 68, 69, 70, 71, 72, 73, 74, 75, 76, 77, 78, 79, 80, 81, 82, 83, 84, 85, 86, 87, 88, 89, 90, 91, 92, 93, 94, 95, 96, 97, 98, 99, 182, 183, 184, 185, 186, 187, 188, 189, 190, 191, 192, 193, 194, 195, 196, 197, 198, 199, 200, 201, 202, 203, 204, 205, 206, 207, 208, 209, 210, 211, 212, 213, 214, 215, 216, 217, 218, 219, 220, 221, 222, 223] rfl (by decide +kernel)) (goodIn_sub (fun _ h => List.mem_cons_of_mem _ (List.mem_append_left _ (List.mem_append_right _ h))) (by decide +kernel))) (goodIn_sub (fun _ h => List.mem_cons_of_mem _ (List.mem_append_right _ h)) (by decide +kernel))
set_option maxRecDepth 20000 in
theorem gX2_tick_X2_exportOld : GoodIn wsX2_tick (wsV RX2 156 RX2 yX2_exportOld wsX2_exportOld) := goodIn_app (goodIn_of _ (by decide +kernel)) ggX2_tick_X2_exportOld
set_option maxRecDepth 20000 in
theorem ggX2_tick_X2_endInterval : GoodIn wsX2_tick wsX2_endInterval := goodIn_ca (goodIn_r _ [103, 31, 104, 9, 105, 2, 14, 15, 16, 17, 18, 19, 182, 183, 184, 185, 186, 187, 188, 189, 190, 191, 192, 193, 194, 202, 203, 204, 205, 206, 207] rfl (by decide +kernel)) (goodIn_sub (fun _ h => List.mem_cons_of_mem _ (List.mem_append_left _ (List.mem_append_right _ h))) (by decide +kernel))
set_option maxRecDepth 20000 in
theorem gX2_tick_X2_endInterval : GoodIn wsX2_tick (wsV RX2 159 RX2 yX2_endInterval wsX2_endInterval) := goodIn_app (goodIn_of _ (by decide +kernel)) ggX2_tick_X2_endInterval
set_option maxRecDepth 20000 in
theorem ggX2_tick_X2_exportAll : GoodIn wsX2_tick wsX2_exportAll := goodIn_ca (goodIn_ca (goodIn_r _ [109, 10, 11, 26, 27, 28, 7, 29, 9, 30, 31, 32, 33, 3, 2, 34, 35, 36, 23, 37, 38, 25, 39, 21, 22, 24, 40, 41, 42, 43, 44, 45, 46, 47, 48, 17, 49, 50, 51, 52, 53, 54, 55, 56, 57, 58, 59, 60, 61, 62, 63, 64, 65, 66, 67, 68, 69, 70, 71, 72, 73, 74, 75, 76, 77, 78, 79, 80, 81, 82, 83, 84, 85, 86, 87, 88, 89, 90, 91, 92, 93, 94, 95, 96, 97, 98, 99, 182, 183, 184, 185, 186, 187, 188, 189, 190, 191, 192, 193, 194, 195, 196, 197, 198, 199, 200, 201, 208, 209, 210, 211, 202, 203, 204, 205, 206, 207, 212, 213, 214, 215, 216, 217, 218, 219, 220, 221, 222, 223] rfl (by decide +kernel)) (goodIn_sub (fun _ h => List.mem_cons_of_mem _ (List.mem_append_left _ (List.mem_append_right _ h))) (by decide +kernel))) (goodIn_sub (fun _ h => List.mem_cons_of_mem _ (List.mem_append_right _ h)) (by decide +kernel))
set_option maxRecDepth 20000 in
theorem gX2_tick_X2_exportAll : GoodIn wsX2_tick (wsV RX2 153 RX2 yX2_exportAll wsX2_exportAll) := goodIn_app (goodIn_of _ (by decide +kernel)) ggX2_tick_X2_exportAll
set_option maxRecDepth 20000 in
theorem ggX2_tick_X8_sendPending : GoodIn wsX2_tick wsX8_sendPending := goodIn_ca (goodIn_r _ [113, 65, 66, 67, 114, 115, 69, 116, 117, 118, 63, 119, 120, 121, 122, 123, 124, 125, 126, 127, 128, 129, 130, 131, 132, 133, 134, 93, 94, 95, 96, 97, 98, 99, 135, 136, 137, 138, 139, 140, 141, 142, 143, 144, 145, 146, 68, 71, 52, 53, 17, 54, 55, 147, 15, 16, 18, 19, 148, 149, 150, 151, 72, 73, 74, 75, 76, 77, 78, 89, 90, 91, 92, 152, 153, 154, 155, 156, 157, 158, 159, 160, 161, 162, 163, 164, 165, 166, 167, 168, 169, 170, 171, 172, 173, 174, 175, 176, 177, 178, 179, 180, 181, 212, 213, 214, 215, 216, 217, 218, 219, 220, 221, 208, 209, 210, 211, 222, 223, 224, 225, 226, 202, 203, 204, 205, 206, 207] rfl (by decide +kernel)) (goodIn_sub (fun _ h => List.mem_cons_of_mem _ (List.mem_append_left _ (List.mem_append_right _ h))) (by decide +kernel))
set_option maxRecDepth 20000 in
theorem gX2_tick_X8_sendPending : GoodIn wsX2_tick (wsV RX2 82 RX8 yX8_sendPending wsX8_sendPending) := goodIn_app (goodIn_of _ (by decide +kernel)) ggX2_tick_X8_sendPending
theorem dX2_tick_0 : decode cX2_tick 0 = .ok (.aload_n 0, 1) := by decide +kernel
theorem dX2_tick_1 : decode cX2_tick 1 = .ok (.dup, 1) := by decide +kernel
theorem dX2_tick_2 : decode cX2_tick 2 = .ok (.getfield 23, 3) := by decide +kernel
theorem dX2_tick_5 : decode cX2_tick 5 = .ok (.iconst 1, 1) := by decide +kernel
theorem dX2_tick_6 : decode cX2_tick 6 = .ok (.iadd, 1) := by decide +kernel
theorem dX2_tick_7 : decode cX2_tick 7 = .ok (.putfield 23, 3) := by decide +kernel
theorem dX2_tick_10 : decode cX2_tick 10 = .ok (.aload_n 0, 1) := by decide +kernel
theorem dX2_tick_11 : decode cX2_tick 11 = .ok (.invokevirtual 156, 3) := by decide +kernel
theorem dX2_tick_14 : decode cX2_tick 14 = .ok (.aload_n 0, 1) := by decide +kernel
theorem dX2_tick_15 : decode cX2_tick 15 = .ok (.getfield 23, 3) := by decide +kernel
theorem dX2_tick_18 : decode cX2_tick 18 = .ok (.bipush 100, 2) := by decide +kernel
theorem dX2_tick_20 : decode cX2_tick 20 = .ok (.irem, 1) := by decide +kernel
theorem dX2_tick_21 : decode cX2_tick 21 = .ok (.ifCond .ne 10, 3) := by decide +kernel
theorem dX2_tick_24 : decode cX2_tick 24 = .ok (.aload_n 0, 1) := by decide +kernel
theorem dX2_tick_25 : decode cX2_tick 25 = .ok (.invokevirtual 159, 3) := by decide +kernel
theorem dX2_tick_28 : decode cX2_tick 28 = .ok (.goto 7, 3) := by decide +kernel
theorem dX2_tick_31 : decode cX2_tick 31 = .ok (.aload_n 0, 1) := by decide +kernel
theorem dX2_tick_32 : decode cX2_tick 32 = .ok (.getfield 27, 3) := by decide +kernel
theorem dX2_tick_35 : decode cX2_tick 35 = .ok (.istore_n 1, 1) := by decide +kernel
theorem dX2_tick_36 : decode cX2_tick 36 = .ok (.iload_n 1, 1) := by decide +kernel
theorem dX2_tick_37 : decode cX2_tick 37 = .ok (.aload_n 0, 1) := by decide +kernel
theorem dX2_tick_38 : decode cX2_tick 38 = .ok (.getfield 27, 3) := by decide +kernel
theorem dX2_tick_41 : decode cX2_tick 41 = .ok (.if_icmp .eq 12, 3) := by decide +kernel
theorem dX2_tick_44 : decode cX2_tick 44 = .ok (.aload_n 0, 1) := by decide +kernel
theorem dX2_tick_45 : decode cX2_tick 45 = .ok (.invokevirtual 153, 3) := by decide +kernel
theorem dX2_tick_48 : decode cX2_tick 48 = .ok (.aload_n 0, 1) := by decide +kernel
theorem dX2_tick_49 : decode cX2_tick 49 = .ok (.iload_n 1, 1) := by decide +kernel
theorem dX2_tick_50 : decode cX2_tick 50 = .ok (.putfield 27, 3) := by decide +kernel
theorem dX2_tick_53 : decode cX2_tick 53 = .ok (.aload_n 0, 1) := by decide +kernel
theorem dX2_tick_54 : decode cX2_tick 54 = .ok (.getfield 57, 3) := by decide +kernel
theorem dX2_tick_57 : decode cX2_tick 57 = .ok (.aload_n 0, 1) := by decide +kernel
theorem dX2_tick_58 : decode cX2_tick 58 = .ok (.getfield 23, 3) := by decide +kernel
theorem dX2_tick_61 : decode cX2_tick 61 = .ok (.invokevirtual 82, 3) := by decide +kernel
theorem dX2_tick_64 : decode cX2_tick 64 = .ok (.return_, 1) := by decide +kernel
set_option maxRecDepth 20000 in
theorem ggX2_exportOld_X1_get : GoodIn wsX2_exportOld wsX1_get := goodIn_ca (goodIn_r _ [11, 12, 116, 117, 118, 119, 120, 121] rfl (by decide +kernel)) (goodIn_sub (fun _ h => List.mem_cons_of_mem _ (List.mem_append_left _ (List.mem_append_right _ h))) (by decide +kernel))
set_option maxRecDepth 20000 in
theorem gX2_exportOld_X1_get : GoodIn wsX2_exportOld (wsV RX2 64 RX1 yX1_get wsX1_get) := goodIn_app (goodIn_of _ (by decide +kernel)) ggX2_exportOld_X1_get
set_option maxRecDepth 20000 in
theorem ggX2_exportOld_X4_flowAt : GoodIn wsX2_exportOld wsX4_flowAt := goodIn_r _ [17, 18, 109, 110] rfl (by decide +kernel)
set_option maxRecDepth 20000 in
theorem gX2_exportOld_X4_flowAt : GoodIn wsX2_exportOld (wsV RX2 98 RX4 yX4_flowAt wsX4_flowAt) := goodIn_app (goodIn_of _ (by decide +kernel)) ggX2_exportOld_X4_flowAt
set_option maxRecDepth 20000 in
theorem ggX2_exportOld_X2_exportAt : GoodIn wsX2_exportOld wsX2_exportAt := goodIn_ca (goodIn_ca (goodIn_r _ [23, 2, 1, 24, 25, 26, 27, 28, 29, 30, 31, 32, 16, 33, 34, 18, 35, 14, 15, 17, 36, 37, 38, 39, 40, 41, 42, 43, 44, 10, 45, 46, 47, 48, 49, 50, 51, 52, 53, 22, 54, 55, 56, 57, 58, 59, 60, 61, 62, 63, 64, 65, 66, 67, 68, 69, 70, 71, 72, 73, 74, 75, 76, 77, 78, 79, 80, 81, 82, 83, 84, 85, 86, 87, 88, 89, 90, 91, 92, 93, 94, 95, 96, 97, 98, 99, 100, 101, 102, 103, 104, 105, 106, 107, 108, 111, 112, 113, 114, 115, 122, 123, 124, 125, 109, 110, 116, 117, 118, 119, 120, 121, 126, 127, 128, 129, 130, 131, 132, 133, 134, 135, 136, 137] rfl (by decide +kernel)) (goodIn_sub (fun _ h => List.mem_cons_of_mem _ (List.mem_append_left _ (List.mem_append_right _ h))) (by decide +kernel))) (goodIn_sub (fun _ h => List.mem_cons_of_mem _ (List.mem_append_right _ h)) (by decide +kernel))
set_option maxRecDepth 20000 in
theorem gX2_exportOld_X2_exportAt : GoodIn wsX2_exportOld (wsV RX2 120 RX2 yX2_exportAt wsX2_exportAt) := goodIn_app (goodIn_of _ (by decide +kernel)) ggX2_exportOld_X2_exportAt
theorem dX2_exportOld_0 : decode cX2_exportOld 0 = .ok (.aload_n 0, 1) := by decide +kernel
theorem dX2_exportOld_1 : decode cX2_exportOld 1 = .ok (.getfield 53, 3) := by decide +kernel
theorem dX2_exportOld_4 : decode cX2_exportOld 4 = .ok (.iconst 2, 1) := by decide +kernel
theorem dX2_exportOld_5 : decode cX2_exportOld 5 = .ok (.invokevirtual 64, 3) := by decide +kernel
theorem dX2_exportOld_8 : decode cX2_exportOld 8 = .ok (.istore_n 1, 1) := by decide +kernel
theorem dX2_exportOld_9 : decode cX2_exportOld 9 = .ok (.aload_n 0, 1) := by decide +kernel
theorem dX2_exportOld_10 : decode cX2_exportOld 10 = .ok (.getfield 53, 3) := by decide +kernel
theorem dX2_exportOld_13 : decode cX2_exportOld 13 = .ok (.iconst 3, 1) := by decide +kernel
theorem dX2_exportOld_14 : decode cX2_exportOld 14 = .ok (.invokevirtual 64, 3) := by decide +kernel
theorem dX2_exportOld_17 : decode cX2_exportOld 17 = .ok (.istore_n 2, 1) := by decide +kernel
theorem dX2_exportOld_18 : decode cX2_exportOld 18 = .ok (.iconst 0, 1) := by decide +kernel
theorem dX2_exportOld_19 : decode cX2_exportOld 19 = .ok (.istore_n 3, 1) := by decide +kernel
theorem dX2_exportOld_20 : decode cX2_exportOld 20 = .ok (.aload_n 0, 1) := by decide +kernel
theorem dX2_exportOld_21 : decode cX2_exportOld 21 = .ok (.getfield 14, 3) := by decide +kernel
theorem dX2_exportOld_24 : decode cX2_exportOld 24 = .ok (.getfield 61, 3) := by decide +kernel
theorem dX2_exportOld_27 : decode cX2_exportOld 27 = .ok (.istore 4, 2) := by decide +kernel
theorem dX2_exportOld_29 : decode cX2_exportOld 29 = .ok (.iload 4, 2) := by decide +kernel
theorem dX2_exportOld_31 : decode cX2_exportOld 31 = .ok (.ifCond .le 58, 3) := by decide +kernel
theorem dX2_exportOld_34 : decode cX2_exportOld 34 = .ok (.aload_n 0, 1) := by decide +kernel
theorem dX2_exportOld_35 : decode cX2_exportOld 35 = .ok (.getfield 14, 3) := by decide +kernel
theorem dX2_exportOld_38 : decode cX2_exportOld 38 = .ok (.iload_n 3, 1) := by decide +kernel
theorem dX2_exportOld_39 : decode cX2_exportOld 39 = .ok (.invokevirtual 98, 3) := by decide +kernel
theorem dX2_exportOld_42 : decode cX2_exportOld 42 = .ok (.astore 5, 2) := by decide +kernel
theorem dX2_exportOld_44 : decode cX2_exportOld 44 = .ok (.aload_n 0, 1) := by decide +kernel
theorem dX2_exportOld_45 : decode cX2_exportOld 45 = .ok (.getfield 23, 3) := by decide +kernel
theorem dX2_exportOld_48 : decode cX2_exportOld 48 = .ok (.aload 5, 2) := by decide +kernel
theorem dX2_exportOld_50 : decode cX2_exportOld 50 = .ok (.getfield 162, 3) := by decide +kernel
theorem dX2_exportOld_53 : decode cX2_exportOld 53 = .ok (.isub, 1) := by decide +kernel
theorem dX2_exportOld_54 : decode cX2_exportOld 54 = .ok (.iload_n 1, 1) := by decide +kernel
theorem dX2_exportOld_55 : decode cX2_exportOld 55 = .ok (.if_icmp .ge 17, 3) := by decide +kernel
theorem dX2_exportOld_58 : decode cX2_exportOld 58 = .ok (.aload_n 0, 1) := by decide +kernel
theorem dX2_exportOld_59 : decode cX2_exportOld 59 = .ok (.getfield 23, 3) := by decide +kernel
theorem dX2_exportOld_62 : decode cX2_exportOld 62 = .ok (.aload 5, 2) := by decide +kernel
theorem dX2_exportOld_64 : decode cX2_exportOld 64 = .ok (.getfield 123, 3) := by decide +kernel
theorem dX2_exportOld_67 : decode cX2_exportOld 67 = .ok (.isub, 1) := by decide +kernel
theorem dX2_exportOld_68 : decode cX2_exportOld 68 = .ok (.iload_n 2, 1) := by decide +kernel
theorem dX2_exportOld_69 : decode cX2_exportOld 69 = .ok (.if_icmp .lt 11, 3) := by decide +kernel
theorem dX2_exportOld_72 : decode cX2_exportOld 72 = .ok (.aload_n 0, 1) := by decide +kernel
theorem dX2_exportOld_73 : decode cX2_exportOld 73 = .ok (.iload_n 3, 1) := by decide +kernel
theorem dX2_exportOld_74 : decode cX2_exportOld 74 = .ok (.invokevirtual 120, 3) := by decide +kernel
theorem dX2_exportOld_77 : decode cX2_exportOld 77 = .ok (.goto 6, 3) := by decide +kernel
theorem dX2_exportOld_80 : decode cX2_exportOld 80 = .ok (.iinc 3 1, 3) := by decide +kernel
theorem dX2_exportOld_83 : decode cX2_exportOld 83 = .ok (.iinc 4 (-1), 3) := by decide +kernel
theorem dX2_exportOld_86 : decode cX2_exportOld 86 = .ok (.goto (-57), 3) := by decide +kernel
theorem dX2_exportOld_89 : decode cX2_exportOld 89 = .ok (.return_, 1) := by decide +kernel
set_option maxRecDepth 20000 in
theorem ggX2_endInterval_X1_get : GoodIn wsX2_endInterval wsX1_get := goodIn_ca (goodIn_r _ [10, 11, 25, 26, 27, 28, 29, 30] rfl (by decide +kernel)) (goodIn_sub (fun _ h => List.mem_cons_of_mem _ (List.mem_append_right _ h)) (by decide +kernel))
set_option maxRecDepth 20000 in
theorem gX2_endInterval_X1_get : GoodIn wsX2_endInterval (wsV RX2 64 RX1 yX1_get wsX1_get) := goodIn_app (goodIn_of _ (by decide +kernel)) ggX2_endInterval_X1_get
theorem dX2_endInterval_0 : decode cX2_endInterval 0 = .ok (.aload_n 0, 1) := by decide +kernel
theorem dX2_endInterval_1 : decode cX2_endInterval 1 = .ok (.getfield 37, 3) := by decide +kernel
theorem dX2_endInterval_4 : decode cX2_endInterval 4 = .ok (.aload_n 0, 1) := by decide +kernel
theorem dX2_endInterval_5 : decode cX2_endInterval 5 = .ok (.getfield 40, 3) := by decide +kernel
theorem dX2_endInterval_8 : decode cX2_endInterval 8 = .ok (.isub, 1) := by decide +kernel
theorem dX2_endInterval_9 : decode cX2_endInterval 9 = .ok (.istore_n 1, 1) := by decide +kernel
theorem dX2_endInterval_10 : decode cX2_endInterval 10 = .ok (.aload_n 0, 1) := by decide +kernel
theorem dX2_endInterval_11 : decode cX2_endInterval 11 = .ok (.aload_n 0, 1) := by decide +kernel
theorem dX2_endInterval_12 : decode cX2_endInterval 12 = .ok (.getfield 37, 3) := by decide +kernel
theorem dX2_endInterval_15 : decode cX2_endInterval 15 = .ok (.putfield 40, 3) := by decide +kernel
theorem dX2_endInterval_18 : decode cX2_endInterval 18 = .ok (.aload_n 0, 1) := by decide +kernel
theorem dX2_endInterval_19 : decode cX2_endInterval 19 = .ok (.getfield 53, 3) := by decide +kernel
theorem dX2_endInterval_22 : decode cX2_endInterval 22 = .ok (.iconst 1, 1) := by decide +kernel
theorem dX2_endInterval_23 : decode cX2_endInterval 23 = .ok (.invokevirtual 64, 3) := by decide +kernel
theorem dX2_endInterval_26 : decode cX2_endInterval 26 = .ok (.istore_n 2, 1) := by decide +kernel
theorem dX2_endInterval_27 : decode cX2_endInterval 27 = .ok (.aload_n 0, 1) := by decide +kernel
theorem dX2_endInterval_28 : decode cX2_endInterval 28 = .ok (.getfield 33, 3) := by decide +kernel
theorem dX2_endInterval_31 : decode cX2_endInterval 31 = .ok (.ifCond .eq 25, 3) := by decide +kernel
theorem dX2_endInterval_34 : decode cX2_endInterval 34 = .ok (.iload_n 1, 1) := by decide +kernel
theorem dX2_endInterval_35 : decode cX2_endInterval 35 = .ok (.iload_n 2, 1) := by decide +kernel
theorem dX2_endInterval_36 : decode cX2_endInterval 36 = .ok (.if_icmp .le 20, 3) := by decide +kernel
theorem dX2_endInterval_39 : decode cX2_endInterval 39 = .ok (.aload_n 0, 1) := by decide +kernel
theorem dX2_endInterval_40 : decode cX2_endInterval 40 = .ok (.getfield 27, 3) := by decide +kernel
theorem dX2_endInterval_43 : decode cX2_endInterval 43 = .ok (.sipush 512, 3) := by decide +kernel
theorem dX2_endInterval_46 : decode cX2_endInterval 46 = .ok (.if_icmp .gt 10, 3) := by decide +kernel
theorem dX2_endInterval_49 : decode cX2_endInterval 49 = .ok (.iconst 2, 1) := by decide +kernel
theorem dX2_endInterval_50 : decode cX2_endInterval 50 = .ok (.aload_n 0, 1) := by decide +kernel
theorem dX2_endInterval_51 : decode cX2_endInterval 51 = .ok (.getfield 27, 3) := by decide +kernel
theorem dX2_endInterval_54 : decode cX2_endInterval 54 = .ok (.imul, 1) := by decide +kernel
theorem dX2_endInterval_55 : decode cX2_endInterval 55 = .ok (.ireturn, 1) := by decide +kernel
theorem dX2_endInterval_56 : decode cX2_endInterval 56 = .ok (.aload_n 0, 1) := by decide +kernel
theorem dX2_endInterval_57 : decode cX2_endInterval 57 = .ok (.getfield 33, 3) := by decide +kernel
theorem dX2_endInterval_60 : decode cX2_endInterval 60 = .ok (.ifCond .eq 25, 3) := by decide +kernel
theorem dX2_endInterval_63 : decode cX2_endInterval 63 = .ok (.iconst 2, 1) := by decide +kernel
theorem dX2_endInterval_64 : decode cX2_endInterval 64 = .ok (.iload_n 1, 1) := by decide +kernel
theorem dX2_endInterval_65 : decode cX2_endInterval 65 = .ok (.imul, 1) := by decide +kernel
theorem dX2_endInterval_66 : decode cX2_endInterval 66 = .ok (.iload_n 2, 1) := by decide +kernel
theorem dX2_endInterval_67 : decode cX2_endInterval 67 = .ok (.if_icmp .ge 18, 3) := by decide +kernel
theorem dX2_endInterval_70 : decode cX2_endInterval 70 = .ok (.aload_n 0, 1) := by decide +kernel
theorem dX2_endInterval_71 : decode cX2_endInterval 71 = .ok (.getfield 27, 3) := by decide +kernel
theorem dX2_endInterval_74 : decode cX2_endInterval 74 = .ok (.iconst 2, 1) := by decide +kernel
theorem dX2_endInterval_75 : decode cX2_endInterval 75 = .ok (.if_icmp .lt 10, 3) := by decide +kernel
theorem dX2_endInterval_78 : decode cX2_endInterval 78 = .ok (.aload_n 0, 1) := by decide +kernel
theorem dX2_endInterval_79 : decode cX2_endInterval 79 = .ok (.getfield 27, 3) := by decide +kernel
theorem dX2_endInterval_82 : decode cX2_endInterval 82 = .ok (.iconst 2, 1) := by decide +kernel
theorem dX2_endInterval_83 : decode cX2_endInterval 83 = .ok (.idiv, 1) := by decide +kernel
theorem dX2_endInterval_84 : decode cX2_endInterval 84 = .ok (.ireturn, 1) := by decide +kernel
theorem dX2_endInterval_85 : decode cX2_endInterval 85 = .ok (.aload_n 0, 1) := by decide +kernel
theorem dX2_endInterval_86 : decode cX2_endInterval 86 = .ok (.getfield 27, 3) := by decide +kernel
theorem dX2_endInterval_89 : decode cX2_endInterval 89 = .ok (.ireturn, 1) := by decide +kernel

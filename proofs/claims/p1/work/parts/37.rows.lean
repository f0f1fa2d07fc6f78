theorem dX0_hasStarted_0 : decode cX0_hasStarted 0 = .ok (.aload_n 0, 1) := by decide +kernel
theorem dX0_hasStarted_1 : decode cX0_hasStarted 1 = .ok (.getfield 39, 3) := by decide +kernel
theorem dX0_hasStarted_4 : decode cX0_hasStarted 4 = .ok (.ifCond .le 7, 3) := by decide +kernel
theorem dX0_hasStarted_11 : decode cX0_hasStarted 11 = .ok (.iconst 0, 1) := by decide +kernel
theorem dX0_hasStarted_12 : decode cX0_hasStarted 12 = .ok (.ireturn, 1) := by decide +kernel
theorem dX0_ageOf_0 : decode cX0_ageOf 0 = .ok (.iload_n 1, 1) := by decide +kernel
theorem dX0_ageOf_1 : decode cX0_ageOf 1 = .ok (.ifCond .lt 20, 3) := by decide +kernel
theorem dX0_ageOf_4 : decode cX0_ageOf 4 = .ok (.iload_n 1, 1) := by decide +kernel
theorem dX0_ageOf_5 : decode cX0_ageOf 5 = .ok (.iconst 4, 1) := by decide +kernel
theorem dX0_ageOf_6 : decode cX0_ageOf 6 = .ok (.if_icmp .ge 15, 3) := by decide +kernel
theorem dX0_ageOf_9 : decode cX0_ageOf 9 = .ok (.aload_n 0, 1) := by decide +kernel
theorem dX0_ageOf_10 : decode cX0_ageOf 10 = .ok (.getfield 11, 3) := by decide +kernel
theorem dX0_ageOf_13 : decode cX0_ageOf 13 = .ok (.iload_n 1, 1) := by decide +kernel
theorem dX0_ageOf_14 : decode cX0_ageOf 14 = .ok (.aaload, 1) := by decide +kernel
theorem dX0_ageOf_15 : decode cX0_ageOf 15 = .ok (.getfield 67, 3) := by decide +kernel
theorem dX0_ageOf_18 : decode cX0_ageOf 18 = .ok (.ifCond .ne 5, 3) := by decide +kernel
theorem dX0_ageOf_21 : decode cX0_ageOf 21 = .ok (.iconst (-1), 1) := by decide +kernel
theorem dX0_ageOf_22 : decode cX0_ageOf 22 = .ok (.ireturn, 1) := by decide +kernel
set_option maxRecDepth 20000 in
theorem ggX0_isUsable_X0_ageOf : GoodIn wsX0_isUsable wsX0_ageOf := goodIn_ca (goodIn_r _ [6, 7, 8, 9, 16, 17, 18, 19, 20, 21, 22, 23, 24, 25, 26, 27, 28, 29, 30, 31] (by decide +kernel) (by decide +kernel)) (goodIn_sub (fun _ h => List.mem_cons_of_mem _ (List.mem_append_right _ h)) (by decide +kernel))
set_option maxRecDepth 20000 in
theorem gX0_isUsable_X0_ageOf : GoodIn wsX0_isUsable (wsV RX0 73 RX0 yX0_ageOf wsX0_ageOf) := goodIn_app (goodIn_of _ (by decide +kernel)) ggX0_isUsable_X0_ageOf
theorem dX0_isUsable_0 : decode cX0_isUsable 0 = .ok (.aload_n 0, 1) := by decide +kernel
theorem dX0_isUsable_1 : decode cX0_isUsable 1 = .ok (.iload_n 1, 1) := by decide +kernel
theorem dX0_isUsable_2 : decode cX0_isUsable 2 = .ok (.iload_n 2, 1) := by decide +kernel
theorem dX0_isUsable_3 : decode cX0_isUsable 3 = .ok (.invokevirtual 73, 3) := by decide +kernel
theorem dX0_isUsable_6 : decode cX0_isUsable 6 = .ok (.istore_n 3, 1) := by decide +kernel
theorem dX0_isUsable_7 : decode cX0_isUsable 7 = .ok (.iload_n 3, 1) := by decide +kernel
theorem dX0_isUsable_8 : decode cX0_isUsable 8 = .ok (.iconst (-1), 1) := by decide +kernel
theorem dX0_isUsable_9 : decode cX0_isUsable 9 = .ok (.if_icmp .eq 20, 3) := by decide +kernel
theorem dX0_isUsable_29 : decode cX0_isUsable 29 = .ok (.iconst 0, 1) := by decide +kernel
theorem dX0_isUsable_30 : decode cX0_isUsable 30 = .ok (.ireturn, 1) := by decide +kernel
set_option maxRecDepth 20000 in
theorem ggX0_usableTemplates_X0_isUsable : GoodIn wsX0_usableTemplates wsX0_isUsable := goodIn_ca (goodIn_r _ [5, 6, 7, 8, 9, 4, 10, 11, 12, 13, 14, 15, 16, 17, 18, 19, 20, 21, 22, 23, 24, 25, 26, 27, 28, 29, 30, 31, 32, 33, 34, 35, 36, 37, 38, 39, 40, 41] (by decide +kernel) (by decide +kernel)) (goodIn_sub (fun _ h => List.mem_cons_of_mem _ (List.mem_append_right _ h)) (by decide +kernel))
set_option maxRecDepth 20000 in
theorem gX0_usableTemplates_X0_isUsable : GoodIn wsX0_usableTemplates (wsV RX0 83 RX0 yX0_isUsable wsX0_isUsable) := goodIn_app (goodIn_of _ (by decide +kernel)) ggX0_usableTemplates_X0_isUsable
theorem dX0_usableTemplates_0 : decode cX0_usableTemplates 0 = .ok (.iconst 0, 1) := by decide +kernel
theorem dX0_usableTemplates_1 : decode cX0_usableTemplates 1 = .ok (.istore_n 2, 1) := by decide +kernel
theorem dX0_usableTemplates_2 : decode cX0_usableTemplates 2 = .ok (.iconst 0, 1) := by decide +kernel
theorem dX0_usableTemplates_3 : decode cX0_usableTemplates 3 = .ok (.istore_n 3, 1) := by decide +kernel
theorem dX0_usableTemplates_4 : decode cX0_usableTemplates 4 = .ok (.iload_n 3, 1) := by decide +kernel
theorem dX0_usableTemplates_5 : decode cX0_usableTemplates 5 = .ok (.iconst 4, 1) := by decide +kernel
theorem dX0_usableTemplates_6 : decode cX0_usableTemplates 6 = .ok (.if_icmp .ge 24, 3) := by decide +kernel
theorem dX0_usableTemplates_9 : decode cX0_usableTemplates 9 = .ok (.aload_n 0, 1) := by decide +kernel
theorem dX0_usableTemplates_10 : decode cX0_usableTemplates 10 = .ok (.iload_n 3, 1) := by decide +kernel
theorem dX0_usableTemplates_11 : decode cX0_usableTemplates 11 = .ok (.iload_n 1, 1) := by decide +kernel
theorem dX0_usableTemplates_12 : decode cX0_usableTemplates 12 = .ok (.invokevirtual 83, 3) := by decide +kernel
theorem dX0_usableTemplates_15 : decode cX0_usableTemplates 15 = .ok (.ifCond .eq 9, 3) := by decide +kernel
theorem dX0_usableTemplates_24 : decode cX0_usableTemplates 24 = .ok (.iinc 3 1, 3) := by decide +kernel
theorem dX0_usableTemplates_27 : decode cX0_usableTemplates 27 = .ok (.goto (-23), 3) := by decide +kernel
theorem dX0_usableTemplates_30 : decode cX0_usableTemplates 30 = .ok (.iload_n 2, 1) := by decide +kernel
theorem dX0_usableTemplates_31 : decode cX0_usableTemplates 31 = .ok (.ireturn, 1) := by decide +kernel
theorem dX0_take_0 : decode cX0_take 0 = .ok (.aload_n 0, 1) := by decide +kernel
theorem dX0_take_1 : decode cX0_take 1 = .ok (.getfield 32, 3) := by decide +kernel
theorem dX0_take_4 : decode cX0_take 4 = .ok (.bipush 8, 2) := by decide +kernel
theorem dX0_take_6 : decode cX0_take 6 = .ok (.dup2, 1) := by decide +kernel
theorem dX0_take_7 : decode cX0_take 7 = .ok (.laload, 1) := by decide +kernel
theorem dX0_take_8 : decode cX0_take 8 = .ok (.lconst 1, 1) := by decide +kernel
theorem dX0_take_9 : decode cX0_take 9 = .ok (.ladd, 1) := by decide +kernel
theorem dX0_take_10 : decode cX0_take 10 = .ok (.lastore, 1) := by decide +kernel
theorem dX0_take_11 : decode cX0_take 11 = .ok (.aload_n 1, 1) := by decide +kernel
theorem dX0_take_12 : decode cX0_take 12 = .ok (.getfield 87, 3) := by decide +kernel
theorem dX0_take_15 : decode cX0_take 15 = .ok (.bipush 16, 2) := by decide +kernel
theorem dX0_take_17 : decode cX0_take 17 = .ok (.if_icmp .lt 27, 3) := by decide +kernel
theorem dX0_take_44 : decode cX0_take 44 = .ok (.aload_n 0, 1) := by decide +kernel
theorem dX0_take_45 : decode cX0_take 45 = .ok (.getfield 32, 3) := by decide +kernel
theorem dX0_take_48 : decode cX0_take 48 = .ok (.iconst 4, 1) := by decide +kernel
theorem dX0_take_49 : decode cX0_take 49 = .ok (.dup2, 1) := by decide +kernel
theorem dX0_take_50 : decode cX0_take 50 = .ok (.laload, 1) := by decide +kernel
theorem dX0_take_51 : decode cX0_take 51 = .ok (.lconst 1, 1) := by decide +kernel
theorem dX0_take_52 : decode cX0_take 52 = .ok (.ladd, 1) := by decide +kernel
theorem dX0_take_53 : decode cX0_take 53 = .ok (.lastore, 1) := by decide +kernel
theorem dX0_take_54 : decode cX0_take 54 = .ok (.iconst 0, 1) := by decide +kernel
theorem dX0_take_55 : decode cX0_take 55 = .ok (.ireturn, 1) := by decide +kernel
theorem dX1_template_0 : decode cX1_template 0 = .ok (.aload_n 0, 1) := by decide +kernel
theorem dX1_template_1 : decode cX1_template 1 = .ok (.getfield 20, 3) := by decide +kernel
theorem dX1_template_4 : decode cX1_template 4 = .ok (.iload_n 1, 1) := by decide +kernel
theorem dX1_template_5 : decode cX1_template 5 = .ok (.ifCond .lt 12, 3) := by decide +kernel
theorem dX1_template_8 : decode cX1_template 8 = .ok (.iload_n 1, 1) := by decide +kernel
theorem dX1_template_9 : decode cX1_template 9 = .ok (.iconst 4, 1) := by decide +kernel
theorem dX1_template_10 : decode cX1_template 10 = .ok (.if_icmp .ge 7, 3) := by decide +kernel
theorem dX1_template_13 : decode cX1_template 13 = .ok (.iload_n 1, 1) := by decide +kernel
theorem dX1_template_14 : decode cX1_template 14 = .ok (.goto 4, 3) := by decide +kernel
theorem dX1_template_18 : decode cX1_template 18 = .ok (.aaload, 1) := by decide +kernel
theorem dX1_template_19 : decode cX1_template 19 = .ok (.areturn, 1) := by decide +kernel
theorem dX1_effective_0 : decode cX1_effective 0 = .ok (.aload_n 0, 1) := by decide +kernel
theorem dX1_effective_1 : decode cX1_effective 1 = .ok (.getfield 24, 3) := by decide +kernel
theorem dX1_effective_4 : decode cX1_effective 4 = .ok (.iload_n 1, 1) := by decide +kernel
theorem dX1_effective_5 : decode cX1_effective 5 = .ok (.ifCond .lt 12, 3) := by decide +kernel
theorem dX1_effective_8 : decode cX1_effective 8 = .ok (.iload_n 1, 1) := by decide +kernel
theorem dX1_effective_9 : decode cX1_effective 9 = .ok (.iconst 4, 1) := by decide +kernel
theorem dX1_effective_10 : decode cX1_effective 10 = .ok (.if_icmp .ge 7, 3) := by decide +kernel
theorem dX1_effective_13 : decode cX1_effective 13 = .ok (.iload_n 1, 1) := by decide +kernel
theorem dX1_effective_14 : decode cX1_effective 14 = .ok (.goto 4, 3) := by decide +kernel
theorem dX1_effective_18 : decode cX1_effective 18 = .ok (.aaload, 1) := by decide +kernel
theorem dX1_effective_19 : decode cX1_effective 19 = .ok (.areturn, 1) := by decide +kernel
theorem dX2_exportAll_0 : decode cX2_exportAll 0 = .ok (.aload_n 0, 1) := by decide +kernel
theorem dX2_exportAll_1 : decode cX2_exportAll 1 = .ok (.getfield 14, 3) := by decide +kernel
theorem dX2_exportAll_4 : decode cX2_exportAll 4 = .ok (.getfield 61, 3) := by decide +kernel
theorem dX2_exportAll_7 : decode cX2_exportAll 7 = .ok (.istore_n 1, 1) := by decide +kernel
theorem dX2_exportAll_8 : decode cX2_exportAll 8 = .ok (.iload_n 1, 1) := by decide +kernel
theorem dX2_exportAll_9 : decode cX2_exportAll 9 = .ok (.ifCond .le 14, 3) := by decide +kernel
theorem dX2_exportAll_23 : decode cX2_exportAll 23 = .ok (.return_, 1) := by decide +kernel
set_option maxRecDepth 20000 in
theorem ggX2_exportAllAndSend_X2_exportAll : GoodIn wsX2_exportAllAndSend wsX2_exportAll := goodIn_ca (goodIn_ca (goodIn_r _ [9, 1, 2, 10, 11, 12, 8, 13, 14, 15, 16, 17, 18, 3, 19, 20, 21, 22, 23, 24, 25, 26, 27, 28, 29, 30, 31, 32, 33, 34, 35, 36, 37, 38, 39, 40, 41, 42, 43, 44, 45, 46, 47, 48, 49, 50, 51, 52, 53, 54, 55, 56, 57, 58, 59, 60, 61, 62, 63, 64, 65, 66, 67, 68, 69, 70, 71, 72, 73, 74, 75, 76, 77, 78, 79, 80, 81, 82, 83, 84, 85, 86, 87, 88, 89, 90, 91, 168, 169, 170, 171, 172, 173, 174, 175, 176, 177, 178, 179, 180, 181, 182, 183, 184, 185, 186, 187, 188, 189, 190, 191, 192, 193, 194, 195, 196, 197, 198, 199, 200, 201, 202, 203, 204, 205, 206, 207, 208, 209] (by decide +kernel) (by decide +kernel)) (goodIn_sub (fun _ h => List.mem_cons_of_mem _ (List.mem_append_left _ (List.mem_append_right _ h))) (by decide +kernel))) (goodIn_sub (fun _ h => List.mem_cons_of_mem _ (List.mem_append_right _ h)) (by decide +kernel))
set_option maxRecDepth 20000 in
theorem gX2_exportAllAndSend_X2_exportAll : GoodIn wsX2_exportAllAndSend (wsV RX2 153 RX2 yX2_exportAll wsX2_exportAll) := goodIn_app (goodIn_of _ (by decide +kernel)) ggX2_exportAllAndSend_X2_exportAll
set_option maxRecDepth 20000 in
theorem ggX2_exportAllAndSend_X8_sendPending : GoodIn wsX2_exportAllAndSend wsX8_sendPending := goodIn_ca (goodIn_r _ [95, 57, 58, 59, 96, 97, 61, 98, 99, 100, 55, 101, 102, 103, 104, 105, 106, 107, 108, 109, 110, 111, 112, 113, 114, 115, 116, 85, 86, 87, 88, 89, 90, 91, 117, 118, 119, 120, 121, 122, 123, 124, 125, 126, 127, 128, 60, 63, 44, 45, 40, 46, 47, 129, 130, 131, 132, 133, 134, 135, 136, 137, 64, 65, 66, 67, 68, 69, 70, 81, 82, 83, 84, 138, 139, 140, 141, 142, 143, 144, 145, 146, 147, 148, 149, 150, 151, 152, 153, 154, 155, 156, 157, 158, 159, 160, 161, 162, 163, 164, 165, 166, 167, 198, 199, 200, 201, 202, 203, 204, 205, 206, 207, 188, 189, 190, 191, 208, 209, 210, 211, 212, 192, 193, 194, 195, 196, 197] (by decide +kernel) (by decide +kernel)) (goodIn_sub (fun _ h => List.mem_cons_of_mem _ (List.mem_append_left _ (List.mem_append_right _ h))) (by decide +kernel))
set_option maxRecDepth 20000 in
theorem gX2_exportAllAndSend_X8_sendPending : GoodIn wsX2_exportAllAndSend (wsV RX2 82 RX8 yX8_sendPending wsX8_sendPending) := goodIn_app (goodIn_of _ (by decide +kernel)) ggX2_exportAllAndSend_X8_sendPending
theorem dX2_exportAllAndSend_0 : decode cX2_exportAllAndSend 0 = .ok (.aload_n 0, 1) := by decide +kernel
theorem dX2_exportAllAndSend_1 : decode cX2_exportAllAndSend 1 = .ok (.getfield 14, 3) := by decide +kernel
theorem dX2_exportAllAndSend_4 : decode cX2_exportAllAndSend 4 = .ok (.getfield 61, 3) := by decide +kernel
theorem dX2_exportAllAndSend_7 : decode cX2_exportAllAndSend 7 = .ok (.istore_n 1, 1) := by decide +kernel
theorem dX2_exportAllAndSend_8 : decode cX2_exportAllAndSend 8 = .ok (.aload_n 0, 1) := by decide +kernel
theorem dX2_exportAllAndSend_9 : decode cX2_exportAllAndSend 9 = .ok (.invokevirtual 153, 3) := by decide +kernel
theorem dX2_exportAllAndSend_12 : decode cX2_exportAllAndSend 12 = .ok (.aload_n 0, 1) := by decide +kernel
theorem dX2_exportAllAndSend_13 : decode cX2_exportAllAndSend 13 = .ok (.getfield 57, 3) := by decide +kernel
theorem dX2_exportAllAndSend_16 : decode cX2_exportAllAndSend 16 = .ok (.aload_n 0, 1) := by decide +kernel
theorem dX2_exportAllAndSend_17 : decode cX2_exportAllAndSend 17 = .ok (.getfield 23, 3) := by decide +kernel
theorem dX2_exportAllAndSend_20 : decode cX2_exportAllAndSend 20 = .ok (.invokevirtual 82, 3) := by decide +kernel
theorem dX2_exportAllAndSend_23 : decode cX2_exportAllAndSend 23 = .ok (.iload_n 1, 1) := by decide +kernel
theorem dX2_exportAllAndSend_24 : decode cX2_exportAllAndSend 24 = .ok (.ireturn, 1) := by decide +kernel
theorem dX2_bitsOfInverse_0 : decode cX2_bitsOfInverse 0 = .ok (.iload_n 0, 1) := by decide +kernel
theorem dX2_bitsOfInverse_1 : decode cX2_bitsOfInverse 1 = .ok (.iconst 1, 1) := by decide +kernel
theorem dX2_bitsOfInverse_2 : decode cX2_bitsOfInverse 2 = .ok (.if_icmp .ge 5, 3) := by decide +kernel
theorem dX2_bitsOfInverse_7 : decode cX2_bitsOfInverse 7 = .ok (.iconst 0, 1) := by decide +kernel
theorem dX2_bitsOfInverse_8 : decode cX2_bitsOfInverse 8 = .ok (.istore_n 1, 1) := by decide +kernel
theorem dX2_bitsOfInverse_9 : decode cX2_bitsOfInverse 9 = .ok (.iload_n 1, 1) := by decide +kernel
theorem dX2_bitsOfInverse_10 : decode cX2_bitsOfInverse 10 = .ok (.bipush 30, 2) := by decide +kernel
theorem dX2_bitsOfInverse_12 : decode cX2_bitsOfInverse 12 = .ok (.if_icmp .ge 16, 3) := by decide +kernel
theorem dX2_bitsOfInverse_15 : decode cX2_bitsOfInverse 15 = .ok (.iconst 1, 1) := by decide +kernel
theorem dX2_bitsOfInverse_16 : decode cX2_bitsOfInverse 16 = .ok (.iload_n 1, 1) := by decide +kernel
theorem dX2_bitsOfInverse_17 : decode cX2_bitsOfInverse 17 = .ok (.ishl, 1) := by decide +kernel
theorem dX2_bitsOfInverse_18 : decode cX2_bitsOfInverse 18 = .ok (.iload_n 0, 1) := by decide +kernel
theorem dX2_bitsOfInverse_19 : decode cX2_bitsOfInverse 19 = .ok (.if_icmp .ge 9, 3) := by decide +kernel
theorem dX2_bitsOfInverse_28 : decode cX2_bitsOfInverse 28 = .ok (.lconst 1, 1) := by decide +kernel
theorem dX2_bitsOfInverse_29 : decode cX2_bitsOfInverse 29 = .ok (.bipush 23, 2) := by decide +kernel
theorem dX2_bitsOfInverse_31 : decode cX2_bitsOfInverse 31 = .ok (.iload_n 1, 1) := by decide +kernel
theorem dX2_bitsOfInverse_32 : decode cX2_bitsOfInverse 32 = .ok (.iadd, 1) := by decide +kernel
theorem dX2_bitsOfInverse_33 : decode cX2_bitsOfInverse 33 = .ok (.lshl, 1) := by decide +kernel
theorem dX2_bitsOfInverse_34 : decode cX2_bitsOfInverse 34 = .ok (.iload_n 0, 1) := by decide +kernel
theorem dX2_bitsOfInverse_35 : decode cX2_bitsOfInverse 35 = .ok (.iconst 2, 1) := by decide +kernel
theorem dX2_bitsOfInverse_36 : decode cX2_bitsOfInverse 36 = .ok (.idiv, 1) := by decide +kernel
theorem dX2_bitsOfInverse_37 : decode cX2_bitsOfInverse 37 = .ok (.i2l, 1) := by decide +kernel
theorem dX2_bitsOfInverse_38 : decode cX2_bitsOfInverse 38 = .ok (.ladd, 1) := by decide +kernel
theorem dX2_bitsOfInverse_39 : decode cX2_bitsOfInverse 39 = .ok (.iload_n 0, 1) := by decide +kernel
theorem dX2_bitsOfInverse_40 : decode cX2_bitsOfInverse 40 = .ok (.i2l, 1) := by decide +kernel
theorem dX2_bitsOfInverse_41 : decode cX2_bitsOfInverse 41 = .ok (.ldiv, 1) := by decide +kernel
theorem dX2_bitsOfInverse_42 : decode cX2_bitsOfInverse 42 = .ok (.lstore_n 2, 1) := by decide +kernel
theorem dX2_bitsOfInverse_43 : decode cX2_bitsOfInverse 43 = .ok (.bipush 127, 2) := by decide +kernel
theorem dX2_bitsOfInverse_45 : decode cX2_bitsOfInverse 45 = .ok (.iload_n 1, 1) := by decide +kernel
theorem dX2_bitsOfInverse_46 : decode cX2_bitsOfInverse 46 = .ok (.isub, 1) := by decide +kernel
theorem dX2_bitsOfInverse_47 : decode cX2_bitsOfInverse 47 = .ok (.bipush 23, 2) := by decide +kernel
theorem dX2_bitsOfInverse_49 : decode cX2_bitsOfInverse 49 = .ok (.ishl, 1) := by decide +kernel
theorem dX2_bitsOfInverse_50 : decode cX2_bitsOfInverse 50 = .ok (.lload_n 2, 1) := by decide +kernel
theorem dX2_bitsOfInverse_51 : decode cX2_bitsOfInverse 51 = .ok (.ldc2_w 165, 3) := by decide +kernel
theorem dX2_bitsOfInverse_54 : decode cX2_bitsOfInverse 54 = .ok (.lsub, 1) := by decide +kernel
theorem dX2_bitsOfInverse_55 : decode cX2_bitsOfInverse 55 = .ok (.l2i, 1) := by decide +kernel
theorem dX2_bitsOfInverse_56 : decode cX2_bitsOfInverse 56 = .ok (.iadd, 1) := by decide +kernel
theorem dX2_bitsOfInverse_57 : decode cX2_bitsOfInverse 57 = .ok (.ireturn, 1) := by decide +kernel
set_option maxRecDepth 20000 in
theorem ggX8_mustSend_X1_effective : GoodIn wsX8_mustSend wsX1_effective := goodIn_r _ [10, 11, 31, 32, 33, 34, 35, 36] (by decide +kernel) (by decide +kernel)
set_option maxRecDepth 20000 in
theorem gX8_mustSend_X1_effective : GoodIn wsX8_mustSend (wsV RX8 82 RX1 yX1_effective wsX1_effective) := goodIn_app (goodIn_of _ (by decide +kernel)) ggX8_mustSend_X1_effective
theorem dX8_mustSend_0 : decode cX8_mustSend 0 = .ok (.iload_n 1, 1) := by decide +kernel
theorem dX8_mustSend_1 : decode cX8_mustSend 1 = .ok (.ifCond .lt 22, 3) := by decide +kernel
theorem dX8_mustSend_4 : decode cX8_mustSend 4 = .ok (.iload_n 1, 1) := by decide +kernel
theorem dX8_mustSend_5 : decode cX8_mustSend 5 = .ok (.iconst 4, 1) := by decide +kernel
theorem dX8_mustSend_6 : decode cX8_mustSend 6 = .ok (.if_icmp .ge 17, 3) := by decide +kernel
theorem dX8_mustSend_9 : decode cX8_mustSend 9 = .ok (.aload_n 0, 1) := by decide +kernel
theorem dX8_mustSend_10 : decode cX8_mustSend 10 = .ok (.getfield 44, 3) := by decide +kernel
theorem dX8_mustSend_13 : decode cX8_mustSend 13 = .ok (.iload_n 1, 1) := by decide +kernel
theorem dX8_mustSend_14 : decode cX8_mustSend 14 = .ok (.invokevirtual 82, 3) := by decide +kernel
theorem dX8_mustSend_17 : decode cX8_mustSend 17 = .ok (.getfield 85, 3) := by decide +kernel
theorem dX8_mustSend_20 : decode cX8_mustSend 20 = .ok (.ifCond .ne 5, 3) := by decide +kernel
theorem dX8_mustSend_25 : decode cX8_mustSend 25 = .ok (.aload_n 0, 1) := by decide +kernel
theorem dX8_mustSend_26 : decode cX8_mustSend 26 = .ok (.getfield 28, 3) := by decide +kernel
theorem dX8_mustSend_29 : decode cX8_mustSend 29 = .ok (.iload_n 1, 1) := by decide +kernel
theorem dX8_mustSend_30 : decode cX8_mustSend 30 = .ok (.iaload, 1) := by decide +kernel
theorem dX8_mustSend_31 : decode cX8_mustSend 31 = .ok (.ifCond .eq 44, 3) := by decide +kernel
theorem dX8_mustSend_75 : decode cX8_mustSend 75 = .ok (.iconst 1, 1) := by decide +kernel
theorem dX8_mustSend_76 : decode cX8_mustSend 76 = .ok (.goto 4, 3) := by decide +kernel
theorem dX8_mustSend_80 : decode cX8_mustSend 80 = .ok (.ireturn, 1) := by decide +kernel
theorem dX8_sendPending_0 : decode cX8_sendPending 0 = .ok (.aload_n 0, 1) := by decide +kernel
theorem dX8_sendPending_1 : decode cX8_sendPending 1 = .ok (.getfield 24, 3) := by decide +kernel
theorem dX8_sendPending_4 : decode cX8_sendPending 4 = .ok (.ifCond .ne 4, 3) := by decide +kernel
theorem dX8_sendPending_7 : decode cX8_sendPending 7 = .ok (.return_, 1) := by decide +kernel
set_option maxRecDepth 20000 in
theorem ggX11_flush_X2_exportAllAndSend : GoodIn wsX11_flush wsX2_exportAllAndSend := goodIn_ca (goodIn_ca (goodIn_r _ [6, 7, 8, 9, 10, 11, 12, 13, 5, 14, 15, 16, 17, 18, 19, 20, 21, 22, 23, 24, 25, 26, 27, 28, 29, 30, 31, 32, 33, 34, 35, 36, 37, 38, 39, 40, 41, 42, 43, 44, 45, 46, 47, 48, 49, 50, 51, 52, 53, 54, 55, 56, 57, 58, 59, 60, 61, 62, 63, 64, 65, 66, 67, 68, 69, 70, 71, 72, 73, 74, 75, 76, 77, 78, 79, 80, 81, 82, 83, 84, 85, 86, 87, 88, 89, 90, 91, 92, 93, 94, 95, 96, 97, 98, 99, 100, 101, 102, 103, 104, 105, 106, 107, 108, 109, 110, 111, 112, 113, 114, 115, 116, 117, 118, 119, 120, 121, 122, 123, 124, 125, 126, 127, 128, 129, 130, 131, 132, 133, 134, 135, 136, 137, 138, 139, 140, 141, 142, 143, 144, 145, 146, 147, 148, 149, 150, 151, 152, 153, 154, 155, 156, 157, 158, 159, 160, 161, 162, 163, 164, 165, 166, 167, 168, 169, 170, 171, 172, 181, 182, 183, 184, 185, 186, 187, 188, 189, 190, 191, 192, 193, 194, 195, 196, 197, 198, 199, 200, 201, 202, 203, 204, 205, 206, 207, 208, 209, 210, 211, 212, 213, 214, 215, 216, 217, 218, 219, 220, 221, 222, 223, 224, 225] (by decide +kernel) (by decide +kernel)) (goodIn_sub (fun _ h => List.mem_cons_of_mem _ (List.mem_append_left _ (List.mem_append_right _ h))) (by decide +kernel))) (goodIn_sub (fun _ h => List.mem_cons_of_mem _ (List.mem_append_right _ h)) (by decide +kernel))
set_option maxRecDepth 20000 in
theorem gX11_flush_X2_exportAllAndSend : GoodIn wsX11_flush (wsV RX11 143 RX2 yX2_exportAllAndSend wsX2_exportAllAndSend) := goodIn_app (goodIn_of _ (by decide +kernel)) ggX11_flush_X2_exportAllAndSend
theorem dX11_flush_0 : decode cX11_flush 0 = .ok (.aload_n 0, 1) := by decide +kernel
theorem dX11_flush_1 : decode cX11_flush 1 = .ok (.getfield 55, 3) := by decide +kernel
theorem dX11_flush_4 : decode cX11_flush 4 = .ok (.invokevirtual 143, 3) := by decide +kernel
theorem dX11_flush_7 : decode cX11_flush 7 = .ok (.ireturn, 1) := by decide +kernel
set_option maxRecDepth 20000 in
theorem ggX11_rateBits_X2_bitsOfInverse : GoodIn wsX11_rateBits wsX2_bitsOfInverse := goodIn_ca (goodIn_r _ [6, 7] (by decide +kernel) (by decide +kernel)) (goodIn_sub (fun _ h => List.mem_cons_of_mem _ (List.mem_append_right _ h)) (by decide +kernel))
set_option maxRecDepth 20000 in
theorem gX11_rateBits_X2_bitsOfInverse : GoodIn wsX11_rateBits (va_wsS RX11 167 yX2_bitsOfInverse wsX2_bitsOfInverse) := goodIn_app (goodIn_of _ (by decide +kernel)) ggX11_rateBits_X2_bitsOfInverse
theorem dX11_rateBits_0 : decode cX11_rateBits 0 = .ok (.aload_n 0, 1) := by decide +kernel
theorem dX11_rateBits_1 : decode cX11_rateBits 1 = .ok (.getfield 55, 3) := by decide +kernel
theorem dX11_rateBits_4 : decode cX11_rateBits 4 = .ok (.getfield 164, 3) := by decide +kernel
theorem dX11_rateBits_7 : decode cX11_rateBits 7 = .ok (.invokestatic 167, 3) := by decide +kernel
theorem dX11_rateBits_10 : decode cX11_rateBits 10 = .ok (.ireturn, 1) := by decide +kernel
set_option maxRecDepth 20000 in
theorem ggX11_setRate_X2_exportAllAndSend : GoodIn wsX11_setRate wsX2_exportAllAndSend := goodIn_ca (goodIn_ca (goodIn_r _ [7, 8, 9, 10, 11, 12, 13, 14, 6, 15, 16, 17, 18, 19, 20, 21, 22, 23, 24, 25, 26, 27, 28, 29, 30, 31, 32, 33, 34, 35, 36, 37, 38, 39, 40, 41, 42, 43, 44, 45, 46, 47, 48, 49, 50, 51, 52, 53, 54, 55, 56, 57, 58, 59, 60, 61, 62, 63, 64, 65, 66, 67, 68, 69, 70, 71, 72, 73, 74, 75, 76, 77, 78, 79, 80, 81, 82, 83, 84, 85, 86, 87, 88, 89, 90, 91, 92, 93, 94, 95, 96, 97, 98, 99, 100, 101, 102, 103, 104, 105, 106, 107, 108, 109, 110, 111, 112, 113, 114, 115, 116, 117, 118, 119, 120, 121, 122, 123, 124, 125, 126, 127, 128, 129, 130, 131, 132, 133, 134, 135, 136, 137, 138, 139, 140, 141, 142, 143, 144, 145, 146, 147, 148, 149, 150, 151, 152, 153, 154, 155, 156, 157, 158, 159, 160, 161, 162, 163, 164, 165, 166, 167, 168, 169, 170, 171, 172, 173, 182, 183, 184, 185, 186, 187, 188, 189, 190, 191, 192, 193, 194, 195, 196, 197, 198, 199, 200, 201, 202, 203, 204, 205, 206, 207, 208, 209, 210, 211, 212, 213, 214, 215, 216, 217, 218, 219, 220, 221, 222, 223, 224, 225, 226] (by decide +kernel) (by decide +kernel)) (goodIn_sub (fun _ h => List.mem_cons_of_mem _ (List.mem_append_left _ (List.mem_append_right _ h))) (by decide +kernel))) (goodIn_sub (fun _ h => List.mem_cons_of_mem _ (List.mem_append_right _ h)) (by decide +kernel))
set_option maxRecDepth 20000 in
theorem gX11_setRate_X2_exportAllAndSend : GoodIn wsX11_setRate (wsV RX11 143 RX2 yX2_exportAllAndSend wsX2_exportAllAndSend) := goodIn_app (goodIn_of _ (by decide +kernel)) ggX11_setRate_X2_exportAllAndSend
theorem dX11_setRate_0 : decode cX11_setRate 0 = .ok (.iload_n 1, 1) := by decide +kernel
theorem dX11_setRate_1 : decode cX11_setRate 1 = .ok (.iconst 1, 1) := by decide +kernel
theorem dX11_setRate_2 : decode cX11_setRate 2 = .ok (.if_icmp .lt 10, 3) := by decide +kernel
theorem dX11_setRate_5 : decode cX11_setRate 5 = .ok (.iload_n 1, 1) := by decide +kernel
theorem dX11_setRate_6 : decode cX11_setRate 6 = .ok (.sipush 1024, 3) := by decide +kernel
theorem dX11_setRate_9 : decode cX11_setRate 9 = .ok (.if_icmp .le 5, 3) := by decide +kernel
theorem dX11_setRate_12 : decode cX11_setRate 12 = .ok (.iconst (-1), 1) := by decide +kernel
theorem dX11_setRate_13 : decode cX11_setRate 13 = .ok (.ireturn, 1) := by decide +kernel
theorem dX11_setRate_14 : decode cX11_setRate 14 = .ok (.iload_n 1, 1) := by decide +kernel
theorem dX11_setRate_15 : decode cX11_setRate 15 = .ok (.aload_n 0, 1) := by decide +kernel
theorem dX11_setRate_16 : decode cX11_setRate 16 = .ok (.getfield 55, 3) := by decide +kernel
theorem dX11_setRate_19 : decode cX11_setRate 19 = .ok (.getfield 164, 3) := by decide +kernel
theorem dX11_setRate_22 : decode cX11_setRate 22 = .ok (.if_icmp .ne 5, 3) := by decide +kernel
theorem dX11_setRate_25 : decode cX11_setRate 25 = .ok (.iconst 0, 1) := by decide +kernel
theorem dX11_setRate_26 : decode cX11_setRate 26 = .ok (.ireturn, 1) := by decide +kernel
theorem dX11_setRate_27 : decode cX11_setRate 27 = .ok (.aload_n 0, 1) := by decide +kernel
theorem dX11_setRate_28 : decode cX11_setRate 28 = .ok (.getfield 55, 3) := by decide +kernel
theorem dX11_setRate_31 : decode cX11_setRate 31 = .ok (.invokevirtual 143, 3) := by decide +kernel
theorem dX11_setRate_34 : decode cX11_setRate 34 = .ok (.istore_n 2, 1) := by decide +kernel
theorem dX11_setRate_35 : decode cX11_setRate 35 = .ok (.aload_n 0, 1) := by decide +kernel
theorem dX11_setRate_36 : decode cX11_setRate 36 = .ok (.getfield 55, 3) := by decide +kernel
theorem dX11_setRate_39 : decode cX11_setRate 39 = .ok (.iload_n 1, 1) := by decide +kernel
theorem dX11_setRate_40 : decode cX11_setRate 40 = .ok (.putfield 164, 3) := by decide +kernel
theorem dX11_setRate_43 : decode cX11_setRate 43 = .ok (.iload_n 2, 1) := by decide +kernel
theorem dX11_setRate_44 : decode cX11_setRate 44 = .ok (.ireturn, 1) := by decide +kernel
set_option maxRecDepth 20000 in
theorem ggX11_templateFields_X1_template : GoodIn wsX11_templateFields wsX1_template := goodIn_r _ [15, 16, 29, 30, 31, 32, 33, 34] (by decide +kernel) (by decide +kernel)
set_option maxRecDepth 20000 in
theorem gX11_templateFields_X1_template : GoodIn wsX11_templateFields (wsV RX11 197 RX1 yX1_template wsX1_template) := goodIn_app (goodIn_of _ (by decide +kernel)) ggX11_templateFields_X1_template
theorem dX11_templateFields_5 : decode cX11_templateFields 5 = .ok (.aload_n 0, 1) := by decide +kernel
theorem dX11_templateFields_6 : decode cX11_templateFields 6 = .ok (.getfield 21, 3) := by decide +kernel
theorem dX11_templateFields_9 : decode cX11_templateFields 9 = .ok (.iload_n 1, 1) := by decide +kernel
theorem dX11_templateFields_10 : decode cX11_templateFields 10 = .ok (.invokevirtual 197, 3) := by decide +kernel
theorem dX11_templateFields_13 : decode cX11_templateFields 13 = .ok (.getfield 201, 3) := by decide +kernel
theorem dX11_templateFields_16 : decode cX11_templateFields 16 = .ok (.ireturn, 1) := by decide +kernel
set_option maxRecDepth 20000 in
theorem ggX11_effectiveFields_X1_effective : GoodIn wsX11_effectiveFields wsX1_effective := goodIn_r _ [15, 16, 29, 30, 31, 32, 33, 34] (by decide +kernel) (by decide +kernel)
set_option maxRecDepth 20000 in
theorem gX11_effectiveFields_X1_effective : GoodIn wsX11_effectiveFields (wsV RX11 206 RX1 yX1_effective wsX1_effective) := goodIn_app (goodIn_of _ (by decide +kernel)) ggX11_effectiveFields_X1_effective
theorem dX11_effectiveFields_5 : decode cX11_effectiveFields 5 = .ok (.aload_n 0, 1) := by decide +kernel
theorem dX11_effectiveFields_6 : decode cX11_effectiveFields 6 = .ok (.getfield 21, 3) := by decide +kernel
theorem dX11_effectiveFields_9 : decode cX11_effectiveFields 9 = .ok (.iload_n 1, 1) := by decide +kernel
theorem dX11_effectiveFields_10 : decode cX11_effectiveFields 10 = .ok (.invokevirtual 206, 3) := by decide +kernel
theorem dX11_effectiveFields_13 : decode cX11_effectiveFields 13 = .ok (.getfield 201, 3) := by decide +kernel
theorem dX11_effectiveFields_16 : decode cX11_effectiveFields 16 = .ok (.ireturn, 1) := by decide +kernel
set_option maxRecDepth 20000 in
theorem ggX11_recordLength_X1_effective : GoodIn wsX11_recordLength wsX1_effective := goodIn_r _ [15, 16, 29, 30, 31, 32, 33, 34] (by decide +kernel) (by decide +kernel)
set_option maxRecDepth 20000 in
theorem gX11_recordLength_X1_effective : GoodIn wsX11_recordLength (wsV RX11 206 RX1 yX1_effective wsX1_effective) := goodIn_app (goodIn_of _ (by decide +kernel)) ggX11_recordLength_X1_effective
theorem dX11_recordLength_5 : decode cX11_recordLength 5 = .ok (.aload_n 0, 1) := by decide +kernel
theorem dX11_recordLength_6 : decode cX11_recordLength 6 = .ok (.getfield 21, 3) := by decide +kernel
theorem dX11_recordLength_9 : decode cX11_recordLength 9 = .ok (.iload_n 1, 1) := by decide +kernel
theorem dX11_recordLength_10 : decode cX11_recordLength 10 = .ok (.invokevirtual 206, 3) := by decide +kernel
theorem dX11_recordLength_13 : decode cX11_recordLength 13 = .ok (.getfield 212, 3) := by decide +kernel
theorem dX11_recordLength_16 : decode cX11_recordLength 16 = .ok (.ireturn, 1) := by decide +kernel
set_option maxRecDepth 20000 in
theorem ggX11_isDue_X8_mustSend : GoodIn wsX11_isDue wsX8_mustSend := goodIn_ca (goodIn_r _ [17, 18, 19, 20, 21, 22, 23, 24, 25, 26, 27, 28, 29, 30, 31, 32, 33, 61, 62, 63, 64, 65, 66, 67, 68, 69, 70, 71, 72, 73, 74, 55, 56, 57, 58, 59, 60] (by decide +kernel) (by decide +kernel)) (goodIn_sub (fun _ h => List.mem_cons_of_mem _ (List.mem_append_right _ h)) (by decide +kernel))
set_option maxRecDepth 20000 in
theorem gX11_isDue_X8_mustSend : GoodIn wsX11_isDue (wsV RX11 227 RX8 yX8_mustSend wsX8_mustSend) := goodIn_app (goodIn_of _ (by decide +kernel)) ggX11_isDue_X8_mustSend
theorem dX11_isDue_5 : decode cX11_isDue 5 = .ok (.aload_n 0, 1) := by decide +kernel
theorem dX11_isDue_6 : decode cX11_isDue 6 = .ok (.getfield 46, 3) := by decide +kernel
theorem dX11_isDue_9 : decode cX11_isDue 9 = .ok (.iload_n 1, 1) := by decide +kernel
theorem dX11_isDue_10 : decode cX11_isDue 10 = .ok (.aload_n 0, 1) := by decide +kernel
theorem dX11_isDue_11 : decode cX11_isDue 11 = .ok (.getfield 55, 3) := by decide +kernel
theorem dX11_isDue_14 : decode cX11_isDue 14 = .ok (.getfield 110, 3) := by decide +kernel
theorem dX11_isDue_17 : decode cX11_isDue 17 = .ok (.invokevirtual 227, 3) := by decide +kernel
theorem dX11_isDue_20 : decode cX11_isDue 20 = .ok (.ireturn, 1) := by decide +kernel
set_option maxRecDepth 20000 in
theorem ggX11_receive_X0_take : GoodIn wsX11_receive wsX0_take := goodIn_ca (goodIn_r _ [10, 11, 12, 13, 14, 15, 16, 17, 18, 19, 20, 21, 22, 23, 24, 25, 26, 27, 28, 29, 30, 9, 31, 32, 33, 34, 35, 36, 37, 38, 39, 40, 41, 42, 43, 44, 45, 46, 47, 48, 49, 50, 51, 52, 53, 54, 55, 56, 57, 58, 59, 60, 61, 62, 63, 64, 65, 66, 67, 68, 69, 70, 71, 72, 73, 74, 75, 76, 77, 78, 79, 80, 81, 82, 83, 84, 85, 86, 87, 88, 89, 90, 91, 92, 93, 94, 95, 96, 97, 98, 99, 100, 101, 102, 103, 104, 105, 106, 107, 108, 109, 110, 111, 112, 113, 114, 115, 116, 117, 118, 119, 120, 121, 122, 123, 124, 125, 126, 127, 128, 129, 130, 131, 132, 133, 134, 135, 136, 137, 138, 139, 140, 141, 142, 143, 144, 145, 146, 147, 148, 149, 150, 151, 152, 153, 154, 155, 156, 157, 158, 159, 160, 184, 185, 186, 187, 188, 189, 190, 191, 192, 193, 194, 195, 182, 183, 196, 197, 198, 199, 200, 201, 202, 203, 204, 205, 206, 207, 208, 209, 210] (by decide +kernel) (by decide +kernel)) (goodIn_sub (fun _ h => List.mem_cons_of_mem _ (List.mem_append_right _ h)) (by decide +kernel))
set_option maxRecDepth 20000 in
theorem gX11_receive_X0_take : GoodIn wsX11_receive (wsV RX11 256 RX0 yX0_take wsX0_take) := goodIn_app (goodIn_of _ (by decide +kernel)) ggX11_receive_X0_take
theorem dX11_receive_0 : decode cX11_receive 0 = .ok (.aload_n 0, 1) := by decide +kernel
theorem dX11_receive_1 : decode cX11_receive 1 = .ok (.getfield 71, 3) := by decide +kernel
theorem dX11_receive_4 : decode cX11_receive 4 = .ok (.aload_n 0, 1) := by decide +kernel
theorem dX11_receive_5 : decode cX11_receive 5 = .ok (.getfield 14, 3) := by decide +kernel
theorem dX11_receive_8 : decode cX11_receive 8 = .ok (.aload_n 0, 1) := by decide +kernel
theorem dX11_receive_9 : decode cX11_receive 9 = .ok (.getfield 55, 3) := by decide +kernel
theorem dX11_receive_12 : decode cX11_receive 12 = .ok (.getfield 110, 3) := by decide +kernel
theorem dX11_receive_15 : decode cX11_receive 15 = .ok (.invokevirtual 256, 3) := by decide +kernel
theorem dX11_receive_18 : decode cX11_receive 18 = .ok (.istore_n 1, 1) := by decide +kernel
theorem dX11_receive_19 : decode cX11_receive 19 = .ok (.aload_n 0, 1) := by decide +kernel
theorem dX11_receive_20 : decode cX11_receive 20 = .ok (.getfield 14, 3) := by decide +kernel
theorem dX11_receive_23 : decode cX11_receive 23 = .ok (.iconst 0, 1) := by decide +kernel
theorem dX11_receive_24 : decode cX11_receive 24 = .ok (.putfield 97, 3) := by decide +kernel
theorem dX11_receive_27 : decode cX11_receive 27 = .ok (.iload_n 1, 1) := by decide +kernel
theorem dX11_receive_28 : decode cX11_receive 28 = .ok (.ireturn, 1) := by decide +kernel
set_option maxRecDepth 20000 in
theorem ggX11_knownTemplates_X0_usableTemplates : GoodIn wsX11_knownTemplates wsX0_usableTemplates := goodIn_ca (goodIn_r _ [8, 9, 10, 11, 7, 12, 13, 14, 15, 16, 17, 18, 19, 20, 21, 22, 23, 24, 25, 26, 48, 49, 50, 51, 52, 53, 54, 55, 56, 57, 58, 59, 60, 61, 62, 63, 64, 65, 66, 67, 68, 69] (by decide +kernel) (by decide +kernel)) (goodIn_sub (fun _ h => List.mem_cons_of_mem _ (List.mem_append_right _ h)) (by decide +kernel))
set_option maxRecDepth 20000 in
theorem gX11_knownTemplates_X0_usableTemplates : GoodIn wsX11_knownTemplates (wsV RX11 275 RX0 yX0_usableTemplates wsX0_usableTemplates) := goodIn_app (goodIn_of _ (by decide +kernel)) ggX11_knownTemplates_X0_usableTemplates
theorem dX11_knownTemplates_0 : decode cX11_knownTemplates 0 = .ok (.aload_n 0, 1) := by decide +kernel
theorem dX11_knownTemplates_1 : decode cX11_knownTemplates 1 = .ok (.getfield 71, 3) := by decide +kernel
theorem dX11_knownTemplates_4 : decode cX11_knownTemplates 4 = .ok (.aload_n 0, 1) := by decide +kernel
theorem dX11_knownTemplates_5 : decode cX11_knownTemplates 5 = .ok (.getfield 55, 3) := by decide +kernel
theorem dX11_knownTemplates_8 : decode cX11_knownTemplates 8 = .ok (.getfield 110, 3) := by decide +kernel
theorem dX11_knownTemplates_11 : decode cX11_knownTemplates 11 = .ok (.invokevirtual 275, 3) := by decide +kernel
theorem dX11_knownTemplates_14 : decode cX11_knownTemplates 14 = .ok (.ireturn, 1) := by decide +kernel
set_option maxRecDepth 20000 in
theorem ggX11_templateAge_X0_ageOf : GoodIn wsX11_templateAge wsX0_ageOf := goodIn_ca (goodIn_r _ [10, 11, 12, 13, 35, 36, 37, 38, 39, 40, 41, 42, 43, 44, 45, 46, 47, 48, 49, 50] (by decide +kernel) (by decide +kernel)) (goodIn_sub (fun _ h => List.mem_cons_of_mem _ (List.mem_append_right _ h)) (by decide +kernel))
set_option maxRecDepth 20000 in
theorem gX11_templateAge_X0_ageOf : GoodIn wsX11_templateAge (wsV RX11 278 RX0 yX0_ageOf wsX0_ageOf) := goodIn_app (goodIn_of _ (by decide +kernel)) ggX11_templateAge_X0_ageOf
theorem dX11_templateAge_0 : decode cX11_templateAge 0 = .ok (.iload_n 1, 1) := by decide +kernel
theorem dX11_templateAge_1 : decode cX11_templateAge 1 = .ok (.ifCond .lt 8, 3) := by decide +kernel
theorem dX11_templateAge_4 : decode cX11_templateAge 4 = .ok (.iload_n 1, 1) := by decide +kernel
theorem dX11_templateAge_5 : decode cX11_templateAge 5 = .ok (.iconst 4, 1) := by decide +kernel
theorem dX11_templateAge_6 : decode cX11_templateAge 6 = .ok (.if_icmp .lt 11, 3) := by decide +kernel
theorem dX11_templateAge_17 : decode cX11_templateAge 17 = .ok (.aload_n 0, 1) := by decide +kernel
theorem dX11_templateAge_18 : decode cX11_templateAge 18 = .ok (.getfield 71, 3) := by decide +kernel
theorem dX11_templateAge_21 : decode cX11_templateAge 21 = .ok (.iload_n 1, 1) := by decide +kernel
theorem dX11_templateAge_22 : decode cX11_templateAge 22 = .ok (.aload_n 0, 1) := by decide +kernel
theorem dX11_templateAge_23 : decode cX11_templateAge 23 = .ok (.getfield 55, 3) := by decide +kernel
theorem dX11_templateAge_26 : decode cX11_templateAge 26 = .ok (.getfield 110, 3) := by decide +kernel
theorem dX11_templateAge_29 : decode cX11_templateAge 29 = .ok (.invokevirtual 278, 3) := by decide +kernel
theorem dX11_templateAge_32 : decode cX11_templateAge 32 = .ok (.ireturn, 1) := by decide +kernel
set_option maxRecDepth 20000 in
theorem ggX11_expected_X0_hasStarted : GoodIn wsX11_expected wsX0_hasStarted := goodIn_r _ [9, 10, 19, 20, 21, 22, 23, 24, 25, 26, 27, 28, 29, 30] (by decide +kernel) (by decide +kernel)
set_option maxRecDepth 20000 in
theorem gX11_expected_X0_hasStarted : GoodIn wsX11_expected (wsV RX11 282 RX0 yX0_hasStarted wsX0_hasStarted) := goodIn_app (goodIn_of _ (by decide +kernel)) ggX11_expected_X0_hasStarted
theorem dX11_expected_0 : decode cX11_expected 0 = .ok (.aload_n 0, 1) := by decide +kernel
theorem dX11_expected_1 : decode cX11_expected 1 = .ok (.getfield 71, 3) := by decide +kernel
theorem dX11_expected_4 : decode cX11_expected 4 = .ok (.invokevirtual 282, 3) := by decide +kernel
theorem dX11_expected_7 : decode cX11_expected 7 = .ok (.ifCond .eq 18, 3) := by decide +kernel
theorem dX11_expected_25 : decode cX11_expected 25 = .ok (.ldc2_w 113, 3) := by decide +kernel
theorem dX11_expected_28 : decode cX11_expected 28 = .ok (.lreturn, 1) := by decide +kernel
set_option maxRecDepth 20000 in
theorem ggX11_restartCollector_X0_restart : GoodIn wsX11_restartCollector wsX0_restart := goodIn_r _ [6, 7, 8, 9, 10, 11, 12, 13, 14, 15, 16, 17, 26, 27, 28, 29, 30, 31, 32, 33, 34, 35, 36, 37, 38, 39, 40, 41] (by decide +kernel) (by decide +kernel)
set_option maxRecDepth 20000 in
theorem gX11_restartCollector_X0_restart : GoodIn wsX11_restartCollector (wsV RX11 296 RX0 yX0_restart wsX0_restart) := goodIn_app (goodIn_of _ (by decide +kernel)) ggX11_restartCollector_X0_restart
theorem dX11_restartCollector_0 : decode cX11_restartCollector 0 = .ok (.aload_n 0, 1) := by decide +kernel
theorem dX11_restartCollector_1 : decode cX11_restartCollector 1 = .ok (.getfield 71, 3) := by decide +kernel
theorem dX11_restartCollector_4 : decode cX11_restartCollector 4 = .ok (.invokevirtual 296, 3) := by decide +kernel
theorem dX11_restartCollector_7 : decode cX11_restartCollector 7 = .ok (.ireturn, 1) := by decide +kernel

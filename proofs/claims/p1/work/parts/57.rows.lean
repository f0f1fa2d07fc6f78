set_option maxRecDepth 20000 in
theorem ggX2_addToFlow_X4_flowAt : GoodIn wsX2_addToFlow wsX4_flowAt := goodIn_r _ [42, 12, 135, 136] (by decide +kernel) (by decide +kernel)
set_option maxRecDepth 20000 in
theorem gX2_addToFlow_X4_flowAt : GoodIn wsX2_addToFlow (wsV RX2 98 RX4 yX4_flowAt wsX4_flowAt) := goodIn_app (goodIn_of _ (by decide +kernel)) ggX2_addToFlow_X4_flowAt
theorem dX2_addToFlow_58 : decode cX2_addToFlow 58 = .ok (.aload_n 0, 1) := by decide +kernel
theorem dX2_addToFlow_59 : decode cX2_addToFlow 59 = .ok (.getfield 14, 3) := by decide +kernel
theorem dX2_addToFlow_62 : decode cX2_addToFlow 62 = .ok (.iload 4, 2) := by decide +kernel
theorem dX2_addToFlow_64 : decode cX2_addToFlow 64 = .ok (.invokevirtual 98, 3) := by decide +kernel
set_option maxRecDepth 20000 in
theorem ggX2_tick_X2_exportOld : GoodIn wsX2_tick wsX2_exportOld := goodIn_ca (goodIn_ca (goodIn_r _ [8, 9, 10, 11, 1, 12, 13, 14, 15, 16, 17, 18, 19, 20, 21, 22, 23, 24, 25, 26, 27, 28, 7, 29, 30, 31, 32, 33, 3, 2, 34, 35, 36, 37, 38, 39, 40, 41, 42, 43, 44, 45, 46, 47, 48, 49, 50, 51, 52, 53, 54, 55, 56, 57, 58, 59, 60, 61, 62, 63, 64, 65, 66, 67, 68, 69, 70, 71, 72, 73, 74, 75, 76, 77, 78, 79, 80, 81, 82, 83, 84, 85, 86, 87, 88, 89, 90, 91, 92, 93, 94, 95, 96, 97, 98, 99, 182, 183, 184, 185, 186, 187, 188, 189, 190, 191, 192, 193, 194, 195, 196, 197, 198, 199, 200, 201, 202, 203, 204, 205, 206, 207, 208, 209, 210, 211, 212, 213, 214, 215, 216, 217, 218, 219, 220, 221, 222, 223] (by decide +kernel) (by decide +kernel)) (goodIn_sub (fun _ h => List.mem_cons_of_mem _ (List.mem_append_left _ (List.mem_append_right _ h))) (by decide +kernel))) (goodIn_sub (fun _ h => List.mem_cons_of_mem _ (List.mem_append_right _ h)) (by decide +kernel))
set_option maxRecDepth 20000 in
theorem gX2_tick_X2_exportOld : GoodIn wsX2_tick (wsV RX2 156 RX2 yX2_exportOld wsX2_exportOld) := goodIn_app (goodIn_of _ (by decide +kernel)) ggX2_tick_X2_exportOld
set_option maxRecDepth 20000 in
theorem ggX2_tick_X2_endInterval : GoodIn wsX2_tick wsX2_endInterval := goodIn_ca (goodIn_r _ [103, 31, 104, 9, 105, 2, 14, 15, 16, 17, 18, 19, 182, 183, 184, 185, 186, 187, 188, 189, 190, 191, 192, 193, 194, 202, 203, 204, 205, 206, 207] (by decide +kernel) (by decide +kernel)) (goodIn_sub (fun _ h => List.mem_cons_of_mem _ (List.mem_append_left _ (List.mem_append_right _ h))) (by decide +kernel))
set_option maxRecDepth 20000 in
theorem gX2_tick_X2_endInterval : GoodIn wsX2_tick (wsV RX2 159 RX2 yX2_endInterval wsX2_endInterval) := goodIn_app (goodIn_of _ (by decide +kernel)) ggX2_tick_X2_endInterval
set_option maxRecDepth 20000 in
theorem ggX2_tick_X8_sendPending : GoodIn wsX2_tick wsX8_sendPending := goodIn_ca (goodIn_r _ [113, 65, 66, 67, 114, 115, 69, 116, 117, 118, 63, 119, 120, 121, 122, 123, 124, 125, 126, 127, 128, 129, 130, 131, 132, 133, 134, 93, 94, 95, 96, 97, 98, 99, 135, 136, 137, 138, 139, 140, 141, 142, 143, 144, 145, 146, 68, 71, 52, 53, 17, 54, 55, 147, 15, 16, 18, 19, 148, 149, 150, 151, 72, 73, 74, 75, 76, 77, 78, 89, 90, 91, 92, 152, 153, 154, 155, 156, 157, 158, 159, 160, 161, 162, 163, 164, 165, 166, 167, 168, 169, 170, 171, 172, 173, 174, 175, 176, 177, 178, 179, 180, 181, 212, 213, 214, 215, 216, 217, 218, 219, 220, 221, 208, 209, 210, 211, 222, 223, 224, 225, 226, 202, 203, 204, 205, 206, 207] (by decide +kernel) (by decide +kernel)) (goodIn_sub (fun _ h => List.mem_cons_of_mem _ (List.mem_append_left _ (List.mem_append_right _ h))) (by decide +kernel))
set_option maxRecDepth 20000 in
theorem gX2_tick_X8_sendPending : GoodIn wsX2_tick (wsV RX2 82 RX8 yX8_sendPending wsX8_sendPending) := goodIn_app (goodIn_of _ (by decide +kernel)) ggX2_tick_X8_sendPending
theorem dX2_tick_0 : decode cX2_tick 0 = .ok (.aload_n 0, 1) := by decide +kernel
theorem dX2_tick_1 : decode cX2_tick 1 = .ok (.dup, 1) := by decide +kernel
theorem dX2_tick_2 : decode cX2_tick 2 = .ok (.getfield 23, 3) := by decide +kernel
theorem dX2_tick_5 : decode cX2_tick 5 = .ok (.iconst 1, 1) := by decide +kernel
theorem dX2_tick_6 : decode cX2_tick 6 = .ok (.iadd, 1) := by decide +kernel
theorem dX2_tick_7 : decode cX2_tick 7 = .ok (.putfield 23, 3) := by decide +kernel
theorem dX2_tick_10 : decode cX2_tick 10 = .ok (.aload_n 0, 1) := by decide +kernel
theorem dX2_tick_11 : decode cX2_tick 11 = .ok (.invokevirtual 156, 3) := by decide +kernel
theorem dX2_tick_14 : decode cX2_tick 14 = .ok (.aload_n 0, 1) := by decide +kernel
theorem dX2_tick_15 : decode cX2_tick 15 = .ok (.getfield 23, 3) := by decide +kernel
theorem dX2_tick_18 : decode cX2_tick 18 = .ok (.bipush 100, 2) := by decide +kernel
theorem dX2_tick_20 : decode cX2_tick 20 = .ok (.irem, 1) := by decide +kernel
theorem dX2_tick_21 : decode cX2_tick 21 = .ok (.ifCond .ne 10, 3) := by decide +kernel
theorem dX2_tick_24 : decode cX2_tick 24 = .ok (.aload_n 0, 1) := by decide +kernel
theorem dX2_tick_25 : decode cX2_tick 25 = .ok (.invokevirtual 159, 3) := by decide +kernel
theorem dX2_tick_28 : decode cX2_tick 28 = .ok (.goto 7, 3) := by decide +kernel
theorem dX2_tick_31 : decode cX2_tick 31 = .ok (.aload_n 0, 1) := by decide +kernel
theorem dX2_tick_32 : decode cX2_tick 32 = .ok (.getfield 27, 3) := by decide +kernel
theorem dX2_tick_35 : decode cX2_tick 35 = .ok (.istore_n 1, 1) := by decide +kernel
theorem dX2_tick_36 : decode cX2_tick 36 = .ok (.iload_n 1, 1) := by decide +kernel
theorem dX2_tick_37 : decode cX2_tick 37 = .ok (.aload_n 0, 1) := by decide +kernel
theorem dX2_tick_38 : decode cX2_tick 38 = .ok (.getfield 27, 3) := by decide +kernel
theorem dX2_tick_41 : decode cX2_tick 41 = .ok (.if_icmp .eq 12, 3) := by decide +kernel
theorem dX2_tick_53 : decode cX2_tick 53 = .ok (.aload_n 0, 1) := by decide +kernel
theorem dX2_tick_54 : decode cX2_tick 54 = .ok (.getfield 57, 3) := by decide +kernel
theorem dX2_tick_57 : decode cX2_tick 57 = .ok (.aload_n 0, 1) := by decide +kernel
theorem dX2_tick_58 : decode cX2_tick 58 = .ok (.getfield 23, 3) := by decide +kernel
theorem dX2_tick_61 : decode cX2_tick 61 = .ok (.invokevirtual 82, 3) := by decide +kernel
theorem dX2_tick_64 : decode cX2_tick 64 = .ok (.return_, 1) := by decide +kernel
set_option maxRecDepth 20000 in
theorem ggX2_exportOld_X1_get : GoodIn wsX2_exportOld wsX1_get := goodIn_ca (goodIn_r _ [11, 12, 116, 117, 118, 119, 120, 121] (by decide +kernel) (by decide +kernel)) (goodIn_sub (fun _ h => List.mem_cons_of_mem _ (List.mem_append_left _ (List.mem_append_right _ h))) (by decide +kernel))
set_option maxRecDepth 20000 in
theorem gX2_exportOld_X1_get : GoodIn wsX2_exportOld (wsV RX2 64 RX1 yX1_get wsX1_get) := goodIn_app (goodIn_of _ (by decide +kernel)) ggX2_exportOld_X1_get
theorem dX2_exportOld_0 : decode cX2_exportOld 0 = .ok (.aload_n 0, 1) := by decide +kernel
theorem dX2_exportOld_1 : decode cX2_exportOld 1 = .ok (.getfield 53, 3) := by decide +kernel
theorem dX2_exportOld_4 : decode cX2_exportOld 4 = .ok (.iconst 2, 1) := by decide +kernel
theorem dX2_exportOld_5 : decode cX2_exportOld 5 = .ok (.invokevirtual 64, 3) := by decide +kernel
theorem dX2_exportOld_8 : decode cX2_exportOld 8 = .ok (.istore_n 1, 1) := by decide +kernel
theorem dX2_exportOld_9 : decode cX2_exportOld 9 = .ok (.aload_n 0, 1) := by decide +kernel
theorem dX2_exportOld_10 : decode cX2_exportOld 10 = .ok (.getfield 53, 3) := by decide +kernel
theorem dX2_exportOld_13 : decode cX2_exportOld 13 = .ok (.iconst 3, 1) := by decide +kernel
theorem dX2_exportOld_14 : decode cX2_exportOld 14 = .ok (.invokevirtual 64, 3) := by decide +kernel
theorem dX2_exportOld_17 : decode cX2_exportOld 17 = .ok (.istore_n 2, 1) := by decide +kernel
theorem dX2_exportOld_18 : decode cX2_exportOld 18 = .ok (.iconst 0, 1) := by decide +kernel
theorem dX2_exportOld_19 : decode cX2_exportOld 19 = .ok (.istore_n 3, 1) := by decide +kernel
theorem dX2_exportOld_20 : decode cX2_exportOld 20 = .ok (.aload_n 0, 1) := by decide +kernel
theorem dX2_exportOld_21 : decode cX2_exportOld 21 = .ok (.getfield 14, 3) := by decide +kernel
theorem dX2_exportOld_24 : decode cX2_exportOld 24 = .ok (.getfield 61, 3) := by decide +kernel
theorem dX2_exportOld_27 : decode cX2_exportOld 27 = .ok (.istore 4, 2) := by decide +kernel
theorem dX2_exportOld_29 : decode cX2_exportOld 29 = .ok (.iload 4, 2) := by decide +kernel
theorem dX2_exportOld_31 : decode cX2_exportOld 31 = .ok (.ifCond .le 58, 3) := by decide +kernel
theorem dX2_exportOld_89 : decode cX2_exportOld 89 = .ok (.return_, 1) := by decide +kernel
set_option maxRecDepth 20000 in
theorem ggX2_endInterval_X1_get : GoodIn wsX2_endInterval wsX1_get := goodIn_ca (goodIn_r _ [10, 11, 25, 26, 27, 28, 29, 30] (by decide +kernel) (by decide +kernel)) (goodIn_sub (fun _ h => List.mem_cons_of_mem _ (List.mem_append_right _ h)) (by decide +kernel))
set_option maxRecDepth 20000 in
theorem gX2_endInterval_X1_get : GoodIn wsX2_endInterval (wsV RX2 64 RX1 yX1_get wsX1_get) := goodIn_app (goodIn_of _ (by decide +kernel)) ggX2_endInterval_X1_get
theorem dX2_endInterval_0 : decode cX2_endInterval 0 = .ok (.aload_n 0, 1) := by decide +kernel
theorem dX2_endInterval_1 : decode cX2_endInterval 1 = .ok (.getfield 37, 3) := by decide +kernel
theorem dX2_endInterval_4 : decode cX2_endInterval 4 = .ok (.aload_n 0, 1) := by decide +kernel
theorem dX2_endInterval_5 : decode cX2_endInterval 5 = .ok (.getfield 40, 3) := by decide +kernel
theorem dX2_endInterval_8 : decode cX2_endInterval 8 = .ok (.isub, 1) := by decide +kernel
theorem dX2_endInterval_9 : decode cX2_endInterval 9 = .ok (.istore_n 1, 1) := by decide +kernel
theorem dX2_endInterval_10 : decode cX2_endInterval 10 = .ok (.aload_n 0, 1) := by decide +kernel
theorem dX2_endInterval_11 : decode cX2_endInterval 11 = .ok (.aload_n 0, 1) := by decide +kernel
theorem dX2_endInterval_12 : decode cX2_endInterval 12 = .ok (.getfield 37, 3) := by decide +kernel
theorem dX2_endInterval_15 : decode cX2_endInterval 15 = .ok (.putfield 40, 3) := by decide +kernel
theorem dX2_endInterval_18 : decode cX2_endInterval 18 = .ok (.aload_n 0, 1) := by decide +kernel
theorem dX2_endInterval_19 : decode cX2_endInterval 19 = .ok (.getfield 53, 3) := by decide +kernel
theorem dX2_endInterval_22 : decode cX2_endInterval 22 = .ok (.iconst 1, 1) := by decide +kernel
theorem dX2_endInterval_23 : decode cX2_endInterval 23 = .ok (.invokevirtual 64, 3) := by decide +kernel
theorem dX2_endInterval_26 : decode cX2_endInterval 26 = .ok (.istore_n 2, 1) := by decide +kernel
theorem dX2_endInterval_27 : decode cX2_endInterval 27 = .ok (.aload_n 0, 1) := by decide +kernel
theorem dX2_endInterval_28 : decode cX2_endInterval 28 = .ok (.getfield 33, 3) := by decide +kernel
theorem dX2_endInterval_31 : decode cX2_endInterval 31 = .ok (.ifCond .eq 25, 3) := by decide +kernel
theorem dX2_endInterval_56 : decode cX2_endInterval 56 = .ok (.aload_n 0, 1) := by decide +kernel
theorem dX2_endInterval_57 : decode cX2_endInterval 57 = .ok (.getfield 33, 3) := by decide +kernel
theorem dX2_endInterval_60 : decode cX2_endInterval 60 = .ok (.ifCond .eq 25, 3) := by decide +kernel
theorem dX2_endInterval_85 : decode cX2_endInterval 85 = .ok (.aload_n 0, 1) := by decide +kernel
theorem dX2_endInterval_86 : decode cX2_endInterval 86 = .ok (.getfield 27, 3) := by decide +kernel
theorem dX2_endInterval_89 : decode cX2_endInterval 89 = .ok (.ireturn, 1) := by decide +kernel
theorem dX4_indexOf_10 : decode cX4_indexOf 10 = .ok (.aload_n 0, 1) := by decide +kernel
theorem dX4_indexOf_11 : decode cX4_indexOf 11 = .ok (.getfield 23, 3) := by decide +kernel
theorem dX4_indexOf_14 : decode cX4_indexOf 14 = .ok (.iload_n 3, 1) := by decide +kernel
theorem dX4_indexOf_15 : decode cX4_indexOf 15 = .ok (.aaload, 1) := by decide +kernel
theorem dX4_indexOf_16 : decode cX4_indexOf 16 = .ok (.getfield 28, 3) := by decide +kernel
theorem dX4_indexOf_19 : decode cX4_indexOf 19 = .ok (.lload_n 1, 1) := by decide +kernel
theorem dX4_indexOf_20 : decode cX4_indexOf 20 = .ok (.lcmp, 1) := by decide +kernel
theorem dX4_indexOf_21 : decode cX4_indexOf 21 = .ok (.ifCond .ne 5, 3) := by decide +kernel
theorem dX4_indexOf_24 : decode cX4_indexOf 24 = .ok (.iload_n 3, 1) := by decide +kernel
theorem dX4_indexOf_25 : decode cX4_indexOf 25 = .ok (.ireturn, 1) := by decide +kernel
theorem dX10_field_21 : decode cX10_field 21 = .ok (.iconst (-1), 1) := by decide +kernel
set_option maxRecDepth 20000 in
theorem ggX11_observe_X3_keyOf : GoodIn wsX11_observe wsX3_keyOf := goodIn_r _ [5, 6, 7] (by decide +kernel) (by decide +kernel)
set_option maxRecDepth 20000 in
theorem gX11_observe_X3_keyOf : GoodIn wsX11_observe (va_wsS RX11 119 yX3_keyOf wsX3_keyOf) := goodIn_app (goodIn_of _ (by decide +kernel)) ggX11_observe_X3_keyOf
set_option maxRecDepth 20000 in
theorem ggX11_observe_X11_requirePackets : GoodIn wsX11_observe wsX11_requirePackets := goodIn_ca (goodIn_r _ [11, 12, 13, 14, 15] (by decide +kernel) (by decide +kernel)) (goodIn_sub (fun _ h => List.mem_cons_of_mem _ (List.mem_append_left _ (List.mem_append_left _ (List.mem_append_right _ h)))) (by decide +kernel))
set_option maxRecDepth 20000 in
theorem gX11_observe_X11_requirePackets : GoodIn wsX11_observe (va_wsS RX11 125 yX11_requirePackets wsX11_requirePackets) := goodIn_app (goodIn_of _ (by decide +kernel)) ggX11_observe_X11_requirePackets
set_option maxRecDepth 20000 in
theorem ggX11_observe_X2_takePackets : GoodIn wsX11_observe wsX2_takePackets := goodIn_ca (goodIn_ca (goodIn_r _ [20, 21, 22, 23, 24, 25, 26, 27, 19, 28, 29, 30, 31, 32, 33, 34, 35, 36, 37, 38, 39, 40, 41, 42, 43, 44, 45, 46, 47, 48, 49, 50, 51, 52, 53, 54, 55, 56, 57, 58, 4, 59, 60, 61, 62, 63, 64, 65, 66, 67, 68, 69, 70, 71, 72, 73, 74, 75, 76, 77, 78, 79, 80, 81, 82, 83, 84, 85, 86, 87, 88, 89, 90, 91, 92, 93, 94, 95, 96, 97, 98, 99, 100, 101, 102, 103, 104, 105, 106, 107, 108, 109, 110, 111, 112, 113, 114, 115, 116, 117, 118, 119, 120, 121, 122, 123, 124, 125, 126, 127, 128, 129, 130, 131, 132, 133, 134, 135, 136, 137, 138, 139, 140, 141, 142, 10, 143, 144, 145, 146, 147, 148, 149, 150, 151, 152, 153, 154, 155, 156, 157, 158, 159, 160, 161, 162, 163, 164, 165, 166, 167, 168, 169, 170, 171, 172, 173, 174, 175, 176, 177, 178, 179, 180, 181, 182, 183, 184, 185, 186, 187, 188, 189, 190, 191, 192, 193, 194, 195, 196, 197, 198, 199, 200, 201, 202, 203, 204, 205, 206, 207, 208, 209, 210, 211, 212, 213, 214, 215, 216, 217, 218, 219, 220, 221, 222, 223, 224, 233, 234, 235, 236, 237, 238, 239, 240, 241, 242, 243, 244, 245, 246, 247, 248, 249, 250, 251, 252, 253, 254, 255, 256, 257, 258, 259, 260, 261, 262, 263, 264, 265, 266, 267, 268, 269, 270, 271, 272, 273, 274, 275, 276, 277] (by decide +kernel) (by decide +kernel)) (goodIn_sub (fun _ h => List.mem_cons_of_mem _ (List.mem_append_left _ (List.mem_append_right _ h))) (by decide +kernel))) (goodIn_sub (fun _ h => List.mem_cons_of_mem _ (List.mem_append_right _ h)) (by decide +kernel))
set_option maxRecDepth 20000 in
theorem gX11_observe_X2_takePackets : GoodIn wsX11_observe (wsV RX11 129 RX2 yX2_takePackets wsX2_takePackets) := goodIn_app (goodIn_of _ (by decide +kernel)) ggX11_observe_X2_takePackets
theorem dX11_observe_0 : decode cX11_observe 0 = .ok (.iload_n 1, 1) := by decide +kernel
theorem dX11_observe_1 : decode cX11_observe 1 = .ok (.iload_n 2, 1) := by decide +kernel
theorem dX11_observe_2 : decode cX11_observe 2 = .ok (.iload_n 3, 1) := by decide +kernel
theorem dX11_observe_3 : decode cX11_observe 3 = .ok (.iload 4, 2) := by decide +kernel
theorem dX11_observe_5 : decode cX11_observe 5 = .ok (.invokestatic 119, 3) := by decide +kernel
theorem dX11_observe_8 : decode cX11_observe 8 = .ok (.lstore 6, 2) := by decide +kernel
theorem dX11_observe_10 : decode cX11_observe 10 = .ok (.lload 6, 2) := by decide +kernel
theorem dX11_observe_12 : decode cX11_observe 12 = .ok (.iload 5, 2) := by decide +kernel
theorem dX11_observe_14 : decode cX11_observe 14 = .ok (.iconst 1, 1) := by decide +kernel
theorem dX11_observe_15 : decode cX11_observe 15 = .ok (.invokestatic 125, 3) := by decide +kernel
theorem dX11_observe_18 : decode cX11_observe 18 = .ok (.aload_n 0, 1) := by decide +kernel
theorem dX11_observe_19 : decode cX11_observe 19 = .ok (.getfield 55, 3) := by decide +kernel
theorem dX11_observe_22 : decode cX11_observe 22 = .ok (.lload 6, 2) := by decide +kernel
theorem dX11_observe_24 : decode cX11_observe 24 = .ok (.iload 5, 2) := by decide +kernel
theorem dX11_observe_26 : decode cX11_observe 26 = .ok (.iconst 1, 1) := by decide +kernel
theorem dX11_observe_27 : decode cX11_observe 27 = .ok (.invokevirtual 129, 3) := by decide +kernel
theorem dX11_observe_30 : decode cX11_observe 30 = .ok (.iconst 1, 1) := by decide +kernel
theorem dX11_observe_31 : decode cX11_observe 31 = .ok (.if_icmp .ne 7, 3) := by decide +kernel
theorem dX11_observe_34 : decode cX11_observe 34 = .ok (.iconst 1, 1) := by decide +kernel
theorem dX11_observe_35 : decode cX11_observe 35 = .ok (.goto 4, 3) := by decide +kernel
theorem dX11_observe_39 : decode cX11_observe 39 = .ok (.ireturn, 1) := by decide +kernel
set_option maxRecDepth 20000 in
theorem ggX11_observeMany_X3_keyOf : GoodIn wsX11_observeMany wsX3_keyOf := goodIn_r _ [5, 6, 7] (by decide +kernel) (by decide +kernel)
set_option maxRecDepth 20000 in
theorem gX11_observeMany_X3_keyOf : GoodIn wsX11_observeMany (va_wsS RX11 119 yX3_keyOf wsX3_keyOf) := goodIn_app (goodIn_of _ (by decide +kernel)) ggX11_observeMany_X3_keyOf
set_option maxRecDepth 20000 in
theorem ggX11_observeMany_X11_requirePackets : GoodIn wsX11_observeMany wsX11_requirePackets := goodIn_ca (goodIn_r _ [11, 12, 13, 14, 15] (by decide +kernel) (by decide +kernel)) (goodIn_sub (fun _ h => List.mem_cons_of_mem _ (List.mem_append_left _ (List.mem_append_left _ (List.mem_append_right _ h)))) (by decide +kernel))
set_option maxRecDepth 20000 in
theorem gX11_observeMany_X11_requirePackets : GoodIn wsX11_observeMany (va_wsS RX11 125 yX11_requirePackets wsX11_requirePackets) := goodIn_app (goodIn_of _ (by decide +kernel)) ggX11_observeMany_X11_requirePackets
set_option maxRecDepth 20000 in
theorem ggX11_observeMany_X2_takePackets : GoodIn wsX11_observeMany wsX2_takePackets := goodIn_ca (goodIn_ca (goodIn_r _ [20, 21, 22, 23, 24, 25, 26, 27, 19, 28, 29, 30, 31, 32, 33, 34, 35, 36, 37, 38, 39, 40, 41, 42, 43, 44, 45, 46, 47, 48, 49, 50, 51, 52, 53, 54, 55, 56, 57, 58, 4, 59, 60, 61, 62, 63, 64, 65, 66, 67, 68, 69, 70, 71, 72, 73, 74, 75, 76, 77, 78, 79, 80, 81, 82, 83, 84, 85, 86, 87, 88, 89, 90, 91, 92, 93, 94, 95, 96, 97, 98, 99, 100, 101, 102, 103, 104, 105, 106, 107, 108, 109, 110, 111, 112, 113, 114, 115, 116, 117, 118, 119, 120, 121, 122, 123, 124, 125, 126, 127, 128, 129, 130, 131, 132, 133, 134, 135, 136, 137, 138, 139, 140, 141, 142, 10, 143, 144, 145, 146, 147, 148, 149, 150, 151, 152, 153, 154, 155, 156, 157, 158, 159, 160, 161, 162, 163, 164, 165, 166, 167, 168, 169, 170, 171, 172, 173, 174, 175, 176, 177, 178, 179, 180, 181, 182, 183, 184, 185, 186, 187, 188, 189, 190, 191, 192, 193, 194, 195, 196, 197, 198, 199, 200, 201, 202, 203, 204, 205, 206, 207, 208, 209, 210, 211, 212, 213, 214, 215, 216, 217, 218, 219, 220, 221, 222, 223, 224, 233, 234, 235, 236, 237, 238, 239, 240, 241, 242, 243, 244, 245, 246, 247, 248, 249, 250, 251, 252, 253, 254, 255, 256, 257, 258, 259, 260, 261, 262, 263, 264, 265, 266, 267, 268, 269, 270, 271, 272, 273, 274, 275, 276, 277] (by decide +kernel) (by decide +kernel)) (goodIn_sub (fun _ h => List.mem_cons_of_mem _ (List.mem_append_left _ (List.mem_append_right _ h))) (by decide +kernel))) (goodIn_sub (fun _ h => List.mem_cons_of_mem _ (List.mem_append_right _ h)) (by decide +kernel))
set_option maxRecDepth 20000 in
theorem gX11_observeMany_X2_takePackets : GoodIn wsX11_observeMany (wsV RX11 129 RX2 yX2_takePackets wsX2_takePackets) := goodIn_app (goodIn_of _ (by decide +kernel)) ggX11_observeMany_X2_takePackets
theorem dX11_observeMany_0 : decode cX11_observeMany 0 = .ok (.iload_n 1, 1) := by decide +kernel
theorem dX11_observeMany_1 : decode cX11_observeMany 1 = .ok (.iload_n 2, 1) := by decide +kernel
theorem dX11_observeMany_2 : decode cX11_observeMany 2 = .ok (.iload_n 3, 1) := by decide +kernel
theorem dX11_observeMany_3 : decode cX11_observeMany 3 = .ok (.iload 4, 2) := by decide +kernel
theorem dX11_observeMany_5 : decode cX11_observeMany 5 = .ok (.invokestatic 119, 3) := by decide +kernel
theorem dX11_observeMany_8 : decode cX11_observeMany 8 = .ok (.lstore 7, 2) := by decide +kernel
theorem dX11_observeMany_10 : decode cX11_observeMany 10 = .ok (.lload 7, 2) := by decide +kernel
theorem dX11_observeMany_12 : decode cX11_observeMany 12 = .ok (.iload 5, 2) := by decide +kernel
theorem dX11_observeMany_14 : decode cX11_observeMany 14 = .ok (.iload 6, 2) := by decide +kernel
theorem dX11_observeMany_16 : decode cX11_observeMany 16 = .ok (.invokestatic 125, 3) := by decide +kernel
theorem dX11_observeMany_19 : decode cX11_observeMany 19 = .ok (.aload_n 0, 1) := by decide +kernel
theorem dX11_observeMany_20 : decode cX11_observeMany 20 = .ok (.getfield 55, 3) := by decide +kernel
theorem dX11_observeMany_23 : decode cX11_observeMany 23 = .ok (.lload 7, 2) := by decide +kernel
theorem dX11_observeMany_25 : decode cX11_observeMany 25 = .ok (.iload 5, 2) := by decide +kernel
theorem dX11_observeMany_27 : decode cX11_observeMany 27 = .ok (.iload 6, 2) := by decide +kernel
theorem dX11_observeMany_29 : decode cX11_observeMany 29 = .ok (.invokevirtual 129, 3) := by decide +kernel
theorem dX11_observeMany_32 : decode cX11_observeMany 32 = .ok (.ireturn, 1) := by decide +kernel
set_option maxRecDepth 20000 in
theorem ggX11_advance_X2_tick : GoodIn wsX11_advance wsX2_tick := goodIn_ca (goodIn_ca (goodIn_r _ [13, 14, 15, 16, 17, 18, 19, 12, 20, 21, 22, 23, 24, 25, 26, 27, 28, 29, 30, 31, 32, 33, 34, 35, 36, 37, 38, 39, 40, 41, 42, 43, 44, 45, 46, 47, 48, 49, 50, 51, 52, 53, 54, 55, 56, 57, 58, 59, 60, 61, 62, 63, 64, 65, 66, 67, 68, 69, 70, 71, 72, 73, 74, 75, 76, 77, 78, 79, 80, 81, 82, 83, 84, 85, 86, 87, 88, 89, 90, 91, 92, 93, 94, 95, 96, 97, 98, 99, 100, 101, 102, 103, 104, 105, 106, 107, 108, 109, 110, 111, 112, 113, 114, 115, 116, 117, 118, 119, 120, 121, 122, 123, 124, 125, 126, 127, 128, 129, 130, 131, 132, 133, 134, 135, 136, 137, 138, 139, 140, 141, 142, 143, 144, 145, 146, 147, 148, 149, 150, 151, 152, 153, 154, 155, 156, 157, 158, 159, 160, 161, 162, 163, 164, 165, 166, 167, 168, 169, 170, 171, 172, 173, 174, 175, 176, 177, 178, 179, 180, 181, 182, 183, 184, 185, 186, 187, 188, 189, 190, 191, 192, 193, 202, 203, 204, 205, 206, 207, 208, 209, 210, 211, 212, 213, 214, 215, 216, 217, 218, 219, 220, 221, 222, 223, 224, 225, 226, 227, 228, 229, 230, 231, 232, 233, 234, 235, 236, 237, 238, 239, 240, 241, 242, 243, 244, 245, 246] (by decide +kernel) (by decide +kernel)) (goodIn_sub (fun _ h => List.mem_cons_of_mem _ (List.mem_append_left _ (List.mem_append_right _ h))) (by decide +kernel))) (goodIn_sub (fun _ h => List.mem_cons_of_mem _ (List.mem_append_right _ h)) (by decide +kernel))
set_option maxRecDepth 20000 in
theorem gX11_advance_X2_tick : GoodIn wsX11_advance (wsV RX11 140 RX2 yX2_tick wsX2_tick) := goodIn_app (goodIn_of _ (by decide +kernel)) ggX11_advance_X2_tick
theorem dX11_advance_0 : decode cX11_advance 0 = .ok (.iload_n 1, 1) := by decide +kernel
theorem dX11_advance_1 : decode cX11_advance 1 = .ok (.iconst 1, 1) := by decide +kernel
theorem dX11_advance_2 : decode cX11_advance 2 = .ok (.if_icmp .lt 10, 3) := by decide +kernel
theorem dX11_advance_5 : decode cX11_advance 5 = .ok (.iload_n 1, 1) := by decide +kernel
theorem dX11_advance_6 : decode cX11_advance 6 = .ok (.sipush 1000, 3) := by decide +kernel
theorem dX11_advance_9 : decode cX11_advance 9 = .ok (.if_icmp .le 11, 3) := by decide +kernel
theorem dX11_advance_12 : decode cX11_advance 12 = .ok (.new 116, 3) := by decide +kernel
theorem dX11_advance_15 : decode cX11_advance 15 = .ok (.dup, 1) := by decide +kernel
theorem dX11_advance_16 : decode cX11_advance 16 = .ok (.invokespecial 118, 3) := by decide +kernel
theorem dX11_advance_19 : decode cX11_advance 19 = .ok (.athrow, 1) := by decide +kernel
theorem dX11_advance_20 : decode cX11_advance 20 = .ok (.aload_n 0, 1) := by decide +kernel
theorem dX11_advance_21 : decode cX11_advance 21 = .ok (.getfield 55, 3) := by decide +kernel
theorem dX11_advance_24 : decode cX11_advance 24 = .ok (.getfield 110, 3) := by decide +kernel
theorem dX11_advance_27 : decode cX11_advance 27 = .ok (.iload_n 1, 1) := by decide +kernel
theorem dX11_advance_28 : decode cX11_advance 28 = .ok (.iadd, 1) := by decide +kernel
theorem dX11_advance_29 : decode cX11_advance 29 = .ok (.ldc 133, 2) := by decide +kernel
theorem dX11_advance_31 : decode cX11_advance 31 = .ok (.if_icmp .le 11, 3) := by decide +kernel
theorem dX11_advance_42 : decode cX11_advance 42 = .ok (.aload_n 0, 1) := by decide +kernel
theorem dX11_advance_43 : decode cX11_advance 43 = .ok (.getfield 55, 3) := by decide +kernel
theorem dX11_advance_46 : decode cX11_advance 46 = .ok (.getfield 137, 3) := by decide +kernel
theorem dX11_advance_49 : decode cX11_advance 49 = .ok (.istore_n 2, 1) := by decide +kernel
theorem dX11_advance_50 : decode cX11_advance 50 = .ok (.iconst 0, 1) := by decide +kernel
theorem dX11_advance_51 : decode cX11_advance 51 = .ok (.istore_n 3, 1) := by decide +kernel
theorem dX11_advance_52 : decode cX11_advance 52 = .ok (.iload_n 3, 1) := by decide +kernel
theorem dX11_advance_53 : decode cX11_advance 53 = .ok (.iload_n 1, 1) := by decide +kernel
theorem dX11_advance_54 : decode cX11_advance 54 = .ok (.if_icmp .ge 16, 3) := by decide +kernel
theorem dX11_advance_57 : decode cX11_advance 57 = .ok (.aload_n 0, 1) := by decide +kernel
theorem dX11_advance_58 : decode cX11_advance 58 = .ok (.getfield 55, 3) := by decide +kernel
theorem dX11_advance_61 : decode cX11_advance 61 = .ok (.invokevirtual 140, 3) := by decide +kernel
theorem dX11_advance_64 : decode cX11_advance 64 = .ok (.iinc 3 1, 3) := by decide +kernel
theorem dX11_advance_67 : decode cX11_advance 67 = .ok (.goto (-15), 3) := by decide +kernel
theorem dX11_advance_70 : decode cX11_advance 70 = .ok (.aload_n 0, 1) := by decide +kernel
theorem dX11_advance_71 : decode cX11_advance 71 = .ok (.getfield 55, 3) := by decide +kernel
theorem dX11_advance_74 : decode cX11_advance 74 = .ok (.getfield 137, 3) := by decide +kernel
theorem dX11_advance_77 : decode cX11_advance 77 = .ok (.iload_n 2, 1) := by decide +kernel
theorem dX11_advance_78 : decode cX11_advance 78 = .ok (.isub, 1) := by decide +kernel
theorem dX11_advance_79 : decode cX11_advance 79 = .ok (.ireturn, 1) := by decide +kernel
set_option maxRecDepth 20000 in
theorem ggX11_fieldAt_X1_template : GoodIn wsX11_fieldAt wsX1_template := goodIn_r _ [14, 15, 31, 32, 33, 34, 35, 36] (by decide +kernel) (by decide +kernel)
set_option maxRecDepth 20000 in
theorem gX11_fieldAt_X1_template : GoodIn wsX11_fieldAt (wsV RX11 197 RX1 yX1_template wsX1_template) := goodIn_app (goodIn_of _ (by decide +kernel)) ggX11_fieldAt_X1_template
set_option maxRecDepth 20000 in
theorem ggX11_fieldAt_X10_field : GoodIn wsX11_fieldAt wsX10_field := goodIn_ca (goodIn_r _ [20, 21, 22, 37, 38, 39, 40] (by decide +kernel) (by decide +kernel)) (goodIn_sub (fun _ h => List.mem_cons_of_mem _ (List.mem_append_right _ h)) (by decide +kernel))
set_option maxRecDepth 20000 in
theorem gX11_fieldAt_X10_field : GoodIn wsX11_fieldAt (wsV RX11 209 RX10 yX10_field wsX10_field) := goodIn_app (goodIn_of _ (by decide +kernel)) ggX11_fieldAt_X10_field
theorem dX11_fieldAt_5 : decode cX11_fieldAt 5 = .ok (.aload_n 0, 1) := by decide +kernel
theorem dX11_fieldAt_6 : decode cX11_fieldAt 6 = .ok (.getfield 21, 3) := by decide +kernel
theorem dX11_fieldAt_9 : decode cX11_fieldAt 9 = .ok (.iload_n 1, 1) := by decide +kernel
theorem dX11_fieldAt_10 : decode cX11_fieldAt 10 = .ok (.invokevirtual 197, 3) := by decide +kernel
theorem dX11_fieldAt_13 : decode cX11_fieldAt 13 = .ok (.iload_n 2, 1) := by decide +kernel
theorem dX11_fieldAt_14 : decode cX11_fieldAt 14 = .ok (.invokevirtual 209, 3) := by decide +kernel
theorem dX11_fieldAt_17 : decode cX11_fieldAt 17 = .ok (.ireturn, 1) := by decide +kernel

set_option maxRecDepth 20000 in
theorem ggX11_observe_X3_keyOf : GoodIn wsX11_observe wsX3_keyOf := goodIn_r _ [5, 6, 7] rfl (by decide +kernel)
set_option maxRecDepth 20000 in
theorem gX11_observe_X3_keyOf : GoodIn wsX11_observe (va_wsS RX11 119 yX3_keyOf wsX3_keyOf) := goodIn_app (goodIn_of _ (by decide +kernel)) ggX11_observe_X3_keyOf
set_option maxRecDepth 20000 in
theorem ggX11_observe_X11_requirePackets : GoodIn wsX11_observe wsX11_requirePackets := goodIn_ca (goodIn_r _ [11, 12, 13, 14, 15] rfl (by decide +kernel)) (goodIn_sub (fun _ h => List.mem_cons_of_mem _ (List.mem_append_left _ (List.mem_append_left _ (List.mem_append_right _ h)))) (by decide +kernel))
set_option maxRecDepth 20000 in
theorem gX11_observe_X11_requirePackets : GoodIn wsX11_observe (va_wsS RX11 125 yX11_requirePackets wsX11_requirePackets) := goodIn_app (goodIn_of _ (by decide +kernel)) ggX11_observe_X11_requirePackets
set_option maxRecDepth 20000 in
theorem ggX11_observe_X2_takePackets : GoodIn wsX11_observe wsX2_takePackets := goodIn_ca (goodIn_ca (goodIn_r _ [20, 21, 22, 23, 24, 25, 26, 27, 19, 28, 29, 30, 31, 32, 33, 34, 35, 36, 37, 38, 39, 40, 41, 42, 43, 44, 45, 46, 47, 48, 49, 50, 51, 52, 53, 54, 55, 56, 57, 58, 4, 59, 60, 61, 62, 63, 64, 65, 66, 67, 68, 69, 70, 71, 72, 73, 74, 75, 76, 77, 78, 79, 80, 81, 82, 83, 84, 85, 86, 87, 88, 89, 90, 91, 92, 93, 94, 95, 96, 97, 98, 99, 100, 101, 102, 103, 104, 105, 106, 107, 108, 109, 110, 111, 112, 113, 114, 115, 116, 117, 118, 119, 120, 121, 122, 123, 124, 125, 126, 127, 128, 129, 130, 131, 132, 133, 134, 135, 136, 137, 138, 139, 140, 141, 142, 10, 143, 144, 145, 146, 147, 148, 149, 150, 151, 152, 153, 154, 155, 156, 157, 158, 159, 160, 161, 162, 163, 164, 165, 166, 167, 168, 169, 170, 171, 172, 173, 174, 175, 176, 177, 178, 179, 180, 181, 182, 183, 184, 185, 186, 187, 188, 189, 190, 191, 192, 193, 194, 195, 196, 197, 198, 199, 200, 201, 202, 203, 204, 205, 206, 207, 208, 209, 210, 211, 212, 213, 214, 215, 216, 217, 218, 219, 220, 221, 222, 223, 224, 233, 234, 235, 236, 237, 238, 239, 240, 241, 242, 243, 244, 245, 246, 247, 248, 249, 250, 251, 252, 253, 254, 255, 256, 257, 258, 259, 260, 261, 262, 263, 264, 265, 266, 267, 268, 269, 270, 271, 272, 273, 274, 275, 276, 277] rfl (by decide +kernel)) (goodIn_sub (fun _ h => List.mem_cons_of_mem _ (List.mem_append_left _ (List.mem_append_right _ h))) (by decide +kernel))) (goodIn_sub (fun _ h => List.mem_cons_of_mem _ (List.mem_append_right _ h)) (by decide +kernel))
set_option maxRecDepth 20000 in
theorem gX11_observe_X2_takePackets : GoodIn wsX11_observe (wsV RX11 129 RX2 yX2_takePackets wsX2_takePackets) := goodIn_app (goodIn_of _ (by decide +kernel)) ggX11_observe_X2_takePackets
theorem dX11_observe_0 : decode cX11_observe 0 = .ok (.iload_n 1, 1) := by decide +kernel
theorem dX11_observe_1 : decode cX11_observe 1 = .ok (.iload_n 2, 1) := by decide +kernel
theorem dX11_observe_2 : decode cX11_observe 2 = .ok (.iload_n 3, 1) := by decide +kernel
theorem dX11_observe_3 : decode cX11_observe 3 = .ok (.iload 4, 2) := by decide +kernel
theorem dX11_observe_5 : decode cX11_observe 5 = .ok (.invokestatic 119, 3) := by decide +kernel
theorem dX11_observe_8 : decode cX11_observe 8 = .ok (.lstore 6, 2) := by decide +kernel
theorem dX11_observe_10 : decode cX11_observe 10 = .ok (.lload 6, 2) := by decide +kernel
theorem dX11_observe_12 : decode cX11_observe 12 = .ok (.iload 5, 2) := by decide +kernel
theorem dX11_observe_14 : decode cX11_observe 14 = .ok (.iconst 1, 1) := by decide +kernel
theorem dX11_observe_15 : decode cX11_observe 15 = .ok (.invokestatic 125, 3) := by decide +kernel
theorem dX11_observe_18 : decode cX11_observe 18 = .ok (.aload_n 0, 1) := by decide +kernel
theorem dX11_observe_19 : decode cX11_observe 19 = .ok (.getfield 55, 3) := by decide +kernel
theorem dX11_observe_22 : decode cX11_observe 22 = .ok (.lload 6, 2) := by decide +kernel
theorem dX11_observe_24 : decode cX11_observe 24 = .ok (.iload 5, 2) := by decide +kernel
theorem dX11_observe_26 : decode cX11_observe 26 = .ok (.iconst 1, 1) := by decide +kernel
theorem dX11_observe_27 : decode cX11_observe 27 = .ok (.invokevirtual 129, 3) := by decide +kernel
theorem dX11_observe_30 : decode cX11_observe 30 = .ok (.iconst 1, 1) := by decide +kernel
theorem dX11_observe_31 : decode cX11_observe 31 = .ok (.if_icmp .ne 7, 3) := by decide +kernel
theorem dX11_observe_34 : decode cX11_observe 34 = .ok (.iconst 1, 1) := by decide +kernel
theorem dX11_observe_35 : decode cX11_observe 35 = .ok (.goto 4, 3) := by decide +kernel
theorem dX11_observe_38 : decode cX11_observe 38 = .ok (.iconst 0, 1) := by decide +kernel
theorem dX11_observe_39 : decode cX11_observe 39 = .ok (.ireturn, 1) := by decide +kernel
set_option maxRecDepth 20000 in
theorem ggX11_observeMany_X3_keyOf : GoodIn wsX11_observeMany wsX3_keyOf := goodIn_r _ [5, 6, 7] rfl (by decide +kernel)
set_option maxRecDepth 20000 in
theorem gX11_observeMany_X3_keyOf : GoodIn wsX11_observeMany (va_wsS RX11 119 yX3_keyOf wsX3_keyOf) := goodIn_app (goodIn_of _ (by decide +kernel)) ggX11_observeMany_X3_keyOf
set_option maxRecDepth 20000 in
theorem ggX11_observeMany_X11_requirePackets : GoodIn wsX11_observeMany wsX11_requirePackets := goodIn_ca (goodIn_r _ [11, 12, 13, 14, 15] rfl (by decide +kernel)) (goodIn_sub (fun _ h => List.mem_cons_of_mem _ (List.mem_append_left _ (List.mem_append_left _ (List.mem_append_right _ h)))) (by decide +kernel))
set_option maxRecDepth 20000 in
theorem gX11_observeMany_X11_requirePackets : GoodIn wsX11_observeMany (va_wsS RX11 125 yX11_requirePackets wsX11_requirePackets) := goodIn_app (goodIn_of _ (by decide +kernel)) ggX11_observeMany_X11_requirePackets
set_option maxRecDepth 20000 in
theorem ggX11_observeMany_X2_takePackets : GoodIn wsX11_observeMany wsX2_takePackets := goodIn_ca (goodIn_ca (goodIn_r _ [20, 21, 22, 23, 24, 25, 26, 27, 19, 28, 29, 30, 31, 32, 33, 34, 35, 36, 37, 38, 39, 40, 41, 42, 43, 44, 45, 46, 47, 48, 49, 50, 51, 52, 53, 54, 55, 56, 57, 58, 4, 59, 60, 61, 62, 63, 64, 65, 66, 67, 68, 69, 70, 71, 72, 73, 74, 75, 76, 77, 78, 79, 80, 81, 82, 83, 84, 85, 86, 87, 88, 89, 90, 91, 92, 93, 94, 95, 96, 97, 98, 99, 100, 101, 102, 103, 104, 105, 106, 107, 108, 109, 110, 111, 112, 113, 114, 115, 116, 117, 118, 119, 120, 121, 122, 123, 124, 125, 126, 127, 128, 129, 130, 131, 132, 133, 134, 135, 136, 137, 138, 139, 140, 141, 142, 10, 143, 144, 145, 146, 147, 148, 149, 150, 151, 152, 153, 154, 155, 156, 157, 158, 159, 160, 161, 162, 163, 164, 165, 166, 167, 168, 169, 170, 171, 172, 173, 174, 175, 176, 177, 178, 179, 180, 181, 182, 183, 184, 185, 186, 187, 188, 189, 190, 191, 192, 193, 194, 195, 196, 197, 198, 199, 200, 201, 202, 203, 204, 205, 206, 207, 208, 209, 210, 211, 212, 213, 214, 215, 216, 217, 218, 219, 220, 221, 222, 223, 224, 233, 234, 235, 236, 237, 238, 239, 240, 241, 242, 243, 244, 245, 246, 247, 248, 249, 250, 251, 252, 253, 254, 255, 256, 257, 258, 259, 260, 261, 262, 263, 264, 265, 266, 267, 268, 269, 270, 271, 272, 273, 274, 275, 276, 277] rfl (by decide +kernel)) (goodIn_sub (fun _ h => List.mem_cons_of_mem _ (List.mem_append_left _ (List.mem_append_right _ h))) (by decide +kernel))) (goodIn_sub (fun _ h => List.mem_cons_of_mem _ (List.mem_append_right _ h)) (by decide +kernel))
set_option maxRecDepth 20000 in
theorem gX11_observeMany_X2_takePackets : GoodIn wsX11_observeMany (wsV RX11 129 RX2 yX2_takePackets wsX2_takePackets) := goodIn_app (goodIn_of _ (by decide +kernel)) ggX11_observeMany_X2_takePackets
theorem dX11_observeMany_0 : decode cX11_observeMany 0 = .ok (.iload_n 1, 1) := by decide +kernel
theorem dX11_observeMany_1 : decode cX11_observeMany 1 = .ok (.iload_n 2, 1) := by decide +kernel
theorem dX11_observeMany_2 : decode cX11_observeMany 2 = .ok (.iload_n 3, 1) := by decide +kernel
theorem dX11_observeMany_3 : decode cX11_observeMany 3 = .ok (.iload 4, 2) := by decide +kernel
theorem dX11_observeMany_5 : decode cX11_observeMany 5 = .ok (.invokestatic 119, 3) := by decide +kernel
theorem dX11_observeMany_8 : decode cX11_observeMany 8 = .ok (.lstore 7, 2) := by decide +kernel
theorem dX11_observeMany_10 : decode cX11_observeMany 10 = .ok (.lload 7, 2) := by decide +kernel
theorem dX11_observeMany_12 : decode cX11_observeMany 12 = .ok (.iload 5, 2) := by decide +kernel
theorem dX11_observeMany_14 : decode cX11_observeMany 14 = .ok (.iload 6, 2) := by decide +kernel
theorem dX11_observeMany_16 : decode cX11_observeMany 16 = .ok (.invokestatic 125, 3) := by decide +kernel
theorem dX11_observeMany_19 : decode cX11_observeMany 19 = .ok (.aload_n 0, 1) := by decide +kernel
theorem dX11_observeMany_20 : decode cX11_observeMany 20 = .ok (.getfield 55, 3) := by decide +kernel
theorem dX11_observeMany_23 : decode cX11_observeMany 23 = .ok (.lload 7, 2) := by decide +kernel
theorem dX11_observeMany_25 : decode cX11_observeMany 25 = .ok (.iload 5, 2) := by decide +kernel
theorem dX11_observeMany_27 : decode cX11_observeMany 27 = .ok (.iload 6, 2) := by decide +kernel
theorem dX11_observeMany_29 : decode cX11_observeMany 29 = .ok (.invokevirtual 129, 3) := by decide +kernel
theorem dX11_observeMany_32 : decode cX11_observeMany 32 = .ok (.ireturn, 1) := by decide +kernel
set_option maxRecDepth 20000 in
theorem ggX11_advance_X2_tick : GoodIn wsX11_advance wsX2_tick := goodIn_ca (goodIn_ca (goodIn_r _ [13, 14, 15, 16, 17, 18, 19, 12, 20, 21, 22, 23, 24, 25, 26, 27, 28, 29, 30, 31, 32, 33, 34, 35, 36, 37, 38, 39, 40, 41, 42, 43, 44, 45, 46, 47, 48, 49, 50, 51, 52, 53, 54, 55, 56, 57, 58, 59, 60, 61, 62, 63, 64, 65, 66, 67, 68, 69, 70, 71, 72, 73, 74, 75, 76, 77, 78, 79, 80, 81, 82, 83, 84, 85, 86, 87, 88, 89, 90, 91, 92, 93, 94, 95, 96, 97, 98, 99, 100, 101, 102, 103, 104, 105, 106, 107, 108, 109, 110, 111, 112, 113, 114, 115, 116, 117, 118, 119, 120, 121, 122, 123, 124, 125, 126, 127, 128, 129, 130, 131, 132, 133, 134, 135, 136, 137, 138, 139, 140, 141, 142, 143, 144, 145, 146, 147, 148, 149, 150, 151, 152, 153, 154, 155, 156, 157, 158, 159, 160, 161, 162, 163, 164, 165, 166, 167, 168, 169, 170, 171, 172, 173, 174, 175, 176, 177, 178, 179, 180, 181, 182, 183, 184, 185, 186, 187, 188, 189, 190, 191, 192, 193, 202, 203, 204, 205, 206, 207, 208, 209, 210, 211, 212, 213, 214, 215, 216, 217, 218, 219, 220, 221, 222, 223, 224, 225, 226, 227, 228, 229, 230, 231, 232, 233, 234, 235, 236, 237, 238, 239, 240, 241, 242, 243, 244, 245, 246] rfl (by decide +kernel)) (goodIn_sub (fun _ h => List.mem_cons_of_mem _ (List.mem_append_left _ (List.mem_append_right _ h))) (by decide +kernel))) (goodIn_sub (fun _ h => List.mem_cons_of_mem _ (List.mem_append_right _ h)) (by decide +kernel))
set_option maxRecDepth 20000 in
theorem gX11_advance_X2_tick : GoodIn wsX11_advance (wsV RX11 140 RX2 yX2_tick wsX2_tick) := goodIn_app (goodIn_of _ (by decide +kernel)) ggX11_advance_X2_tick
theorem dX11_advance_0 : decode cX11_advance 0 = .ok (.iload_n 1, 1) := by decide +kernel
theorem dX11_advance_1 : decode cX11_advance 1 = .ok (.iconst 1, 1) := by decide +kernel
theorem dX11_advance_2 : decode cX11_advance 2 = .ok (.if_icmp .lt 10, 3) := by decide +kernel
theorem dX11_advance_5 : decode cX11_advance 5 = .ok (.iload_n 1, 1) := by decide +kernel
theorem dX11_advance_6 : decode cX11_advance 6 = .ok (.sipush 1000, 3) := by decide +kernel
theorem dX11_advance_9 : decode cX11_advance 9 = .ok (.if_icmp .le 11, 3) := by decide +kernel
theorem dX11_advance_12 : decode cX11_advance 12 = .ok (.new 116, 3) := by decide +kernel
theorem dX11_advance_15 : decode cX11_advance 15 = .ok (.dup, 1) := by decide +kernel
theorem dX11_advance_16 : decode cX11_advance 16 = .ok (.invokespecial 118, 3) := by decide +kernel
theorem dX11_advance_19 : decode cX11_advance 19 = .ok (.athrow, 1) := by decide +kernel
theorem dX11_advance_20 : decode cX11_advance 20 = .ok (.aload_n 0, 1) := by decide +kernel
theorem dX11_advance_21 : decode cX11_advance 21 = .ok (.getfield 55, 3) := by decide +kernel
theorem dX11_advance_24 : decode cX11_advance 24 = .ok (.getfield 110, 3) := by decide +kernel
theorem dX11_advance_27 : decode cX11_advance 27 = .ok (.iload_n 1, 1) := by decide +kernel
theorem dX11_advance_28 : decode cX11_advance 28 = .ok (.iadd, 1) := by decide +kernel
theorem dX11_advance_29 : decode cX11_advance 29 = .ok (.ldc 133, 2) := by decide +kernel
theorem dX11_advance_31 : decode cX11_advance 31 = .ok (.if_icmp .le 11, 3) := by decide +kernel
theorem dX11_advance_34 : decode cX11_advance 34 = .ok (.new 134, 3) := by decide +kernel
theorem dX11_advance_37 : decode cX11_advance 37 = .ok (.dup, 1) := by decide +kernel
theorem dX11_advance_38 : decode cX11_advance 38 = .ok (.invokespecial 136, 3) := by decide +kernel
theorem dX11_advance_41 : decode cX11_advance 41 = .ok (.athrow, 1) := by decide +kernel
theorem dX11_advance_42 : decode cX11_advance 42 = .ok (.aload_n 0, 1) := by decide +kernel
theorem dX11_advance_43 : decode cX11_advance 43 = .ok (.getfield 55, 3) := by decide +kernel
theorem dX11_advance_46 : decode cX11_advance 46 = .ok (.getfield 137, 3) := by decide +kernel
theorem dX11_advance_49 : decode cX11_advance 49 = .ok (.istore_n 2, 1) := by decide +kernel
theorem dX11_advance_50 : decode cX11_advance 50 = .ok (.iconst 0, 1) := by decide +kernel
theorem dX11_advance_51 : decode cX11_advance 51 = .ok (.istore_n 3, 1) := by decide +kernel
theorem dX11_advance_52 : decode cX11_advance 52 = .ok (.iload_n 3, 1) := by decide +kernel
theorem dX11_advance_53 : decode cX11_advance 53 = .ok (.iload_n 1, 1) := by decide +kernel
theorem dX11_advance_54 : decode cX11_advance 54 = .ok (.if_icmp .ge 16, 3) := by decide +kernel
theorem dX11_advance_57 : decode cX11_advance 57 = .ok (.aload_n 0, 1) := by decide +kernel
theorem dX11_advance_58 : decode cX11_advance 58 = .ok (.getfield 55, 3) := by decide +kernel
theorem dX11_advance_61 : decode cX11_advance 61 = .ok (.invokevirtual 140, 3) := by decide +kernel
theorem dX11_advance_64 : decode cX11_advance 64 = .ok (.iinc 3 1, 3) := by decide +kernel
theorem dX11_advance_67 : decode cX11_advance 67 = .ok (.goto (-15), 3) := by decide +kernel
theorem dX11_advance_70 : decode cX11_advance 70 = .ok (.aload_n 0, 1) := by decide +kernel
theorem dX11_advance_71 : decode cX11_advance 71 = .ok (.getfield 55, 3) := by decide +kernel
theorem dX11_advance_74 : decode cX11_advance 74 = .ok (.getfield 137, 3) := by decide +kernel
theorem dX11_advance_77 : decode cX11_advance 77 = .ok (.iload_n 2, 1) := by decide +kernel
theorem dX11_advance_78 : decode cX11_advance 78 = .ok (.isub, 1) := by decide +kernel
theorem dX11_advance_79 : decode cX11_advance 79 = .ok (.ireturn, 1) := by decide +kernel
theorem dX11_lossRate_0 : decode cX11_lossRate 0 = .ok (.aload_n 0, 1) := by decide +kernel
theorem dX11_lossRate_1 : decode cX11_lossRate 1 = .ok (.getfield 71, 3) := by decide +kernel
theorem dX11_lossRate_4 : decode cX11_lossRate 4 = .ok (.getfield 289, 3) := by decide +kernel
theorem dX11_lossRate_7 : decode cX11_lossRate 7 = .ok (.iconst 0, 1) := by decide +kernel
theorem dX11_lossRate_8 : decode cX11_lossRate 8 = .ok (.laload, 1) := by decide +kernel
theorem dX11_lossRate_9 : decode cX11_lossRate 9 = .ok (.lstore_n 1, 1) := by decide +kernel
theorem dX11_lossRate_10 : decode cX11_lossRate 10 = .ok (.lload_n 1, 1) := by decide +kernel
theorem dX11_lossRate_11 : decode cX11_lossRate 11 = .ok (.aload_n 0, 1) := by decide +kernel
theorem dX11_lossRate_12 : decode cX11_lossRate 12 = .ok (.getfield 71, 3) := by decide +kernel
theorem dX11_lossRate_15 : decode cX11_lossRate 15 = .ok (.getfield 289, 3) := by decide +kernel
theorem dX11_lossRate_18 : decode cX11_lossRate 18 = .ok (.bipush 7, 2) := by decide +kernel
theorem dX11_lossRate_20 : decode cX11_lossRate 20 = .ok (.laload, 1) := by decide +kernel
theorem dX11_lossRate_21 : decode cX11_lossRate 21 = .ok (.ladd, 1) := by decide +kernel
theorem dX11_lossRate_22 : decode cX11_lossRate 22 = .ok (.lstore_n 3, 1) := by decide +kernel
theorem dX11_lossRate_23 : decode cX11_lossRate 23 = .ok (.lload_n 3, 1) := by decide +kernel
theorem dX11_lossRate_24 : decode cX11_lossRate 24 = .ok (.lconst 0, 1) := by decide +kernel
theorem dX11_lossRate_25 : decode cX11_lossRate 25 = .ok (.lcmp, 1) := by decide +kernel
theorem dX11_lossRate_26 : decode cX11_lossRate 26 = .ok (.ifCond .ne 11, 3) := by decide +kernel
theorem dX11_lossRate_29 : decode cX11_lossRate 29 = .ok (.new 293, 3) := by decide +kernel
theorem dX11_lossRate_32 : decode cX11_lossRate 32 = .ok (.dup, 1) := by decide +kernel
theorem dX11_lossRate_33 : decode cX11_lossRate 33 = .ok (.invokespecial 295, 3) := by decide +kernel
theorem dX11_lossRate_36 : decode cX11_lossRate 36 = .ok (.athrow, 1) := by decide +kernel
theorem dX11_lossRate_37 : decode cX11_lossRate 37 = .ok (.lload_n 1, 1) := by decide +kernel
theorem dX11_lossRate_38 : decode cX11_lossRate 38 = .ok (.l2d, 1) := by decide +kernel
theorem dX11_lossRate_39 : decode cX11_lossRate 39 = .ok (.lload_n 3, 1) := by decide +kernel
theorem dX11_lossRate_40 : decode cX11_lossRate 40 = .ok (.l2d, 1) := by decide +kernel
theorem dX11_lossRate_41 : decode cX11_lossRate 41 = .ok (.ddiv, 1) := by decide +kernel
theorem dX11_lossRate_42 : decode cX11_lossRate 42 = .ok (.dreturn, 1) := by decide +kernel
set_option maxRecDepth 20000 in
theorem ggX11_key_X11_requireKey : GoodIn wsX11_key wsX11_requireKey := goodIn_ca (goodIn_r _ [9, 10, 11, 3, 12, 19, 20, 21, 22, 23, 24, 25, 26, 27, 28, 29, 30, 31] rfl (by decide +kernel)) (goodIn_sub (fun _ h => List.mem_cons_of_mem _ (List.mem_append_right _ h)) (by decide +kernel))
set_option maxRecDepth 20000 in
theorem gX11_key_X11_requireKey : GoodIn wsX11_key (wsV RX11 298 RX11 yX11_requireKey wsX11_requireKey) := goodIn_app (goodIn_of _ (by decide +kernel)) ggX11_key_X11_requireKey
set_option maxRecDepth 20000 in
theorem ggX11_key_X3_partOf : GoodIn wsX11_key wsX3_partOf := goodIn_ca (goodIn_r _ [16, 17, 18] rfl (by decide +kernel)) (goodIn_sub (fun _ h => List.mem_cons_of_mem _ (List.mem_append_left _ (List.mem_append_right _ h))) (by decide +kernel))
set_option maxRecDepth 20000 in
theorem gX11_key_X3_partOf : GoodIn wsX11_key (va_wsS RX11 304 yX3_partOf wsX3_partOf) := goodIn_app (goodIn_of _ (by decide +kernel)) ggX11_key_X3_partOf
theorem dX11_key_0 : decode cX11_key 0 = .ok (.aload_n 0, 1) := by decide +kernel
theorem dX11_key_1 : decode cX11_key 1 = .ok (.iload_n 1, 1) := by decide +kernel
theorem dX11_key_2 : decode cX11_key 2 = .ok (.invokevirtual 298, 3) := by decide +kernel
theorem dX11_key_5 : decode cX11_key 5 = .ok (.iload_n 2, 1) := by decide +kernel
theorem dX11_key_6 : decode cX11_key 6 = .ok (.ifCond .lt 8, 3) := by decide +kernel
theorem dX11_key_9 : decode cX11_key 9 = .ok (.iload_n 2, 1) := by decide +kernel
theorem dX11_key_10 : decode cX11_key 10 = .ok (.iconst 3, 1) := by decide +kernel
theorem dX11_key_11 : decode cX11_key 11 = .ok (.if_icmp .le 11, 3) := by decide +kernel
theorem dX11_key_14 : decode cX11_key 14 = .ok (.new 116, 3) := by decide +kernel
theorem dX11_key_17 : decode cX11_key 17 = .ok (.dup, 1) := by decide +kernel
theorem dX11_key_18 : decode cX11_key 18 = .ok (.invokespecial 118, 3) := by decide +kernel
theorem dX11_key_21 : decode cX11_key 21 = .ok (.athrow, 1) := by decide +kernel
theorem dX11_key_22 : decode cX11_key 22 = .ok (.aload_n 0, 1) := by decide +kernel
theorem dX11_key_23 : decode cX11_key 23 = .ok (.getfield 62, 3) := by decide +kernel
theorem dX11_key_26 : decode cX11_key 26 = .ok (.getfield 301, 3) := by decide +kernel
theorem dX11_key_29 : decode cX11_key 29 = .ok (.iload_n 1, 1) := by decide +kernel
theorem dX11_key_30 : decode cX11_key 30 = .ok (.laload, 1) := by decide +kernel
theorem dX11_key_31 : decode cX11_key 31 = .ok (.iload_n 2, 1) := by decide +kernel
theorem dX11_key_32 : decode cX11_key 32 = .ok (.invokestatic 304, 3) := by decide +kernel
theorem dX11_key_35 : decode cX11_key 35 = .ok (.ireturn, 1) := by decide +kernel
set_option maxRecDepth 20000 in
theorem ggX11_raw_X11_requireKey : GoodIn wsX11_raw wsX11_requireKey := goodIn_ca (goodIn_r _ [7, 8, 9, 1, 10, 16, 17, 18, 19, 20, 21, 22, 23, 24, 25, 26, 27, 28] rfl (by decide +kernel)) (goodIn_sub (fun _ h => List.mem_cons_of_mem _ (List.mem_append_left _ (List.mem_append_right _ h))) (by decide +kernel))
set_option maxRecDepth 20000 in
theorem gX11_raw_X11_requireKey : GoodIn wsX11_raw (wsV RX11 298 RX11 yX11_requireKey wsX11_requireKey) := goodIn_app (goodIn_of _ (by decide +kernel)) ggX11_raw_X11_requireKey
set_option maxRecDepth 20000 in
theorem ggX11_raw_X11_requireWhat : GoodIn wsX11_raw wsX11_requireWhat := goodIn_ca (goodIn_r _ [13, 14, 15] rfl (by decide +kernel)) (goodIn_sub (fun _ h => List.mem_cons_of_mem _ (List.mem_append_right _ h)) (by decide +kernel))
set_option maxRecDepth 20000 in
theorem gX11_raw_X11_requireWhat : GoodIn wsX11_raw (va_wsS RX11 312 yX11_requireWhat wsX11_requireWhat) := goodIn_app (goodIn_of _ (by decide +kernel)) ggX11_raw_X11_requireWhat
theorem dX11_raw_0 : decode cX11_raw 0 = .ok (.aload_n 0, 1) := by decide +kernel
theorem dX11_raw_1 : decode cX11_raw 1 = .ok (.iload_n 1, 1) := by decide +kernel
theorem dX11_raw_2 : decode cX11_raw 2 = .ok (.invokevirtual 298, 3) := by decide +kernel
theorem dX11_raw_5 : decode cX11_raw 5 = .ok (.iload_n 2, 1) := by decide +kernel
theorem dX11_raw_6 : decode cX11_raw 6 = .ok (.invokestatic 312, 3) := by decide +kernel
theorem dX11_raw_9 : decode cX11_raw 9 = .ok (.aload_n 0, 1) := by decide +kernel
theorem dX11_raw_10 : decode cX11_raw 10 = .ok (.getfield 62, 3) := by decide +kernel
theorem dX11_raw_13 : decode cX11_raw 13 = .ok (.getfield 315, 3) := by decide +kernel
theorem dX11_raw_16 : decode cX11_raw 16 = .ok (.iload_n 2, 1) := by decide +kernel
theorem dX11_raw_17 : decode cX11_raw 17 = .ok (.aaload, 1) := by decide +kernel
theorem dX11_raw_18 : decode cX11_raw 18 = .ok (.iload_n 1, 1) := by decide +kernel
theorem dX11_raw_19 : decode cX11_raw 19 = .ok (.laload, 1) := by decide +kernel
theorem dX11_raw_20 : decode cX11_raw 20 = .ok (.lreturn, 1) := by decide +kernel
set_option maxRecDepth 20000 in
theorem ggX11_estimate_X11_requireKey : GoodIn wsX11_estimate wsX11_requireKey := goodIn_ca (goodIn_r _ [7, 8, 9, 1, 10, 16, 17, 18, 19, 20, 21, 22, 23, 24, 25, 26, 27, 28] rfl (by decide +kernel)) (goodIn_sub (fun _ h => List.mem_cons_of_mem _ (List.mem_append_left _ (List.mem_append_right _ h))) (by decide +kernel))
set_option maxRecDepth 20000 in
theorem gX11_estimate_X11_requireKey : GoodIn wsX11_estimate (wsV RX11 298 RX11 yX11_requireKey wsX11_requireKey) := goodIn_app (goodIn_of _ (by decide +kernel)) ggX11_estimate_X11_requireKey
set_option maxRecDepth 20000 in
theorem ggX11_estimate_X11_requireWhat : GoodIn wsX11_estimate wsX11_requireWhat := goodIn_ca (goodIn_r _ [13, 14, 15] rfl (by decide +kernel)) (goodIn_sub (fun _ h => List.mem_cons_of_mem _ (List.mem_append_right _ h)) (by decide +kernel))
set_option maxRecDepth 20000 in
theorem gX11_estimate_X11_requireWhat : GoodIn wsX11_estimate (va_wsS RX11 312 yX11_requireWhat wsX11_requireWhat) := goodIn_app (goodIn_of _ (by decide +kernel)) ggX11_estimate_X11_requireWhat
theorem dX11_estimate_0 : decode cX11_estimate 0 = .ok (.aload_n 0, 1) := by decide +kernel
theorem dX11_estimate_1 : decode cX11_estimate 1 = .ok (.iload_n 1, 1) := by decide +kernel
theorem dX11_estimate_2 : decode cX11_estimate 2 = .ok (.invokevirtual 298, 3) := by decide +kernel
theorem dX11_estimate_5 : decode cX11_estimate 5 = .ok (.iload_n 2, 1) := by decide +kernel
theorem dX11_estimate_6 : decode cX11_estimate 6 = .ok (.invokestatic 312, 3) := by decide +kernel
theorem dX11_estimate_9 : decode cX11_estimate 9 = .ok (.aload_n 0, 1) := by decide +kernel
theorem dX11_estimate_10 : decode cX11_estimate 10 = .ok (.getfield 62, 3) := by decide +kernel
theorem dX11_estimate_13 : decode cX11_estimate 13 = .ok (.getfield 319, 3) := by decide +kernel
theorem dX11_estimate_16 : decode cX11_estimate 16 = .ok (.iload_n 2, 1) := by decide +kernel
theorem dX11_estimate_17 : decode cX11_estimate 17 = .ok (.aaload, 1) := by decide +kernel
theorem dX11_estimate_18 : decode cX11_estimate 18 = .ok (.iload_n 1, 1) := by decide +kernel
theorem dX11_estimate_19 : decode cX11_estimate 19 = .ok (.laload, 1) := by decide +kernel
theorem dX11_estimate_20 : decode cX11_estimate 20 = .ok (.lreturn, 1) := by decide +kernel
set_option maxRecDepth 20000 in
theorem ggX11_lower_X11_requireKey : GoodIn wsX11_lower wsX11_requireKey := goodIn_ca (goodIn_r _ [6, 7, 8, 1, 9, 43, 44, 45, 46, 47, 48, 49, 50, 51, 52, 53, 54, 55] rfl (by decide +kernel)) (goodIn_sub (fun _ h => List.mem_cons_of_mem _ (List.mem_append_left _ (List.mem_append_left _ (List.mem_append_right _ h)))) (by decide +kernel))
set_option maxRecDepth 20000 in
theorem gX11_lower_X11_requireKey : GoodIn wsX11_lower (wsV RX11 298 RX11 yX11_requireKey wsX11_requireKey) := goodIn_app (goodIn_of _ (by decide +kernel)) ggX11_lower_X11_requireKey
set_option maxRecDepth 20000 in
theorem ggX11_lower_X11_requireWhat : GoodIn wsX11_lower wsX11_requireWhat := goodIn_ca (goodIn_r _ [12, 13, 14] rfl (by decide +kernel)) (goodIn_sub (fun _ h => List.mem_cons_of_mem _ (List.mem_append_left _ (List.mem_append_right _ h))) (by decide +kernel))
set_option maxRecDepth 20000 in
theorem gX11_lower_X11_requireWhat : GoodIn wsX11_lower (va_wsS RX11 312 yX11_requireWhat wsX11_requireWhat) := goodIn_app (goodIn_of _ (by decide +kernel)) ggX11_lower_X11_requireWhat
set_option maxRecDepth 20000 in
theorem ggX11_lower_X9_lowerBound : GoodIn wsX11_lower wsX9_lowerBound := goodIn_ca (goodIn_r _ [19, 20, 21, 22, 23, 24, 18, 25, 26, 27, 28, 29, 30, 31, 32, 33, 34, 35, 36, 37, 38, 39, 40, 41, 42, 51, 52, 53, 54, 55] rfl (by decide +kernel)) (goodIn_sub (fun _ h => List.mem_cons_of_mem _ (List.mem_append_right _ h)) (by decide +kernel))
set_option maxRecDepth 20000 in
theorem gX11_lower_X9_lowerBound : GoodIn wsX11_lower (wsV RX11 322 RX9 yX9_lowerBound wsX9_lowerBound) := goodIn_app (goodIn_of _ (by decide +kernel)) ggX11_lower_X9_lowerBound
theorem dX11_lower_0 : decode cX11_lower 0 = .ok (.aload_n 0, 1) := by decide +kernel
theorem dX11_lower_1 : decode cX11_lower 1 = .ok (.iload_n 1, 1) := by decide +kernel
theorem dX11_lower_2 : decode cX11_lower 2 = .ok (.invokevirtual 298, 3) := by decide +kernel
theorem dX11_lower_5 : decode cX11_lower 5 = .ok (.iload_n 2, 1) := by decide +kernel
theorem dX11_lower_6 : decode cX11_lower 6 = .ok (.invokestatic 312, 3) := by decide +kernel
theorem dX11_lower_9 : decode cX11_lower 9 = .ok (.aload_n 0, 1) := by decide +kernel
theorem dX11_lower_10 : decode cX11_lower 10 = .ok (.getfield 62, 3) := by decide +kernel
theorem dX11_lower_13 : decode cX11_lower 13 = .ok (.iload_n 1, 1) := by decide +kernel
theorem dX11_lower_14 : decode cX11_lower 14 = .ok (.iload_n 2, 1) := by decide +kernel
theorem dX11_lower_15 : decode cX11_lower 15 = .ok (.invokevirtual 322, 3) := by decide +kernel
theorem dX11_lower_18 : decode cX11_lower 18 = .ok (.dreturn, 1) := by decide +kernel
set_option maxRecDepth 20000 in
theorem ggX11_upper_X11_requireKey : GoodIn wsX11_upper wsX11_requireKey := goodIn_ca (goodIn_r _ [6, 7, 8, 1, 9, 42, 43, 44, 45, 46, 47, 48, 49, 50, 51, 52, 53, 54] rfl (by decide +kernel)) (goodIn_sub (fun _ h => List.mem_cons_of_mem _ (List.mem_append_left _ (List.mem_append_left _ (List.mem_append_right _ h)))) (by decide +kernel))
set_option maxRecDepth 20000 in
theorem gX11_upper_X11_requireKey : GoodIn wsX11_upper (wsV RX11 298 RX11 yX11_requireKey wsX11_requireKey) := goodIn_app (goodIn_of _ (by decide +kernel)) ggX11_upper_X11_requireKey
set_option maxRecDepth 20000 in
theorem ggX11_upper_X11_requireWhat : GoodIn wsX11_upper wsX11_requireWhat := goodIn_ca (goodIn_r _ [12, 13, 14] rfl (by decide +kernel)) (goodIn_sub (fun _ h => List.mem_cons_of_mem _ (List.mem_append_left _ (List.mem_append_right _ h))) (by decide +kernel))
set_option maxRecDepth 20000 in
theorem gX11_upper_X11_requireWhat : GoodIn wsX11_upper (va_wsS RX11 312 yX11_requireWhat wsX11_requireWhat) := goodIn_app (goodIn_of _ (by decide +kernel)) ggX11_upper_X11_requireWhat
set_option maxRecDepth 20000 in
theorem ggX11_upper_X9_upperBound : GoodIn wsX11_upper wsX9_upperBound := goodIn_ca (goodIn_r _ [19, 20, 21, 22, 23, 18, 24, 25, 26, 27, 28, 29, 30, 31, 32, 33, 34, 35, 36, 37, 38, 39, 40, 41, 50, 51, 52, 53, 54] rfl (by decide +kernel)) (goodIn_sub (fun _ h => List.mem_cons_of_mem _ (List.mem_append_right _ h)) (by decide +kernel))
set_option maxRecDepth 20000 in
theorem gX11_upper_X9_upperBound : GoodIn wsX11_upper (wsV RX11 326 RX9 yX9_upperBound wsX9_upperBound) := goodIn_app (goodIn_of _ (by decide +kernel)) ggX11_upper_X9_upperBound
theorem dX11_upper_0 : decode cX11_upper 0 = .ok (.aload_n 0, 1) := by decide +kernel
theorem dX11_upper_1 : decode cX11_upper 1 = .ok (.iload_n 1, 1) := by decide +kernel
theorem dX11_upper_2 : decode cX11_upper 2 = .ok (.invokevirtual 298, 3) := by decide +kernel
theorem dX11_upper_5 : decode cX11_upper 5 = .ok (.iload_n 2, 1) := by decide +kernel
theorem dX11_upper_6 : decode cX11_upper 6 = .ok (.invokestatic 312, 3) := by decide +kernel
theorem dX11_upper_9 : decode cX11_upper 9 = .ok (.aload_n 0, 1) := by decide +kernel
theorem dX11_upper_10 : decode cX11_upper 10 = .ok (.getfield 62, 3) := by decide +kernel
theorem dX11_upper_13 : decode cX11_upper 13 = .ok (.iload_n 1, 1) := by decide +kernel
theorem dX11_upper_14 : decode cX11_upper 14 = .ok (.iload_n 2, 1) := by decide +kernel
theorem dX11_upper_15 : decode cX11_upper 15 = .ok (.invokevirtual 326, 3) := by decide +kernel
theorem dX11_upper_18 : decode cX11_upper 18 = .ok (.dreturn, 1) := by decide +kernel
set_option maxRecDepth 20000 in
theorem ggX11_covered_X11_requireWhat : GoodIn wsX11_covered wsX11_requireWhat := goodIn_ca (goodIn_r _ [8, 9, 10] rfl (by decide +kernel)) (goodIn_sub (fun _ h => List.mem_cons_of_mem _ (List.mem_append_right _ h)) (by decide +kernel))
set_option maxRecDepth 20000 in
theorem gX11_covered_X11_requireWhat : GoodIn wsX11_covered (va_wsS RX11 312 yX11_requireWhat wsX11_requireWhat) := goodIn_app (goodIn_of _ (by decide +kernel)) ggX11_covered_X11_requireWhat
set_option maxRecDepth 20000 in
theorem ggX11_covered_X2_trueValue : GoodIn wsX11_covered wsX2_trueValue := goodIn_ca (goodIn_r _ [15, 16, 17, 18, 19, 20, 21, 22, 23, 24, 25, 26, 27, 28, 29, 30, 31, 32, 33, 34, 35, 36, 37, 38, 39, 40, 41, 42, 43, 89, 90, 91, 92, 93, 94, 95, 96, 97, 98, 99, 100, 101, 102, 103, 104, 105, 106, 107, 108] rfl (by decide +kernel)) (goodIn_sub (fun _ h => List.mem_cons_of_mem _ (List.mem_append_left _ (List.mem_append_right _ h))) (by decide +kernel))
set_option maxRecDepth 20000 in
theorem gX11_covered_X2_trueValue : GoodIn wsX11_covered (wsV RX11 329 RX2 yX2_trueValue wsX2_trueValue) := goodIn_app (goodIn_of _ (by decide +kernel)) ggX11_covered_X2_trueValue
set_option maxRecDepth 20000 in
theorem ggX11_covered_X9_lowerBound : GoodIn wsX11_covered wsX9_lowerBound := goodIn_ca (goodIn_r _ [48, 49, 50, 51, 52, 53, 47, 54, 55, 56, 57, 58, 59, 60, 61, 62, 63, 64, 65, 66, 67, 68, 69, 70, 71, 84, 85, 86, 87, 88] rfl (by decide +kernel)) (goodIn_sub (fun _ h => List.mem_cons_of_mem _ (List.mem_append_left _ (List.mem_append_right _ h))) (by decide +kernel))
set_option maxRecDepth 20000 in
theorem gX11_covered_X9_lowerBound : GoodIn wsX11_covered (wsV RX11 322 RX9 yX9_lowerBound wsX9_lowerBound) := goodIn_app (goodIn_of _ (by decide +kernel)) ggX11_covered_X9_lowerBound
set_option maxRecDepth 20000 in
theorem ggX11_covered_X9_upperBound : GoodIn wsX11_covered wsX9_upperBound := goodIn_ca (goodIn_r _ [75, 49, 50, 52, 53, 47, 54, 55, 56, 57, 58, 59, 60, 61, 62, 63, 64, 65, 66, 67, 68, 69, 70, 71, 84, 85, 86, 87, 88] rfl (by decide +kernel)) (goodIn_sub (fun _ h => List.mem_cons_of_mem _ (List.mem_append_left _ (List.mem_append_right _ h))) (by decide +kernel))
set_option maxRecDepth 20000 in
theorem gX11_covered_X9_upperBound : GoodIn wsX11_covered (wsV RX11 326 RX9 yX9_upperBound wsX9_upperBound) := goodIn_app (goodIn_of _ (by decide +kernel)) ggX11_covered_X9_upperBound
theorem dX11_covered_0 : decode cX11_covered 0 = .ok (.iload_n 1, 1) := by decide +kernel
theorem dX11_covered_1 : decode cX11_covered 1 = .ok (.invokestatic 312, 3) := by decide +kernel
theorem dX11_covered_4 : decode cX11_covered 4 = .ok (.iconst 0, 1) := by decide +kernel
theorem dX11_covered_5 : decode cX11_covered 5 = .ok (.istore_n 2, 1) := by decide +kernel
theorem dX11_covered_6 : decode cX11_covered 6 = .ok (.iconst 0, 1) := by decide +kernel
theorem dX11_covered_7 : decode cX11_covered 7 = .ok (.istore_n 3, 1) := by decide +kernel
theorem dX11_covered_8 : decode cX11_covered 8 = .ok (.iload_n 3, 1) := by decide +kernel
theorem dX11_covered_9 : decode cX11_covered 9 = .ok (.aload_n 0, 1) := by decide +kernel
theorem dX11_covered_10 : decode cX11_covered 10 = .ok (.getfield 62, 3) := by decide +kernel
theorem dX11_covered_13 : decode cX11_covered 13 = .ok (.getfield 92, 3) := by decide +kernel
theorem dX11_covered_16 : decode cX11_covered 16 = .ok (.if_icmp .ge 62, 3) := by decide +kernel
theorem dX11_covered_19 : decode cX11_covered 19 = .ok (.aload_n 0, 1) := by decide +kernel
theorem dX11_covered_20 : decode cX11_covered 20 = .ok (.getfield 55, 3) := by decide +kernel
theorem dX11_covered_23 : decode cX11_covered 23 = .ok (.aload_n 0, 1) := by decide +kernel
theorem dX11_covered_24 : decode cX11_covered 24 = .ok (.getfield 62, 3) := by decide +kernel
theorem dX11_covered_27 : decode cX11_covered 27 = .ok (.getfield 301, 3) := by decide +kernel
theorem dX11_covered_30 : decode cX11_covered 30 = .ok (.iload_n 3, 1) := by decide +kernel
theorem dX11_covered_31 : decode cX11_covered 31 = .ok (.laload, 1) := by decide +kernel
theorem dX11_covered_32 : decode cX11_covered 32 = .ok (.iload_n 1, 1) := by decide +kernel
theorem dX11_covered_33 : decode cX11_covered 33 = .ok (.invokevirtual 329, 3) := by decide +kernel
theorem dX11_covered_36 : decode cX11_covered 36 = .ok (.l2d, 1) := by decide +kernel
theorem dX11_covered_37 : decode cX11_covered 37 = .ok (.dstore 4, 2) := by decide +kernel
theorem dX11_covered_39 : decode cX11_covered 39 = .ok (.aload_n 0, 1) := by decide +kernel
theorem dX11_covered_40 : decode cX11_covered 40 = .ok (.getfield 62, 3) := by decide +kernel
theorem dX11_covered_43 : decode cX11_covered 43 = .ok (.iload_n 3, 1) := by decide +kernel
theorem dX11_covered_44 : decode cX11_covered 44 = .ok (.iload_n 1, 1) := by decide +kernel
theorem dX11_covered_45 : decode cX11_covered 45 = .ok (.invokevirtual 322, 3) := by decide +kernel
theorem dX11_covered_48 : decode cX11_covered 48 = .ok (.dload 4, 2) := by decide +kernel
theorem dX11_covered_50 : decode cX11_covered 50 = .ok (.dcmp .g, 1) := by decide +kernel
theorem dX11_covered_51 : decode cX11_covered 51 = .ok (.ifCond .gt 21, 3) := by decide +kernel
theorem dX11_covered_54 : decode cX11_covered 54 = .ok (.dload 4, 2) := by decide +kernel
theorem dX11_covered_56 : decode cX11_covered 56 = .ok (.aload_n 0, 1) := by decide +kernel
theorem dX11_covered_57 : decode cX11_covered 57 = .ok (.getfield 62, 3) := by decide +kernel
theorem dX11_covered_60 : decode cX11_covered 60 = .ok (.iload_n 3, 1) := by decide +kernel
theorem dX11_covered_61 : decode cX11_covered 61 = .ok (.iload_n 1, 1) := by decide +kernel
theorem dX11_covered_62 : decode cX11_covered 62 = .ok (.invokevirtual 326, 3) := by decide +kernel
theorem dX11_covered_65 : decode cX11_covered 65 = .ok (.dcmp .g, 1) := by decide +kernel
theorem dX11_covered_66 : decode cX11_covered 66 = .ok (.ifCond .gt 6, 3) := by decide +kernel
theorem dX11_covered_69 : decode cX11_covered 69 = .ok (.iinc 2 1, 3) := by decide +kernel
theorem dX11_covered_72 : decode cX11_covered 72 = .ok (.iinc 3 1, 3) := by decide +kernel
theorem dX11_covered_75 : decode cX11_covered 75 = .ok (.goto (-67), 3) := by decide +kernel
theorem dX11_covered_78 : decode cX11_covered 78 = .ok (.iload_n 2, 1) := by decide +kernel
theorem dX11_covered_79 : decode cX11_covered 79 = .ok (.ireturn, 1) := by decide +kernel
set_option maxRecDepth 20000 in
theorem ggX11_totalEstimate_X11_requireWhat : GoodIn wsX11_totalEstimate wsX11_requireWhat := goodIn_ca (goodIn_r _ [5, 6, 7] rfl (by decide +kernel)) (goodIn_sub (fun _ h => List.mem_cons_of_mem _ (List.mem_append_left _ (List.mem_append_right _ h))) (by decide +kernel))
set_option maxRecDepth 20000 in
theorem gX11_totalEstimate_X11_requireWhat : GoodIn wsX11_totalEstimate (va_wsS RX11 312 yX11_requireWhat wsX11_requireWhat) := goodIn_app (goodIn_of _ (by decide +kernel)) ggX11_totalEstimate_X11_requireWhat
set_option maxRecDepth 20000 in
theorem ggX11_totalEstimate_X9_estimateOfAll : GoodIn wsX11_totalEstimate wsX9_estimateOfAll := goodIn_ca (goodIn_r _ [12, 13, 14, 23, 24, 25, 26, 27] rfl (by decide +kernel)) (goodIn_sub (fun _ h => List.mem_cons_of_mem _ (List.mem_append_right _ h)) (by decide +kernel))
set_option maxRecDepth 20000 in
theorem gX11_totalEstimate_X9_estimateOfAll : GoodIn wsX11_totalEstimate (wsV RX11 333 RX9 yX9_estimateOfAll wsX9_estimateOfAll) := goodIn_app (goodIn_of _ (by decide +kernel)) ggX11_totalEstimate_X9_estimateOfAll
theorem dX11_totalEstimate_0 : decode cX11_totalEstimate 0 = .ok (.iload_n 1, 1) := by decide +kernel
theorem dX11_totalEstimate_1 : decode cX11_totalEstimate 1 = .ok (.invokestatic 312, 3) := by decide +kernel
theorem dX11_totalEstimate_4 : decode cX11_totalEstimate 4 = .ok (.aload_n 0, 1) := by decide +kernel
theorem dX11_totalEstimate_5 : decode cX11_totalEstimate 5 = .ok (.getfield 62, 3) := by decide +kernel
theorem dX11_totalEstimate_8 : decode cX11_totalEstimate 8 = .ok (.iload_n 1, 1) := by decide +kernel
theorem dX11_totalEstimate_9 : decode cX11_totalEstimate 9 = .ok (.invokevirtual 333, 3) := by decide +kernel
theorem dX11_totalEstimate_12 : decode cX11_totalEstimate 12 = .ok (.lreturn, 1) := by decide +kernel
set_option maxRecDepth 20000 in
theorem ggX11_totalMargin_X11_requireWhat : GoodIn wsX11_totalMargin wsX11_requireWhat := goodIn_ca (goodIn_r _ [5, 6, 7] rfl (by decide +kernel)) (goodIn_sub (fun _ h => List.mem_cons_of_mem _ (List.mem_append_left _ (List.mem_append_right _ h))) (by decide +kernel))
set_option maxRecDepth 20000 in
theorem gX11_totalMargin_X11_requireWhat : GoodIn wsX11_totalMargin (va_wsS RX11 312 yX11_requireWhat wsX11_requireWhat) := goodIn_app (goodIn_of _ (by decide +kernel)) ggX11_totalMargin_X11_requireWhat
set_option maxRecDepth 20000 in
theorem ggX11_totalMargin_X9_marginOfAll : GoodIn wsX11_totalMargin wsX9_marginOfAll := goodIn_ca (goodIn_r _ [12, 13, 14, 15, 16, 11, 17, 18, 19, 20, 21, 22, 23, 24, 25, 26, 27, 28, 29, 30, 31, 32, 33, 34, 43, 44, 45, 46, 47] rfl (by decide +kernel)) (goodIn_sub (fun _ h => List.mem_cons_of_mem _ (List.mem_append_right _ h)) (by decide +kernel))
set_option maxRecDepth 20000 in
theorem gX11_totalMargin_X9_marginOfAll : GoodIn wsX11_totalMargin (wsV RX11 336 RX9 yX9_marginOfAll wsX9_marginOfAll) := goodIn_app (goodIn_of _ (by decide +kernel)) ggX11_totalMargin_X9_marginOfAll
theorem dX11_totalMargin_0 : decode cX11_totalMargin 0 = .ok (.iload_n 1, 1) := by decide +kernel
theorem dX11_totalMargin_1 : decode cX11_totalMargin 1 = .ok (.invokestatic 312, 3) := by decide +kernel
theorem dX11_totalMargin_4 : decode cX11_totalMargin 4 = .ok (.aload_n 0, 1) := by decide +kernel
theorem dX11_totalMargin_5 : decode cX11_totalMargin 5 = .ok (.getfield 62, 3) := by decide +kernel
theorem dX11_totalMargin_8 : decode cX11_totalMargin 8 = .ok (.iload_n 1, 1) := by decide +kernel
theorem dX11_totalMargin_9 : decode cX11_totalMargin 9 = .ok (.invokevirtual 336, 3) := by decide +kernel
theorem dX11_totalMargin_12 : decode cX11_totalMargin 12 = .ok (.dreturn, 1) := by decide +kernel
set_option maxRecDepth 20000 in
theorem ggX11_ranked_X11_requireWhat : GoodIn wsX11_ranked wsX11_requireWhat := goodIn_ca (goodIn_r _ [5, 6, 7] rfl (by decide +kernel)) (goodIn_sub (fun _ h => List.mem_cons_of_mem _ (List.mem_append_left _ (List.mem_append_right _ h))) (by decide +kernel))
set_option maxRecDepth 20000 in
theorem gX11_ranked_X11_requireWhat : GoodIn wsX11_ranked (va_wsS RX11 312 yX11_requireWhat wsX11_requireWhat) := goodIn_app (goodIn_of _ (by decide +kernel)) ggX11_ranked_X11_requireWhat
set_option maxRecDepth 20000 in
theorem ggX11_ranked_X9_indexWithRank : GoodIn wsX11_ranked wsX9_indexWithRank := goodIn_ca (goodIn_r _ [12, 13, 14, 15, 16, 11, 17, 18, 27, 28, 29, 30, 31] rfl (by decide +kernel)) (goodIn_sub (fun _ h => List.mem_cons_of_mem _ (List.mem_append_right _ h)) (by decide +kernel))
set_option maxRecDepth 20000 in
theorem gX11_ranked_X9_indexWithRank : GoodIn wsX11_ranked (wsV RX11 340 RX9 yX9_indexWithRank wsX9_indexWithRank) := goodIn_app (goodIn_of _ (by decide +kernel)) ggX11_ranked_X9_indexWithRank
theorem dX11_ranked_0 : decode cX11_ranked 0 = .ok (.iload_n 2, 1) := by decide +kernel
theorem dX11_ranked_1 : decode cX11_ranked 1 = .ok (.invokestatic 312, 3) := by decide +kernel
theorem dX11_ranked_4 : decode cX11_ranked 4 = .ok (.aload_n 0, 1) := by decide +kernel
theorem dX11_ranked_5 : decode cX11_ranked 5 = .ok (.getfield 62, 3) := by decide +kernel
theorem dX11_ranked_8 : decode cX11_ranked 8 = .ok (.iload_n 1, 1) := by decide +kernel
theorem dX11_ranked_9 : decode cX11_ranked 9 = .ok (.iload_n 2, 1) := by decide +kernel
theorem dX11_ranked_10 : decode cX11_ranked 10 = .ok (.invokevirtual 340, 3) := by decide +kernel
theorem dX11_ranked_13 : decode cX11_ranked 13 = .ok (.ireturn, 1) := by decide +kernel

set_option maxRecDepth 20000 in
theorem ggX2_takePackets_X2_remember : GoodIn wsX2_takePackets wsX2_remember := goodIn_r _ [9, 10, 4, 11, 12, 13, 14, 15, 16, 17, 18, 19, 20, 21, 22, 23, 24, 25, 26, 27, 28, 29, 30, 31, 32, 33, 34, 35, 36, 37, 38, 39, 40, 41, 42, 43, 44, 45, 46, 47, 208, 209, 210, 211, 212, 213, 214, 215, 216, 217, 218, 219, 220, 221, 222, 223, 224, 225, 226, 227] (by decide +kernel) (by decide +kernel)
set_option maxRecDepth 20000 in
theorem gX2_takePackets_X2_remember : GoodIn wsX2_takePackets (wsV RX2 70 RX2 yX2_remember wsX2_remember) := goodIn_app (goodIn_of _ (by decide +kernel)) ggX2_takePackets_X2_remember
set_option maxRecDepth 20000 in
theorem ggX2_takePackets_X2_isSampled : GoodIn wsX2_takePackets wsX2_isSampled := goodIn_ca (goodIn_r _ [51, 52, 53, 54, 55, 208, 209, 210, 211, 212, 213, 214, 215, 216, 217, 218, 219, 220] (by decide +kernel) (by decide +kernel)) (goodIn_sub (fun _ h => List.mem_cons_of_mem _ (List.mem_append_left _ (List.mem_append_right _ h))) (by decide +kernel))
set_option maxRecDepth 20000 in
theorem gX2_takePackets_X2_isSampled : GoodIn wsX2_takePackets (wsV RX2 74 RX2 yX2_isSampled wsX2_isSampled) := goodIn_app (goodIn_of _ (by decide +kernel)) ggX2_takePackets_X2_isSampled
set_option maxRecDepth 20000 in
theorem ggX2_takePackets_X2_addToFlow : GoodIn wsX2_takePackets wsX2_addToFlow := goodIn_ca (goodIn_ca (goodIn_r _ [59, 60, 4, 11, 12, 61, 13, 14, 15, 16, 17, 18, 19, 20, 21, 22, 23, 24, 62, 63, 64, 65, 66, 67, 68, 69, 8, 70, 71, 72, 73, 74, 75, 3, 52, 76, 77, 78, 79, 33, 34, 35, 36, 80, 81, 40, 82, 83, 84, 85, 86, 87, 88, 89, 90, 91, 92, 93, 94, 95, 96, 97, 98, 99, 100, 101, 102, 103, 104, 105, 106, 107, 108, 109, 110, 111, 112, 113, 114, 115, 116, 117, 118, 119, 120, 121, 122, 43, 44, 45, 46, 42, 123, 124, 125, 126, 127, 128, 129, 130, 131, 132, 133, 134, 25, 26, 27, 28, 29, 30, 31, 32, 37, 38, 39, 41, 47, 208, 209, 210, 211, 212, 213, 214, 215, 216, 217, 218, 219, 220, 221, 222, 223, 224, 225, 226, 227, 228, 229, 230, 231, 232, 233, 234, 235, 236, 237, 238, 239, 240, 241, 242, 243, 244, 245, 246, 247, 248, 249] (by decide +kernel) (by decide +kernel)) (goodIn_sub (fun _ h => List.mem_cons_of_mem _ (List.mem_append_right _ h)) (by decide +kernel))) (goodIn_sub (fun _ h => List.mem_cons_of_mem _ (List.mem_append_left _ (List.mem_append_right _ h))) (by decide +kernel))
set_option maxRecDepth 20000 in
theorem gX2_takePackets_X2_addToFlow : GoodIn wsX2_takePackets (wsV RX2 78 RX2 yX2_addToFlow wsX2_addToFlow) := goodIn_app (goodIn_of _ (by decide +kernel)) ggX2_takePackets_X2_addToFlow
set_option maxRecDepth 20000 in
theorem ggX2_takePackets_X8_sendPending : GoodIn wsX2_takePackets wsX8_sendPending := goodIn_ca (goodIn_r _ [138, 105, 106, 107, 139, 140, 109, 141, 142, 143, 103, 144, 145, 146, 147, 148, 149, 150, 151, 152, 153, 154, 155, 156, 157, 158, 159, 128, 129, 130, 131, 132, 133, 134, 160, 161, 162, 163, 164, 165, 166, 167, 168, 169, 170, 171, 108, 111, 92, 93, 88, 94, 95, 172, 173, 174, 175, 176, 177, 178, 179, 180, 112, 113, 114, 115, 116, 117, 118, 124, 125, 126, 127, 181, 182, 183, 184, 185, 186, 187, 188, 189, 190, 191, 192, 193, 194, 195, 196, 197, 198, 199, 30, 31, 32, 200, 201, 202, 203, 204, 205, 206, 207, 238, 239, 240, 241, 242, 243, 244, 245, 246, 247, 228, 229, 230, 231, 248, 249, 250, 251, 252, 232, 233, 234, 235, 236, 237] (by decide +kernel) (by decide +kernel)) (goodIn_sub (fun _ h => List.mem_cons_of_mem _ (List.mem_append_right _ h)) (by decide +kernel))
set_option maxRecDepth 20000 in
theorem gX2_takePackets_X8_sendPending : GoodIn wsX2_takePackets (wsV RX2 82 RX8 yX8_sendPending wsX8_sendPending) := goodIn_app (goodIn_of _ (by decide +kernel)) ggX2_takePackets_X8_sendPending
theorem dX2_takePackets_0 : decode cX2_takePackets 0 = .ok (.aload_n 0, 1) := by decide +kernel
theorem dX2_takePackets_1 : decode cX2_takePackets 1 = .ok (.dup, 1) := by decide +kernel
theorem dX2_takePackets_2 : decode cX2_takePackets 2 = .ok (.getfield 43, 3) := by decide +kernel
theorem dX2_takePackets_5 : decode cX2_takePackets 5 = .ok (.iload 4, 2) := by decide +kernel
theorem dX2_takePackets_7 : decode cX2_takePackets 7 = .ok (.i2l, 1) := by decide +kernel
theorem dX2_takePackets_8 : decode cX2_takePackets 8 = .ok (.ladd, 1) := by decide +kernel
theorem dX2_takePackets_9 : decode cX2_takePackets 9 = .ok (.putfield 43, 3) := by decide +kernel
theorem dX2_takePackets_12 : decode cX2_takePackets 12 = .ok (.aload_n 0, 1) := by decide +kernel
theorem dX2_takePackets_13 : decode cX2_takePackets 13 = .ok (.lload_n 1, 1) := by decide +kernel
theorem dX2_takePackets_14 : decode cX2_takePackets 14 = .ok (.iload_n 3, 1) := by decide +kernel
theorem dX2_takePackets_15 : decode cX2_takePackets 15 = .ok (.iload 4, 2) := by decide +kernel
theorem dX2_takePackets_17 : decode cX2_takePackets 17 = .ok (.invokevirtual 70, 3) := by decide +kernel
theorem dX2_takePackets_20 : decode cX2_takePackets 20 = .ok (.iconst 0, 1) := by decide +kernel
theorem dX2_takePackets_21 : decode cX2_takePackets 21 = .ok (.istore 5, 2) := by decide +kernel
theorem dX2_takePackets_23 : decode cX2_takePackets 23 = .ok (.iconst 0, 1) := by decide +kernel
theorem dX2_takePackets_24 : decode cX2_takePackets 24 = .ok (.istore 6, 2) := by decide +kernel
theorem dX2_takePackets_26 : decode cX2_takePackets 26 = .ok (.iload 6, 2) := by decide +kernel
theorem dX2_takePackets_28 : decode cX2_takePackets 28 = .ok (.iload 4, 2) := by decide +kernel
theorem dX2_takePackets_30 : decode cX2_takePackets 30 = .ok (.if_icmp .ge 25, 3) := by decide +kernel
theorem dX2_takePackets_33 : decode cX2_takePackets 33 = .ok (.aload_n 0, 1) := by decide +kernel
theorem dX2_takePackets_34 : decode cX2_takePackets 34 = .ok (.invokevirtual 74, 3) := by decide +kernel
theorem dX2_takePackets_37 : decode cX2_takePackets 37 = .ok (.ifCond .eq 12, 3) := by decide +kernel
theorem dX2_takePackets_40 : decode cX2_takePackets 40 = .ok (.aload_n 0, 1) := by decide +kernel
theorem dX2_takePackets_41 : decode cX2_takePackets 41 = .ok (.lload_n 1, 1) := by decide +kernel
theorem dX2_takePackets_42 : decode cX2_takePackets 42 = .ok (.iload_n 3, 1) := by decide +kernel
theorem dX2_takePackets_43 : decode cX2_takePackets 43 = .ok (.invokevirtual 78, 3) := by decide +kernel
theorem dX2_takePackets_46 : decode cX2_takePackets 46 = .ok (.iinc 5 1, 3) := by decide +kernel
theorem dX2_takePackets_49 : decode cX2_takePackets 49 = .ok (.iinc 6 1, 3) := by decide +kernel
theorem dX2_takePackets_52 : decode cX2_takePackets 52 = .ok (.goto (-26), 3) := by decide +kernel
theorem dX2_takePackets_55 : decode cX2_takePackets 55 = .ok (.aload_n 0, 1) := by decide +kernel
theorem dX2_takePackets_56 : decode cX2_takePackets 56 = .ok (.dup, 1) := by decide +kernel
theorem dX2_takePackets_57 : decode cX2_takePackets 57 = .ok (.getfield 47, 3) := by decide +kernel
theorem dX2_takePackets_60 : decode cX2_takePackets 60 = .ok (.iload 5, 2) := by decide +kernel
theorem dX2_takePackets_62 : decode cX2_takePackets 62 = .ok (.i2l, 1) := by decide +kernel
theorem dX2_takePackets_63 : decode cX2_takePackets 63 = .ok (.ladd, 1) := by decide +kernel
theorem dX2_takePackets_64 : decode cX2_takePackets 64 = .ok (.putfield 47, 3) := by decide +kernel
theorem dX2_takePackets_67 : decode cX2_takePackets 67 = .ok (.aload_n 0, 1) := by decide +kernel
theorem dX2_takePackets_68 : decode cX2_takePackets 68 = .ok (.getfield 57, 3) := by decide +kernel
theorem dX2_takePackets_71 : decode cX2_takePackets 71 = .ok (.aload_n 0, 1) := by decide +kernel
theorem dX2_takePackets_72 : decode cX2_takePackets 72 = .ok (.getfield 23, 3) := by decide +kernel
theorem dX2_takePackets_75 : decode cX2_takePackets 75 = .ok (.invokevirtual 82, 3) := by decide +kernel
theorem dX2_takePackets_78 : decode cX2_takePackets 78 = .ok (.iload 5, 2) := by decide +kernel
theorem dX2_takePackets_80 : decode cX2_takePackets 80 = .ok (.ireturn, 1) := by decide +kernel
set_option maxRecDepth 20000 in
theorem ggX2_remember_X4_indexOf : GoodIn wsX2_remember wsX4_indexOf := goodIn_r _ [9, 10, 11, 12, 58, 59, 53, 54, 55, 56, 57] (by decide +kernel) (by decide +kernel)
set_option maxRecDepth 20000 in
theorem gX2_remember_X4_indexOf : GoodIn wsX2_remember (wsV RX2 87 RX4 yX4_indexOf wsX4_indexOf) := goodIn_app (goodIn_of _ (by decide +kernel)) ggX2_remember_X4_indexOf
set_option maxRecDepth 20000 in
theorem ggX2_remember_X4_isFull : GoodIn wsX2_remember wsX4_isFull := goodIn_r _ [16, 10, 11, 58, 59] (by decide +kernel) (by decide +kernel)
set_option maxRecDepth 20000 in
theorem gX2_remember_X4_isFull : GoodIn wsX2_remember (wsV RX2 91 RX4 yX4_isFull wsX4_isFull) := goodIn_app (goodIn_of _ (by decide +kernel)) ggX2_remember_X4_isFull
set_option maxRecDepth 20000 in
theorem ggX2_remember_X4_addFlow : GoodIn wsX2_remember wsX4_addFlow := goodIn_r _ [20, 10, 11, 21, 22, 23, 24, 25, 26, 27, 8, 28, 29, 30, 31, 32, 33, 34, 35, 36, 37, 38, 58, 59, 53, 54, 55, 56, 57] (by decide +kernel) (by decide +kernel)
set_option maxRecDepth 20000 in
theorem gX2_remember_X4_addFlow : GoodIn wsX2_remember (wsV RX2 94 RX4 yX4_addFlow wsX4_addFlow) := goodIn_app (goodIn_of _ (by decide +kernel)) ggX2_remember_X4_addFlow
theorem dX2_remember_0 : decode cX2_remember 0 = .ok (.aload_n 0, 1) := by decide +kernel
theorem dX2_remember_1 : decode cX2_remember 1 = .ok (.getfield 20, 3) := by decide +kernel
theorem dX2_remember_4 : decode cX2_remember 4 = .ok (.lload_n 1, 1) := by decide +kernel
theorem dX2_remember_5 : decode cX2_remember 5 = .ok (.invokevirtual 87, 3) := by decide +kernel
theorem dX2_remember_8 : decode cX2_remember 8 = .ok (.istore 5, 2) := by decide +kernel
theorem dX2_remember_10 : decode cX2_remember 10 = .ok (.iload 5, 2) := by decide +kernel
theorem dX2_remember_12 : decode cX2_remember 12 = .ok (.iconst (-1), 1) := by decide +kernel
theorem dX2_remember_13 : decode cX2_remember 13 = .ok (.if_icmp .ne 14, 3) := by decide +kernel
theorem dX2_remember_16 : decode cX2_remember 16 = .ok (.aload_n 0, 1) := by decide +kernel
theorem dX2_remember_17 : decode cX2_remember 17 = .ok (.getfield 20, 3) := by decide +kernel
theorem dX2_remember_20 : decode cX2_remember 20 = .ok (.invokevirtual 91, 3) := by decide +kernel
theorem dX2_remember_23 : decode cX2_remember 23 = .ok (.ifCond .eq 4, 3) := by decide +kernel
theorem dX2_remember_27 : decode cX2_remember 27 = .ok (.iload 5, 2) := by decide +kernel
theorem dX2_remember_29 : decode cX2_remember 29 = .ok (.iconst (-1), 1) := by decide +kernel
theorem dX2_remember_30 : decode cX2_remember 30 = .ok (.if_icmp .ne 18, 3) := by decide +kernel
theorem dX2_remember_33 : decode cX2_remember 33 = .ok (.aload_n 0, 1) := by decide +kernel
theorem dX2_remember_34 : decode cX2_remember 34 = .ok (.getfield 20, 3) := by decide +kernel
theorem dX2_remember_37 : decode cX2_remember 37 = .ok (.lload_n 1, 1) := by decide +kernel
theorem dX2_remember_38 : decode cX2_remember 38 = .ok (.aload_n 0, 1) := by decide +kernel
theorem dX2_remember_39 : decode cX2_remember 39 = .ok (.getfield 23, 3) := by decide +kernel
theorem dX2_remember_42 : decode cX2_remember 42 = .ok (.invokevirtual 94, 3) := by decide +kernel
theorem dX2_remember_45 : decode cX2_remember 45 = .ok (.goto 12, 3) := by decide +kernel
theorem dX2_remember_57 : decode cX2_remember 57 = .ok (.astore 6, 2) := by decide +kernel
theorem dX2_remember_59 : decode cX2_remember 59 = .ok (.aload 6, 2) := by decide +kernel
theorem dX2_remember_61 : decode cX2_remember 61 = .ok (.dup, 1) := by decide +kernel
theorem dX2_remember_62 : decode cX2_remember 62 = .ok (.getfield 102, 3) := by decide +kernel
theorem dX2_remember_65 : decode cX2_remember 65 = .ok (.iload 4, 2) := by decide +kernel
theorem dX2_remember_67 : decode cX2_remember 67 = .ok (.i2l, 1) := by decide +kernel
theorem dX2_remember_68 : decode cX2_remember 68 = .ok (.ladd, 1) := by decide +kernel
theorem dX2_remember_69 : decode cX2_remember 69 = .ok (.putfield 102, 3) := by decide +kernel
theorem dX2_remember_72 : decode cX2_remember 72 = .ok (.aload 6, 2) := by decide +kernel
theorem dX2_remember_74 : decode cX2_remember 74 = .ok (.dup, 1) := by decide +kernel
theorem dX2_remember_75 : decode cX2_remember 75 = .ok (.getfield 107, 3) := by decide +kernel
theorem dX2_remember_78 : decode cX2_remember 78 = .ok (.iload 4, 2) := by decide +kernel
theorem dX2_remember_80 : decode cX2_remember 80 = .ok (.i2l, 1) := by decide +kernel
theorem dX2_remember_81 : decode cX2_remember 81 = .ok (.iload_n 3, 1) := by decide +kernel
theorem dX2_remember_82 : decode cX2_remember 82 = .ok (.i2l, 1) := by decide +kernel
theorem dX2_remember_83 : decode cX2_remember 83 = .ok (.lmul, 1) := by decide +kernel
theorem dX2_remember_84 : decode cX2_remember 84 = .ok (.ladd, 1) := by decide +kernel
theorem dX2_remember_85 : decode cX2_remember 85 = .ok (.putfield 107, 3) := by decide +kernel
theorem dX2_remember_88 : decode cX2_remember 88 = .ok (.return_, 1) := by decide +kernel
theorem dX2_isSampled_0 : decode cX2_isSampled 0 = .ok (.aload_n 0, 1) := by decide +kernel
theorem dX2_isSampled_1 : decode cX2_isSampled 1 = .ok (.getfield 27, 3) := by decide +kernel
theorem dX2_isSampled_4 : decode cX2_isSampled 4 = .ok (.iconst 1, 1) := by decide +kernel
theorem dX2_isSampled_5 : decode cX2_isSampled 5 = .ok (.if_icmp .gt 5, 3) := by decide +kernel
theorem dX2_isSampled_8 : decode cX2_isSampled 8 = .ok (.iconst 1, 1) := by decide +kernel
theorem dX2_isSampled_9 : decode cX2_isSampled 9 = .ok (.ireturn, 1) := by decide +kernel
set_option maxRecDepth 20000 in
theorem ggX2_addToFlow_X4_indexOf : GoodIn wsX2_addToFlow wsX4_indexOf := goodIn_r _ [10, 11, 12, 13, 135, 136, 130, 131, 132, 133, 134] (by decide +kernel) (by decide +kernel)
set_option maxRecDepth 20000 in
theorem gX2_addToFlow_X4_indexOf : GoodIn wsX2_addToFlow (wsV RX2 87 RX4 yX4_indexOf wsX4_indexOf) := goodIn_app (goodIn_of _ (by decide +kernel)) ggX2_addToFlow_X4_indexOf
set_option maxRecDepth 20000 in
theorem ggX2_addToFlow_X4_isFull : GoodIn wsX2_addToFlow wsX4_isFull := goodIn_r _ [17, 11, 12, 135, 136] (by decide +kernel) (by decide +kernel)
set_option maxRecDepth 20000 in
theorem gX2_addToFlow_X4_isFull : GoodIn wsX2_addToFlow (wsV RX2 91 RX4 yX4_isFull wsX4_isFull) := goodIn_app (goodIn_of _ (by decide +kernel)) ggX2_addToFlow_X4_isFull
set_option maxRecDepth 20000 in
theorem ggX2_addToFlow_X4_addFlow : GoodIn wsX2_addToFlow wsX4_addFlow := goodIn_r _ [107, 11, 12, 108, 109, 110, 111, 39, 40, 41, 9, 42, 112, 113, 114, 45, 115, 91, 87, 88, 89, 90, 135, 136, 130, 131, 132, 133, 134] (by decide +kernel) (by decide +kernel)
set_option maxRecDepth 20000 in
theorem gX2_addToFlow_X4_addFlow : GoodIn wsX2_addToFlow (wsV RX2 94 RX4 yX4_addFlow wsX4_addFlow) := goodIn_app (goodIn_of _ (by decide +kernel)) ggX2_addToFlow_X4_addFlow
theorem dX2_addToFlow_0 : decode cX2_addToFlow 0 = .ok (.aload_n 0, 1) := by decide +kernel
theorem dX2_addToFlow_1 : decode cX2_addToFlow 1 = .ok (.getfield 14, 3) := by decide +kernel
theorem dX2_addToFlow_4 : decode cX2_addToFlow 4 = .ok (.lload_n 1, 1) := by decide +kernel
theorem dX2_addToFlow_5 : decode cX2_addToFlow 5 = .ok (.invokevirtual 87, 3) := by decide +kernel
theorem dX2_addToFlow_8 : decode cX2_addToFlow 8 = .ok (.istore 4, 2) := by decide +kernel
theorem dX2_addToFlow_10 : decode cX2_addToFlow 10 = .ok (.iload 4, 2) := by decide +kernel
theorem dX2_addToFlow_12 : decode cX2_addToFlow 12 = .ok (.iconst (-1), 1) := by decide +kernel
theorem dX2_addToFlow_13 : decode cX2_addToFlow 13 = .ok (.if_icmp .ne 24, 3) := by decide +kernel
theorem dX2_addToFlow_16 : decode cX2_addToFlow 16 = .ok (.aload_n 0, 1) := by decide +kernel
theorem dX2_addToFlow_17 : decode cX2_addToFlow 17 = .ok (.getfield 14, 3) := by decide +kernel
theorem dX2_addToFlow_20 : decode cX2_addToFlow 20 = .ok (.invokevirtual 91, 3) := by decide +kernel
theorem dX2_addToFlow_23 : decode cX2_addToFlow 23 = .ok (.ifCond .eq 14, 3) := by decide +kernel
theorem dX2_addToFlow_37 : decode cX2_addToFlow 37 = .ok (.iload 4, 2) := by decide +kernel
theorem dX2_addToFlow_39 : decode cX2_addToFlow 39 = .ok (.iconst (-1), 1) := by decide +kernel
theorem dX2_addToFlow_40 : decode cX2_addToFlow 40 = .ok (.if_icmp .ne 18, 3) := by decide +kernel
theorem dX2_addToFlow_43 : decode cX2_addToFlow 43 = .ok (.aload_n 0, 1) := by decide +kernel
theorem dX2_addToFlow_44 : decode cX2_addToFlow 44 = .ok (.getfield 14, 3) := by decide +kernel
theorem dX2_addToFlow_47 : decode cX2_addToFlow 47 = .ok (.lload_n 1, 1) := by decide +kernel
theorem dX2_addToFlow_48 : decode cX2_addToFlow 48 = .ok (.aload_n 0, 1) := by decide +kernel
theorem dX2_addToFlow_49 : decode cX2_addToFlow 49 = .ok (.getfield 23, 3) := by decide +kernel
theorem dX2_addToFlow_52 : decode cX2_addToFlow 52 = .ok (.invokevirtual 94, 3) := by decide +kernel
theorem dX2_addToFlow_55 : decode cX2_addToFlow 55 = .ok (.goto 12, 3) := by decide +kernel
theorem dX2_addToFlow_67 : decode cX2_addToFlow 67 = .ok (.astore 5, 2) := by decide +kernel
theorem dX2_addToFlow_69 : decode cX2_addToFlow 69 = .ok (.aload 5, 2) := by decide +kernel
theorem dX2_addToFlow_71 : decode cX2_addToFlow 71 = .ok (.dup, 1) := by decide +kernel
theorem dX2_addToFlow_72 : decode cX2_addToFlow 72 = .ok (.getfield 102, 3) := by decide +kernel
theorem dX2_addToFlow_75 : decode cX2_addToFlow 75 = .ok (.lconst 1, 1) := by decide +kernel
theorem dX2_addToFlow_76 : decode cX2_addToFlow 76 = .ok (.ladd, 1) := by decide +kernel
theorem dX2_addToFlow_77 : decode cX2_addToFlow 77 = .ok (.putfield 102, 3) := by decide +kernel
theorem dX2_addToFlow_80 : decode cX2_addToFlow 80 = .ok (.aload 5, 2) := by decide +kernel
theorem dX2_addToFlow_82 : decode cX2_addToFlow 82 = .ok (.dup, 1) := by decide +kernel
theorem dX2_addToFlow_83 : decode cX2_addToFlow 83 = .ok (.getfield 107, 3) := by decide +kernel
theorem dX2_addToFlow_86 : decode cX2_addToFlow 86 = .ok (.iload_n 3, 1) := by decide +kernel
theorem dX2_addToFlow_87 : decode cX2_addToFlow 87 = .ok (.i2l, 1) := by decide +kernel
theorem dX2_addToFlow_88 : decode cX2_addToFlow 88 = .ok (.ladd, 1) := by decide +kernel
theorem dX2_addToFlow_89 : decode cX2_addToFlow 89 = .ok (.putfield 107, 3) := by decide +kernel
theorem dX2_addToFlow_92 : decode cX2_addToFlow 92 = .ok (.aload 5, 2) := by decide +kernel
theorem dX2_addToFlow_94 : decode cX2_addToFlow 94 = .ok (.aload_n 0, 1) := by decide +kernel
theorem dX2_addToFlow_95 : decode cX2_addToFlow 95 = .ok (.getfield 23, 3) := by decide +kernel
theorem dX2_addToFlow_98 : decode cX2_addToFlow 98 = .ok (.putfield 123, 3) := by decide +kernel
theorem dX2_addToFlow_101 : decode cX2_addToFlow 101 = .ok (.return_, 1) := by decide +kernel
theorem dX11_requirePackets_0 : decode cX11_requirePackets 0 = .ok (.lload_n 0, 1) := by decide +kernel
theorem dX11_requirePackets_1 : decode cX11_requirePackets 1 = .ok (.ldc2_w 113, 3) := by decide +kernel
theorem dX11_requirePackets_4 : decode cX11_requirePackets 4 = .ok (.lcmp, 1) := by decide +kernel
theorem dX11_requirePackets_5 : decode cX11_requirePackets 5 = .ok (.ifCond .eq 26, 3) := by decide +kernel
theorem dX11_requirePackets_8 : decode cX11_requirePackets 8 = .ok (.iload_n 2, 1) := by decide +kernel
theorem dX11_requirePackets_9 : decode cX11_requirePackets 9 = .ok (.iconst 1, 1) := by decide +kernel
theorem dX11_requirePackets_10 : decode cX11_requirePackets 10 = .ok (.if_icmp .lt 21, 3) := by decide +kernel
theorem dX11_requirePackets_13 : decode cX11_requirePackets 13 = .ok (.iload_n 2, 1) := by decide +kernel
theorem dX11_requirePackets_14 : decode cX11_requirePackets 14 = .ok (.ldc 115, 2) := by decide +kernel
theorem dX11_requirePackets_16 : decode cX11_requirePackets 16 = .ok (.if_icmp .gt 15, 3) := by decide +kernel
theorem dX11_requirePackets_19 : decode cX11_requirePackets 19 = .ok (.iload_n 3, 1) := by decide +kernel
theorem dX11_requirePackets_20 : decode cX11_requirePackets 20 = .ok (.iconst 1, 1) := by decide +kernel
theorem dX11_requirePackets_21 : decode cX11_requirePackets 21 = .ok (.if_icmp .lt 10, 3) := by decide +kernel
theorem dX11_requirePackets_24 : decode cX11_requirePackets 24 = .ok (.iload_n 3, 1) := by decide +kernel
theorem dX11_requirePackets_25 : decode cX11_requirePackets 25 = .ok (.sipush 200, 3) := by decide +kernel
theorem dX11_requirePackets_28 : decode cX11_requirePackets 28 = .ok (.if_icmp .le 11, 3) := by decide +kernel
theorem dX11_requirePackets_31 : decode cX11_requirePackets 31 = .ok (.new 116, 3) := by decide +kernel
theorem dX11_requirePackets_34 : decode cX11_requirePackets 34 = .ok (.dup, 1) := by decide +kernel
theorem dX11_requirePackets_35 : decode cX11_requirePackets 35 = .ok (.invokespecial 118, 3) := by decide +kernel
theorem dX11_requirePackets_38 : decode cX11_requirePackets 38 = .ok (.athrow, 1) := by decide +kernel
theorem dX11_requirePackets_39 : decode cX11_requirePackets 39 = .ok (.return_, 1) := by decide +kernel

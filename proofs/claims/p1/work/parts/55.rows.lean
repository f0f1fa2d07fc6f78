theorem dX12_flowOf_12 : decode cX12_flowOf 12 = .ok (.aload_n 0, 1) := by decide +kernel
theorem dX12_flowOf_13 : decode cX12_flowOf 13 = .ok (.getfield 26, 3) := by decide +kernel
theorem dX12_flowOf_16 : decode cX12_flowOf 16 = .ok (.bipush 8, 2) := by decide +kernel
theorem dX12_flowOf_18 : decode cX12_flowOf 18 = .ok (.iload 5, 2) := by decide +kernel
theorem dX12_flowOf_20 : decode cX12_flowOf 20 = .ok (.imul, 1) := by decide +kernel
theorem dX12_flowOf_21 : decode cX12_flowOf 21 = .ok (.laload, 1) := by decide +kernel
theorem dX12_flowOf_22 : decode cX12_flowOf 22 = .ok (.iload_n 1, 1) := by decide +kernel
theorem dX12_flowOf_23 : decode cX12_flowOf 23 = .ok (.i2l, 1) := by decide +kernel
theorem dX12_flowOf_24 : decode cX12_flowOf 24 = .ok (.lcmp, 1) := by decide +kernel
theorem dX12_flowOf_25 : decode cX12_flowOf 25 = .ok (.ifCond .ne 61, 3) := by decide +kernel
theorem dX12_flowOf_28 : decode cX12_flowOf 28 = .ok (.aload_n 0, 1) := by decide +kernel
theorem dX12_flowOf_29 : decode cX12_flowOf 29 = .ok (.getfield 26, 3) := by decide +kernel
theorem dX12_flowOf_32 : decode cX12_flowOf 32 = .ok (.bipush 8, 2) := by decide +kernel
theorem dX12_flowOf_34 : decode cX12_flowOf 34 = .ok (.iload 5, 2) := by decide +kernel
theorem dX12_flowOf_36 : decode cX12_flowOf 36 = .ok (.imul, 1) := by decide +kernel
theorem dX12_flowOf_37 : decode cX12_flowOf 37 = .ok (.iconst 1, 1) := by decide +kernel
theorem dX12_flowOf_38 : decode cX12_flowOf 38 = .ok (.iadd, 1) := by decide +kernel
theorem dX12_flowOf_39 : decode cX12_flowOf 39 = .ok (.laload, 1) := by decide +kernel
theorem dX12_flowOf_40 : decode cX12_flowOf 40 = .ok (.iload_n 2, 1) := by decide +kernel
theorem dX12_flowOf_41 : decode cX12_flowOf 41 = .ok (.i2l, 1) := by decide +kernel
theorem dX12_flowOf_42 : decode cX12_flowOf 42 = .ok (.lcmp, 1) := by decide +kernel
theorem dX12_flowOf_43 : decode cX12_flowOf 43 = .ok (.ifCond .ne 43, 3) := by decide +kernel
theorem dX12_flowOf_46 : decode cX12_flowOf 46 = .ok (.aload_n 0, 1) := by decide +kernel
theorem dX12_flowOf_47 : decode cX12_flowOf 47 = .ok (.getfield 26, 3) := by decide +kernel
theorem dX12_flowOf_50 : decode cX12_flowOf 50 = .ok (.bipush 8, 2) := by decide +kernel
theorem dX12_flowOf_52 : decode cX12_flowOf 52 = .ok (.iload 5, 2) := by decide +kernel
theorem dX12_flowOf_54 : decode cX12_flowOf 54 = .ok (.imul, 1) := by decide +kernel
theorem dX12_flowOf_55 : decode cX12_flowOf 55 = .ok (.iconst 2, 1) := by decide +kernel
theorem dX12_flowOf_56 : decode cX12_flowOf 56 = .ok (.iadd, 1) := by decide +kernel
theorem dX12_flowOf_57 : decode cX12_flowOf 57 = .ok (.laload, 1) := by decide +kernel
theorem dX12_flowOf_58 : decode cX12_flowOf 58 = .ok (.iload_n 3, 1) := by decide +kernel
theorem dX12_flowOf_59 : decode cX12_flowOf 59 = .ok (.i2l, 1) := by decide +kernel
theorem dX12_flowOf_60 : decode cX12_flowOf 60 = .ok (.lcmp, 1) := by decide +kernel
theorem dX12_flowOf_61 : decode cX12_flowOf 61 = .ok (.ifCond .ne 25, 3) := by decide +kernel
theorem dX12_flowOf_64 : decode cX12_flowOf 64 = .ok (.aload_n 0, 1) := by decide +kernel
theorem dX12_flowOf_65 : decode cX12_flowOf 65 = .ok (.getfield 26, 3) := by decide +kernel
theorem dX12_flowOf_68 : decode cX12_flowOf 68 = .ok (.bipush 8, 2) := by decide +kernel
theorem dX12_flowOf_70 : decode cX12_flowOf 70 = .ok (.iload 5, 2) := by decide +kernel
theorem dX12_flowOf_72 : decode cX12_flowOf 72 = .ok (.imul, 1) := by decide +kernel
theorem dX12_flowOf_73 : decode cX12_flowOf 73 = .ok (.iconst 3, 1) := by decide +kernel
theorem dX12_flowOf_74 : decode cX12_flowOf 74 = .ok (.iadd, 1) := by decide +kernel
theorem dX12_flowOf_75 : decode cX12_flowOf 75 = .ok (.laload, 1) := by decide +kernel
theorem dX12_flowOf_76 : decode cX12_flowOf 76 = .ok (.iload 4, 2) := by decide +kernel
theorem dX12_flowOf_78 : decode cX12_flowOf 78 = .ok (.i2l, 1) := by decide +kernel
theorem dX12_flowOf_79 : decode cX12_flowOf 79 = .ok (.lcmp, 1) := by decide +kernel
theorem dX12_flowOf_80 : decode cX12_flowOf 80 = .ok (.ifCond .ne 6, 3) := by decide +kernel
theorem dX12_flowOf_83 : decode cX12_flowOf 83 = .ok (.iload 5, 2) := by decide +kernel
theorem dX12_flowOf_85 : decode cX12_flowOf 85 = .ok (.ireturn, 1) := by decide +kernel
set_option maxRecDepth 20000 in
theorem ggX12_observeMany_X12_isPacket : GoodIn wsX12_observeMany wsX12_isPacket := goodIn_r _ [6, 7, 8, 9, 5, 10, 11, 12, 13, 14] (by decide +kernel) (by decide +kernel)
set_option maxRecDepth 20000 in
theorem gX12_observeMany_X12_isPacket : GoodIn wsX12_observeMany (va_wsS RX12 247 yX12_isPacket wsX12_isPacket) := goodIn_app (goodIn_of _ (by decide +kernel)) ggX12_observeMany_X12_isPacket
set_option maxRecDepth 20000 in
theorem ggX12_observeMany_X12_inRange : GoodIn wsX12_observeMany wsX12_inRange := goodIn_r _ [14] (by decide +kernel) (by decide +kernel)
set_option maxRecDepth 20000 in
theorem gX12_observeMany_X12_inRange : GoodIn wsX12_observeMany (va_wsS RX12 169 yX12_inRange wsX12_inRange) := goodIn_app (goodIn_of _ (by decide +kernel)) ggX12_observeMany_X12_inRange
set_option maxRecDepth 20000 in
theorem ggX12_observeMany_X12_throwsIf : GoodIn wsX12_observeMany wsX12_throwsIf := goodIn_r _ [18, 1, 165, 166, 167, 168, 169, 170, 171, 172, 173, 174, 175, 176, 177, 178, 179, 180, 181, 182, 183, 184, 185, 186, 187, 188, 189, 190, 191, 192, 193, 194, 195, 196, 197, 198, 199, 200, 201, 202, 203, 204, 205, 206, 207, 208, 209, 210, 211, 212, 213, 214, 215, 216, 217, 218] (by decide +kernel) (by decide +kernel)
set_option maxRecDepth 20000 in
theorem gX12_observeMany_X12_throwsIf : GoodIn wsX12_observeMany (wsV RX12 185 RX12 yX12_throwsIf wsX12_throwsIf) := goodIn_app (goodIn_of _ (by decide +kernel)) ggX12_observeMany_X12_throwsIf
set_option maxRecDepth 20000 in
theorem ggX12_observeMany_X12_see : GoodIn wsX12_observeMany wsX12_see := goodIn_ca (goodIn_ca (goodIn_r _ [22, 23, 24, 25, 26, 27, 28, 29, 30, 31, 5, 32, 33, 34, 35, 36, 37, 38, 39, 40, 41, 42, 43, 44, 45, 46, 47, 48, 49, 50, 51, 52, 53, 54, 55, 56, 57, 58, 59, 60, 61, 62, 63, 64, 65, 66, 67, 68, 69, 70, 71, 72, 73, 74, 75, 76, 77, 78, 79, 80, 81, 82, 83, 84, 85, 86, 87, 11, 88, 89, 90, 91, 92, 93, 94, 95, 96, 97, 98, 99, 100, 101, 102, 103, 104, 105, 106, 107, 108, 109, 110, 111, 165, 166, 167, 168, 169, 170, 171, 172, 173, 174, 175, 176, 177, 178, 179, 180, 181, 182, 183, 184, 185, 186, 187, 188, 189, 190, 191, 192, 193, 194, 195, 196, 197, 198, 199, 200, 201, 202, 203, 204, 205, 206, 207, 208, 209, 210, 211, 212, 213, 214, 215, 216, 217, 218] (by decide +kernel) (by decide +kernel)) (goodIn_sub (fun _ h => List.mem_cons_of_mem _ (List.mem_append_left _ (List.mem_append_right _ h))) (by decide +kernel))) (goodIn_sub (fun _ h => List.mem_cons_of_mem _ (List.mem_append_right _ h)) (by decide +kernel))
set_option maxRecDepth 20000 in
theorem gX12_observeMany_X12_see : GoodIn wsX12_observeMany (wsV RX12 251 RX12 yX12_see wsX12_see) := goodIn_app (goodIn_of _ (by decide +kernel)) ggX12_observeMany_X12_see
set_option maxRecDepth 20000 in
theorem ggX12_observeMany_X12_sendPending : GoodIn wsX12_observeMany wsX12_sendPending := goodIn_ca (goodIn_r _ [115, 86, 116, 117, 28, 118, 119, 120, 121, 122, 123, 124, 5, 125, 126, 11, 127, 128, 129, 130, 63, 131, 132, 133, 134, 135, 136, 137, 66, 67, 68, 69, 70, 71, 72, 73, 74, 75, 76, 77, 78, 79, 80, 81, 138, 139, 140, 141, 142, 143, 144, 89, 90, 91, 92, 93, 94, 95, 145, 146, 147, 148, 149, 150, 151, 152, 88, 87, 153, 154, 155, 156, 157, 158, 159, 160, 161, 162, 163, 164, 165, 166, 167, 168, 169, 170, 171, 172, 173, 174, 175, 176, 177, 178, 179, 180, 181, 182, 183, 184, 185, 186, 187, 188, 189, 190, 191, 192, 193, 194, 195, 196, 197, 198, 199, 200, 201, 202, 203, 204, 205, 206, 207, 208, 209, 210, 211, 212, 213, 214, 215, 216, 217, 218] (by decide +kernel) (by decide +kernel)) (goodIn_sub (fun _ h => List.mem_cons_of_mem _ (List.mem_append_left _ (List.mem_append_right _ h))) (by decide +kernel))
set_option maxRecDepth 20000 in
theorem gX12_observeMany_X12_sendPending : GoodIn wsX12_observeMany (wsV RX12 254 RX12 yX12_sendPending wsX12_sendPending) := goodIn_app (goodIn_of _ (by decide +kernel)) ggX12_observeMany_X12_sendPending
theorem dX12_observeMany_0 : decode cX12_observeMany 0 = .ok (.aload_n 0, 1) := by decide +kernel
theorem dX12_observeMany_1 : decode cX12_observeMany 1 = .ok (.iconst 0, 1) := by decide +kernel
theorem dX12_observeMany_2 : decode cX12_observeMany 2 = .ok (.putfield 1, 3) := by decide +kernel
theorem dX12_observeMany_5 : decode cX12_observeMany 5 = .ok (.aload_n 0, 1) := by decide +kernel
theorem dX12_observeMany_6 : decode cX12_observeMany 6 = .ok (.iload_n 1, 1) := by decide +kernel
theorem dX12_observeMany_7 : decode cX12_observeMany 7 = .ok (.iload_n 2, 1) := by decide +kernel
theorem dX12_observeMany_8 : decode cX12_observeMany 8 = .ok (.iload_n 3, 1) := by decide +kernel
theorem dX12_observeMany_9 : decode cX12_observeMany 9 = .ok (.iload 4, 2) := by decide +kernel
theorem dX12_observeMany_11 : decode cX12_observeMany 11 = .ok (.iload 5, 2) := by decide +kernel
theorem dX12_observeMany_13 : decode cX12_observeMany 13 = .ok (.invokestatic 247, 3) := by decide +kernel
theorem dX12_observeMany_16 : decode cX12_observeMany 16 = .ok (.ifCond .eq 16, 3) := by decide +kernel
theorem dX12_observeMany_19 : decode cX12_observeMany 19 = .ok (.iload 6, 2) := by decide +kernel
theorem dX12_observeMany_21 : decode cX12_observeMany 21 = .ok (.i2l, 1) := by decide +kernel
theorem dX12_observeMany_22 : decode cX12_observeMany 22 = .ok (.lconst 1, 1) := by decide +kernel
theorem dX12_observeMany_23 : decode cX12_observeMany 23 = .ok (.ldc2_w 257, 3) := by decide +kernel
theorem dX12_observeMany_26 : decode cX12_observeMany 26 = .ok (.invokestatic 169, 3) := by decide +kernel
theorem dX12_observeMany_29 : decode cX12_observeMany 29 = .ok (.ifCond .ne 7, 3) := by decide +kernel
theorem dX12_observeMany_32 : decode cX12_observeMany 32 = .ok (.iconst 1, 1) := by decide +kernel
theorem dX12_observeMany_33 : decode cX12_observeMany 33 = .ok (.goto 4, 3) := by decide +kernel
theorem dX12_observeMany_36 : decode cX12_observeMany 36 = .ok (.iconst 0, 1) := by decide +kernel
theorem dX12_observeMany_37 : decode cX12_observeMany 37 = .ok (.iconst 1, 1) := by decide +kernel
theorem dX12_observeMany_38 : decode cX12_observeMany 38 = .ok (.invokevirtual 185, 3) := by decide +kernel
theorem dX12_observeMany_41 : decode cX12_observeMany 41 = .ok (.ifCond .eq 5, 3) := by decide +kernel
theorem dX12_observeMany_44 : decode cX12_observeMany 44 = .ok (.iconst 0, 1) := by decide +kernel
theorem dX12_observeMany_45 : decode cX12_observeMany 45 = .ok (.ireturn, 1) := by decide +kernel
theorem dX12_observeMany_46 : decode cX12_observeMany 46 = .ok (.iconst 0, 1) := by decide +kernel
theorem dX12_observeMany_47 : decode cX12_observeMany 47 = .ok (.istore 7, 2) := by decide +kernel
theorem dX12_observeMany_49 : decode cX12_observeMany 49 = .ok (.iconst 0, 1) := by decide +kernel
theorem dX12_observeMany_50 : decode cX12_observeMany 50 = .ok (.istore 8, 2) := by decide +kernel
theorem dX12_observeMany_52 : decode cX12_observeMany 52 = .ok (.iload 8, 2) := by decide +kernel
theorem dX12_observeMany_54 : decode cX12_observeMany 54 = .ok (.iload 6, 2) := by decide +kernel
theorem dX12_observeMany_56 : decode cX12_observeMany 56 = .ok (.if_icmp .ge 33, 3) := by decide +kernel
theorem dX12_observeMany_59 : decode cX12_observeMany 59 = .ok (.iload 7, 2) := by decide +kernel
theorem dX12_observeMany_61 : decode cX12_observeMany 61 = .ok (.aload_n 0, 1) := by decide +kernel
theorem dX12_observeMany_62 : decode cX12_observeMany 62 = .ok (.iload_n 1, 1) := by decide +kernel
theorem dX12_observeMany_63 : decode cX12_observeMany 63 = .ok (.iload_n 2, 1) := by decide +kernel
theorem dX12_observeMany_64 : decode cX12_observeMany 64 = .ok (.iload_n 3, 1) := by decide +kernel
theorem dX12_observeMany_65 : decode cX12_observeMany 65 = .ok (.iload 4, 2) := by decide +kernel
theorem dX12_observeMany_67 : decode cX12_observeMany 67 = .ok (.iload 5, 2) := by decide +kernel
theorem dX12_observeMany_69 : decode cX12_observeMany 69 = .ok (.invokevirtual 251, 3) := by decide +kernel
theorem dX12_observeMany_72 : decode cX12_observeMany 72 = .ok (.ifCond .eq 7, 3) := by decide +kernel
theorem dX12_observeMany_75 : decode cX12_observeMany 75 = .ok (.iconst 1, 1) := by decide +kernel
theorem dX12_observeMany_76 : decode cX12_observeMany 76 = .ok (.goto 4, 3) := by decide +kernel
theorem dX12_observeMany_80 : decode cX12_observeMany 80 = .ok (.iadd, 1) := by decide +kernel
theorem dX12_observeMany_81 : decode cX12_observeMany 81 = .ok (.istore 7, 2) := by decide +kernel
theorem dX12_observeMany_83 : decode cX12_observeMany 83 = .ok (.iinc 8 1, 3) := by decide +kernel
theorem dX12_observeMany_86 : decode cX12_observeMany 86 = .ok (.goto (-34), 3) := by decide +kernel
theorem dX12_observeMany_89 : decode cX12_observeMany 89 = .ok (.aload_n 0, 1) := by decide +kernel
theorem dX12_observeMany_90 : decode cX12_observeMany 90 = .ok (.invokevirtual 254, 3) := by decide +kernel
theorem dX12_observeMany_93 : decode cX12_observeMany 93 = .ok (.iload 7, 2) := by decide +kernel
theorem dX12_observeMany_95 : decode cX12_observeMany 95 = .ok (.ireturn, 1) := by decide +kernel
theorem dX12_adapt_0 : decode cX12_adapt 0 = .ok (.aload_n 0, 1) := by decide +kernel
theorem dX12_adapt_1 : decode cX12_adapt 1 = .ok (.getfield 114, 3) := by decide +kernel
theorem dX12_adapt_4 : decode cX12_adapt 4 = .ok (.istore_n 1, 1) := by decide +kernel
theorem dX12_adapt_5 : decode cX12_adapt 5 = .ok (.aload_n 0, 1) := by decide +kernel
theorem dX12_adapt_6 : decode cX12_adapt 6 = .ok (.iconst 0, 1) := by decide +kernel
theorem dX12_adapt_7 : decode cX12_adapt 7 = .ok (.putfield 114, 3) := by decide +kernel
theorem dX12_adapt_10 : decode cX12_adapt 10 = .ok (.aload_n 0, 1) := by decide +kernel
theorem dX12_adapt_11 : decode cX12_adapt 11 = .ok (.getfield 110, 3) := by decide +kernel
theorem dX12_adapt_14 : decode cX12_adapt 14 = .ok (.ifCond .ne 5, 3) := by decide +kernel
theorem dX12_adapt_17 : decode cX12_adapt 17 = .ok (.iconst 0, 1) := by decide +kernel
theorem dX12_adapt_18 : decode cX12_adapt 18 = .ok (.ireturn, 1) := by decide +kernel
set_option maxRecDepth 20000 in
theorem ggX12_tick_X12_adapt : GoodIn wsX12_tick wsX12_adapt := goodIn_ca (goodIn_r _ [67, 15, 68, 9, 51, 69, 70, 71, 6, 72, 73, 74, 75, 76, 2, 10, 11, 12, 13, 8, 14, 16, 17, 18, 19, 20, 21, 22, 23, 24, 25, 26, 27, 28, 29, 30, 31, 32, 33, 34, 35, 36, 37, 38, 39, 40, 41, 42, 43, 44, 45, 46, 47, 48, 49, 50, 52, 53, 54, 55, 56, 57, 58, 59, 60, 61, 62, 63, 130, 131, 132, 133, 134, 135, 136, 137, 138, 139, 140, 141, 142, 143, 144, 145, 146, 147, 148, 149, 150, 151, 152, 153, 154, 155, 156, 157, 158, 159, 160, 161, 162, 163, 164, 165, 166, 167, 168, 169, 170, 171, 172, 173, 174, 175, 176, 177, 178, 179, 180, 181, 182, 183] (by decide +kernel) (by decide +kernel)) (goodIn_sub (fun _ h => List.mem_cons_of_mem _ (List.mem_append_right _ h)) (by decide +kernel))
set_option maxRecDepth 20000 in
theorem gX12_tick_X12_adapt : GoodIn wsX12_tick (wsV RX12 271 RX12 yX12_adapt wsX12_adapt) := goodIn_app (goodIn_of _ (by decide +kernel)) ggX12_tick_X12_adapt
set_option maxRecDepth 20000 in
theorem ggX12_tick_X12_sendPending : GoodIn wsX12_tick wsX12_sendPending := goodIn_ca (goodIn_r _ [80, 36, 81, 82, 1, 83, 84, 85, 86, 87, 88, 89, 6, 90, 91, 38, 92, 93, 94, 95, 9, 96, 97, 98, 99, 100, 101, 102, 16, 17, 18, 19, 20, 21, 22, 23, 24, 25, 26, 27, 28, 29, 30, 31, 103, 104, 105, 106, 107, 108, 109, 40, 41, 42, 43, 44, 45, 46, 110, 111, 112, 113, 114, 115, 116, 117, 39, 37, 118, 119, 120, 121, 122, 123, 124, 125, 126, 127, 128, 129, 130, 131, 132, 133, 134, 135, 136, 137, 138, 139, 140, 141, 142, 143, 144, 145, 146, 147, 148, 149, 150, 151, 152, 153, 154, 155, 156, 157, 158, 159, 160, 161, 162, 163, 164, 165, 166, 167, 168, 169, 170, 171, 172, 173, 174, 175, 176, 177, 178, 179, 180, 181, 182, 183] (by decide +kernel) (by decide +kernel)) (goodIn_sub (fun _ h => List.mem_cons_of_mem _ (List.mem_append_right _ h)) (by decide +kernel))
set_option maxRecDepth 20000 in
theorem gX12_tick_X12_sendPending : GoodIn wsX12_tick (wsV RX12 254 RX12 yX12_sendPending wsX12_sendPending) := goodIn_app (goodIn_of _ (by decide +kernel)) ggX12_tick_X12_sendPending
theorem dX12_tick_0 : decode cX12_tick 0 = .ok (.aload_n 0, 1) := by decide +kernel
theorem dX12_tick_1 : decode cX12_tick 1 = .ok (.dup, 1) := by decide +kernel
theorem dX12_tick_2 : decode cX12_tick 2 = .ok (.getfield 101, 3) := by decide +kernel
theorem dX12_tick_5 : decode cX12_tick 5 = .ok (.iconst 1, 1) := by decide +kernel
theorem dX12_tick_6 : decode cX12_tick 6 = .ok (.iadd, 1) := by decide +kernel
theorem dX12_tick_7 : decode cX12_tick 7 = .ok (.putfield 101, 3) := by decide +kernel
theorem dX12_tick_10 : decode cX12_tick 10 = .ok (.iconst 0, 1) := by decide +kernel
theorem dX12_tick_11 : decode cX12_tick 11 = .ok (.istore_n 1, 1) := by decide +kernel
theorem dX12_tick_12 : decode cX12_tick 12 = .ok (.iconst 0, 1) := by decide +kernel
theorem dX12_tick_13 : decode cX12_tick 13 = .ok (.istore_n 2, 1) := by decide +kernel
theorem dX12_tick_14 : decode cX12_tick 14 = .ok (.iload_n 2, 1) := by decide +kernel
theorem dX12_tick_15 : decode cX12_tick 15 = .ok (.aload_n 0, 1) := by decide +kernel
theorem dX12_tick_16 : decode cX12_tick 16 = .ok (.getfield 133, 3) := by decide +kernel
theorem dX12_tick_19 : decode cX12_tick 19 = .ok (.if_icmp .ge 28, 3) := by decide +kernel
theorem dX12_tick_47 : decode cX12_tick 47 = .ok (.aload_n 0, 1) := by decide +kernel
theorem dX12_tick_48 : decode cX12_tick 48 = .ok (.getfield 101, 3) := by decide +kernel
theorem dX12_tick_51 : decode cX12_tick 51 = .ok (.bipush 100, 2) := by decide +kernel
theorem dX12_tick_53 : decode cX12_tick 53 = .ok (.irem, 1) := by decide +kernel
theorem dX12_tick_54 : decode cX12_tick 54 = .ok (.ifCond .ne 10, 3) := by decide +kernel
theorem dX12_tick_57 : decode cX12_tick 57 = .ok (.iload_n 1, 1) := by decide +kernel
theorem dX12_tick_58 : decode cX12_tick 58 = .ok (.aload_n 0, 1) := by decide +kernel
theorem dX12_tick_59 : decode cX12_tick 59 = .ok (.invokevirtual 271, 3) := by decide +kernel
theorem dX12_tick_62 : decode cX12_tick 62 = .ok (.iadd, 1) := by decide +kernel
theorem dX12_tick_63 : decode cX12_tick 63 = .ok (.istore_n 1, 1) := by decide +kernel
theorem dX12_tick_64 : decode cX12_tick 64 = .ok (.aload_n 0, 1) := by decide +kernel
theorem dX12_tick_65 : decode cX12_tick 65 = .ok (.invokevirtual 254, 3) := by decide +kernel
theorem dX12_tick_68 : decode cX12_tick 68 = .ok (.iload_n 1, 1) := by decide +kernel
theorem dX12_tick_69 : decode cX12_tick 69 = .ok (.ireturn, 1) := by decide +kernel
set_option maxRecDepth 20000 in
theorem ggX12_advance_X12_inRange : GoodIn wsX12_advance wsX12_inRange := goodIn_r _ [8] (by decide +kernel) (by decide +kernel)
set_option maxRecDepth 20000 in
theorem gX12_advance_X12_inRange : GoodIn wsX12_advance (va_wsS RX12 169 yX12_inRange wsX12_inRange) := goodIn_app (goodIn_of _ (by decide +kernel)) ggX12_advance_X12_inRange
set_option maxRecDepth 20000 in
theorem ggX12_advance_X12_throwsIf : GoodIn wsX12_advance wsX12_throwsIf := goodIn_r _ [12, 1, 144, 145, 146, 147, 148, 149, 150, 151, 152, 153, 154, 155, 156, 157, 158, 159, 160, 161, 162, 163, 164, 165, 166, 167, 168, 169, 170, 171, 172, 173, 174, 175, 176, 177, 178, 179, 180, 181, 182, 183, 184, 185, 186, 187, 188, 189, 190, 191, 192, 193, 194, 195, 196, 197] (by decide +kernel) (by decide +kernel)
set_option maxRecDepth 20000 in
theorem gX12_advance_X12_throwsIf : GoodIn wsX12_advance (wsV RX12 185 RX12 yX12_throwsIf wsX12_throwsIf) := goodIn_app (goodIn_of _ (by decide +kernel)) ggX12_advance_X12_throwsIf
set_option maxRecDepth 20000 in
theorem ggX12_advance_X12_tick : GoodIn wsX12_advance wsX12_tick := goodIn_ca (goodIn_r _ [16, 3, 17, 18, 19, 20, 7, 21, 22, 23, 24, 25, 26, 27, 28, 29, 30, 31, 32, 33, 34, 35, 36, 37, 38, 39, 40, 41, 42, 43, 44, 45, 46, 47, 48, 49, 50, 51, 52, 53, 54, 55, 56, 57, 58, 59, 60, 61, 62, 63, 64, 65, 66, 67, 68, 69, 70, 71, 72, 73, 74, 75, 76, 77, 78, 79, 80, 81, 82, 83, 84, 85, 86, 87, 88, 89, 90, 91, 92, 93, 94, 95, 96, 97, 98, 99, 100, 101, 102, 103, 104, 105, 106, 107, 108, 109, 110, 111, 112, 113, 114, 115, 116, 117, 118, 119, 120, 121, 122, 123, 124, 125, 126, 127, 128, 129, 130, 131, 132, 133, 134, 135, 136, 137, 138, 139, 140, 141, 142, 143, 144, 145, 146, 147, 148, 149, 150, 151, 152, 153, 154, 155, 156, 157, 158, 159, 160, 161, 162, 163, 164, 165, 166, 167, 168, 169, 170, 171, 172, 173, 174, 175, 176, 177, 178, 179, 180, 181, 182, 183, 184, 185, 186, 187, 188, 189, 190, 191, 192, 193, 194, 195, 196, 197] (by decide +kernel) (by decide +kernel)) (goodIn_sub (fun _ h => List.mem_cons_of_mem _ (List.mem_append_right _ h)) (by decide +kernel))
set_option maxRecDepth 20000 in
theorem gX12_advance_X12_tick : GoodIn wsX12_advance (wsV RX12 277 RX12 yX12_tick wsX12_tick) := goodIn_app (goodIn_of _ (by decide +kernel)) ggX12_advance_X12_tick
theorem dX12_advance_0 : decode cX12_advance 0 = .ok (.aload_n 0, 1) := by decide +kernel
theorem dX12_advance_1 : decode cX12_advance 1 = .ok (.iconst 0, 1) := by decide +kernel
theorem dX12_advance_2 : decode cX12_advance 2 = .ok (.putfield 1, 3) := by decide +kernel
theorem dX12_advance_5 : decode cX12_advance 5 = .ok (.aload_n 0, 1) := by decide +kernel
theorem dX12_advance_6 : decode cX12_advance 6 = .ok (.iload_n 1, 1) := by decide +kernel
theorem dX12_advance_7 : decode cX12_advance 7 = .ok (.i2l, 1) := by decide +kernel
theorem dX12_advance_8 : decode cX12_advance 8 = .ok (.lconst 1, 1) := by decide +kernel
theorem dX12_advance_9 : decode cX12_advance 9 = .ok (.ldc2_w 274, 3) := by decide +kernel
theorem dX12_advance_12 : decode cX12_advance 12 = .ok (.invokestatic 169, 3) := by decide +kernel
theorem dX12_advance_15 : decode cX12_advance 15 = .ok (.ifCond .ne 7, 3) := by decide +kernel
theorem dX12_advance_18 : decode cX12_advance 18 = .ok (.iconst 1, 1) := by decide +kernel
theorem dX12_advance_19 : decode cX12_advance 19 = .ok (.goto 4, 3) := by decide +kernel
theorem dX12_advance_22 : decode cX12_advance 22 = .ok (.iconst 0, 1) := by decide +kernel
theorem dX12_advance_23 : decode cX12_advance 23 = .ok (.iconst 1, 1) := by decide +kernel
theorem dX12_advance_24 : decode cX12_advance 24 = .ok (.invokevirtual 185, 3) := by decide +kernel
theorem dX12_advance_27 : decode cX12_advance 27 = .ok (.ifCond .ne 28, 3) := by decide +kernel
theorem dX12_advance_30 : decode cX12_advance 30 = .ok (.aload_n 0, 1) := by decide +kernel
theorem dX12_advance_31 : decode cX12_advance 31 = .ok (.aload_n 0, 1) := by decide +kernel
theorem dX12_advance_32 : decode cX12_advance 32 = .ok (.getfield 101, 3) := by decide +kernel
theorem dX12_advance_35 : decode cX12_advance 35 = .ok (.iload_n 1, 1) := by decide +kernel
theorem dX12_advance_36 : decode cX12_advance 36 = .ok (.iadd, 1) := by decide +kernel
theorem dX12_advance_37 : decode cX12_advance 37 = .ok (.ldc_w 276, 3) := by decide +kernel
theorem dX12_advance_40 : decode cX12_advance 40 = .ok (.if_icmp .le 7, 3) := by decide +kernel
theorem dX12_advance_47 : decode cX12_advance 47 = .ok (.iconst 0, 1) := by decide +kernel
theorem dX12_advance_48 : decode cX12_advance 48 = .ok (.iconst 2, 1) := by decide +kernel
theorem dX12_advance_49 : decode cX12_advance 49 = .ok (.invokevirtual 185, 3) := by decide +kernel
theorem dX12_advance_52 : decode cX12_advance 52 = .ok (.ifCond .eq 5, 3) := by decide +kernel
theorem dX12_advance_55 : decode cX12_advance 55 = .ok (.iconst 0, 1) := by decide +kernel
theorem dX12_advance_56 : decode cX12_advance 56 = .ok (.ireturn, 1) := by decide +kernel
theorem dX12_advance_57 : decode cX12_advance 57 = .ok (.iconst 0, 1) := by decide +kernel
theorem dX12_advance_58 : decode cX12_advance 58 = .ok (.istore_n 2, 1) := by decide +kernel
theorem dX12_advance_59 : decode cX12_advance 59 = .ok (.iconst 0, 1) := by decide +kernel
theorem dX12_advance_60 : decode cX12_advance 60 = .ok (.istore_n 3, 1) := by decide +kernel
theorem dX12_advance_61 : decode cX12_advance 61 = .ok (.iload_n 3, 1) := by decide +kernel
theorem dX12_advance_62 : decode cX12_advance 62 = .ok (.iload_n 1, 1) := by decide +kernel
theorem dX12_advance_63 : decode cX12_advance 63 = .ok (.if_icmp .ge 16, 3) := by decide +kernel
theorem dX12_advance_66 : decode cX12_advance 66 = .ok (.iload_n 2, 1) := by decide +kernel
theorem dX12_advance_67 : decode cX12_advance 67 = .ok (.aload_n 0, 1) := by decide +kernel
theorem dX12_advance_68 : decode cX12_advance 68 = .ok (.invokevirtual 277, 3) := by decide +kernel
theorem dX12_advance_71 : decode cX12_advance 71 = .ok (.iadd, 1) := by decide +kernel
theorem dX12_advance_72 : decode cX12_advance 72 = .ok (.istore_n 2, 1) := by decide +kernel
theorem dX12_advance_73 : decode cX12_advance 73 = .ok (.iinc 3 1, 3) := by decide +kernel
theorem dX12_advance_76 : decode cX12_advance 76 = .ok (.goto (-15), 3) := by decide +kernel
theorem dX12_advance_79 : decode cX12_advance 79 = .ok (.iload_n 2, 1) := by decide +kernel
theorem dX12_advance_80 : decode cX12_advance 80 = .ok (.ireturn, 1) := by decide +kernel
theorem dX12_isSame_0 : decode cX12_isSame 0 = .ok (.aload_n 0, 1) := by decide +kernel
theorem dX12_isSame_1 : decode cX12_isSame 1 = .ok (.iconst 4, 1) := by decide +kernel
theorem dX12_isSame_2 : decode cX12_isSame 2 = .ok (.iload_n 1, 1) := by decide +kernel
theorem dX12_isSame_3 : decode cX12_isSame 3 = .ok (.imul, 1) := by decide +kernel
theorem dX12_isSame_4 : decode cX12_isSame 4 = .ok (.iaload, 1) := by decide +kernel
theorem dX12_isSame_5 : decode cX12_isSame 5 = .ok (.i2l, 1) := by decide +kernel
theorem dX12_isSame_6 : decode cX12_isSame 6 = .ok (.lload_n 2, 1) := by decide +kernel
theorem dX12_isSame_7 : decode cX12_isSame 7 = .ok (.lcmp, 1) := by decide +kernel
theorem dX12_isSame_8 : decode cX12_isSame 8 = .ok (.ifCond .ne 49, 3) := by decide +kernel
theorem dX12_isSame_11 : decode cX12_isSame 11 = .ok (.aload_n 0, 1) := by decide +kernel
theorem dX12_isSame_12 : decode cX12_isSame 12 = .ok (.iconst 4, 1) := by decide +kernel
theorem dX12_isSame_13 : decode cX12_isSame 13 = .ok (.iload_n 1, 1) := by decide +kernel
theorem dX12_isSame_14 : decode cX12_isSame 14 = .ok (.imul, 1) := by decide +kernel
theorem dX12_isSame_15 : decode cX12_isSame 15 = .ok (.iconst 1, 1) := by decide +kernel
theorem dX12_isSame_16 : decode cX12_isSame 16 = .ok (.iadd, 1) := by decide +kernel
theorem dX12_isSame_17 : decode cX12_isSame 17 = .ok (.iaload, 1) := by decide +kernel
theorem dX12_isSame_18 : decode cX12_isSame 18 = .ok (.i2l, 1) := by decide +kernel
theorem dX12_isSame_19 : decode cX12_isSame 19 = .ok (.lload 4, 2) := by decide +kernel
theorem dX12_isSame_21 : decode cX12_isSame 21 = .ok (.lcmp, 1) := by decide +kernel
theorem dX12_isSame_22 : decode cX12_isSame 22 = .ok (.ifCond .ne 35, 3) := by decide +kernel
theorem dX12_isSame_25 : decode cX12_isSame 25 = .ok (.aload_n 0, 1) := by decide +kernel
theorem dX12_isSame_26 : decode cX12_isSame 26 = .ok (.iconst 4, 1) := by decide +kernel
theorem dX12_isSame_27 : decode cX12_isSame 27 = .ok (.iload_n 1, 1) := by decide +kernel
theorem dX12_isSame_28 : decode cX12_isSame 28 = .ok (.imul, 1) := by decide +kernel
theorem dX12_isSame_29 : decode cX12_isSame 29 = .ok (.iconst 2, 1) := by decide +kernel
theorem dX12_isSame_30 : decode cX12_isSame 30 = .ok (.iadd, 1) := by decide +kernel
theorem dX12_isSame_31 : decode cX12_isSame 31 = .ok (.iaload, 1) := by decide +kernel
theorem dX12_isSame_32 : decode cX12_isSame 32 = .ok (.i2l, 1) := by decide +kernel
theorem dX12_isSame_33 : decode cX12_isSame 33 = .ok (.lload 6, 2) := by decide +kernel
theorem dX12_isSame_35 : decode cX12_isSame 35 = .ok (.lcmp, 1) := by decide +kernel
theorem dX12_isSame_36 : decode cX12_isSame 36 = .ok (.ifCond .ne 21, 3) := by decide +kernel
theorem dX12_isSame_39 : decode cX12_isSame 39 = .ok (.aload_n 0, 1) := by decide +kernel
theorem dX12_isSame_40 : decode cX12_isSame 40 = .ok (.iconst 4, 1) := by decide +kernel
theorem dX12_isSame_41 : decode cX12_isSame 41 = .ok (.iload_n 1, 1) := by decide +kernel
theorem dX12_isSame_42 : decode cX12_isSame 42 = .ok (.imul, 1) := by decide +kernel
theorem dX12_isSame_43 : decode cX12_isSame 43 = .ok (.iconst 3, 1) := by decide +kernel
theorem dX12_isSame_44 : decode cX12_isSame 44 = .ok (.iadd, 1) := by decide +kernel
theorem dX12_isSame_45 : decode cX12_isSame 45 = .ok (.iaload, 1) := by decide +kernel
theorem dX12_isSame_46 : decode cX12_isSame 46 = .ok (.i2l, 1) := by decide +kernel
theorem dX12_isSame_47 : decode cX12_isSame 47 = .ok (.lload 8, 2) := by decide +kernel
theorem dX12_isSame_49 : decode cX12_isSame 49 = .ok (.lcmp, 1) := by decide +kernel
theorem dX12_isSame_50 : decode cX12_isSame 50 = .ok (.ifCond .ne 7, 3) := by decide +kernel
theorem dX12_isSame_53 : decode cX12_isSame 53 = .ok (.iconst 1, 1) := by decide +kernel
theorem dX12_isSame_54 : decode cX12_isSame 54 = .ok (.goto 4, 3) := by decide +kernel
theorem dX12_isSame_58 : decode cX12_isSame 58 = .ok (.ireturn, 1) := by decide +kernel
set_option maxRecDepth 20000 in
theorem ggX12_trueKeyOf_X12_isSame : GoodIn wsX12_trueKeyOf wsX12_isSame := goodIn_ca (goodIn_r _ [6] (by decide +kernel) (by decide +kernel)) (goodIn_sub (fun _ h => List.mem_cons_of_mem _ (List.mem_append_right _ h)) (by decide +kernel))
set_option maxRecDepth 20000 in
theorem gX12_trueKeyOf_X12_isSame : GoodIn wsX12_trueKeyOf (va_wsS RX12 386 yX12_isSame wsX12_isSame) := goodIn_app (goodIn_of _ (by decide +kernel)) ggX12_trueKeyOf_X12_isSame
theorem dX12_trueKeyOf_12 : decode cX12_trueKeyOf 12 = .ok (.aload_n 0, 1) := by decide +kernel
theorem dX12_trueKeyOf_13 : decode cX12_trueKeyOf 13 = .ok (.getfield 82, 3) := by decide +kernel
theorem dX12_trueKeyOf_16 : decode cX12_trueKeyOf 16 = .ok (.iload 5, 2) := by decide +kernel
theorem dX12_trueKeyOf_18 : decode cX12_trueKeyOf 18 = .ok (.iload_n 1, 1) := by decide +kernel
theorem dX12_trueKeyOf_19 : decode cX12_trueKeyOf 19 = .ok (.i2l, 1) := by decide +kernel
theorem dX12_trueKeyOf_20 : decode cX12_trueKeyOf 20 = .ok (.iload_n 2, 1) := by decide +kernel
theorem dX12_trueKeyOf_21 : decode cX12_trueKeyOf 21 = .ok (.i2l, 1) := by decide +kernel
theorem dX12_trueKeyOf_22 : decode cX12_trueKeyOf 22 = .ok (.iload_n 3, 1) := by decide +kernel
theorem dX12_trueKeyOf_23 : decode cX12_trueKeyOf 23 = .ok (.i2l, 1) := by decide +kernel
theorem dX12_trueKeyOf_24 : decode cX12_trueKeyOf 24 = .ok (.iload 4, 2) := by decide +kernel
theorem dX12_trueKeyOf_26 : decode cX12_trueKeyOf 26 = .ok (.i2l, 1) := by decide +kernel
theorem dX12_trueKeyOf_27 : decode cX12_trueKeyOf 27 = .ok (.invokestatic 386, 3) := by decide +kernel
theorem dX12_trueKeyOf_30 : decode cX12_trueKeyOf 30 = .ok (.ifCond .eq 6, 3) := by decide +kernel
theorem dX12_trueKeyOf_33 : decode cX12_trueKeyOf 33 = .ok (.iload 5, 2) := by decide +kernel
theorem dX12_trueKeyOf_35 : decode cX12_trueKeyOf 35 = .ok (.ireturn, 1) := by decide +kernel

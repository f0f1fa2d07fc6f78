set_option maxRecDepth 20000 in
theorem ggX12_observe_X12_isPacket : GoodIn wsX12_observe wsX12_isPacket := goodIn_r _ [5, 6, 7, 8, 4, 9, 10, 11, 12, 13] rfl (by decide +kernel)
set_option maxRecDepth 20000 in
theorem gX12_observe_X12_isPacket : GoodIn wsX12_observe (va_wsS RX12 247 yX12_isPacket wsX12_isPacket) := goodIn_app (goodIn_of _ (by decide +kernel)) ggX12_observe_X12_isPacket
set_option maxRecDepth 20000 in
theorem ggX12_observe_X12_throwsIf : GoodIn wsX12_observe wsX12_throwsIf := goodIn_r _ [17, 1, 164, 165, 166, 167, 168, 169, 170, 171, 172, 173, 174, 175, 176, 177, 178, 179, 180, 181, 182, 183, 184, 185, 186, 187, 188, 189, 190, 191, 192, 193, 194, 195, 196, 197, 198, 199, 200, 201, 202, 203, 204, 205, 206, 207, 208, 209, 210, 211, 212, 213, 214, 215, 216, 217] rfl (by decide +kernel)
set_option maxRecDepth 20000 in
theorem gX12_observe_X12_throwsIf : GoodIn wsX12_observe (wsV RX12 185 RX12 yX12_throwsIf wsX12_throwsIf) := goodIn_app (goodIn_of _ (by decide +kernel)) ggX12_observe_X12_throwsIf
set_option maxRecDepth 20000 in
theorem ggX12_observe_X12_see : GoodIn wsX12_observe wsX12_see := goodIn_ca (goodIn_ca (goodIn_r _ [21, 22, 23, 24, 25, 26, 27, 28, 29, 30, 4, 31, 32, 33, 34, 35, 36, 37, 38, 39, 40, 41, 42, 43, 44, 45, 46, 47, 48, 49, 50, 51, 52, 53, 54, 55, 56, 57, 58, 59, 60, 61, 62, 63, 64, 65, 66, 67, 68, 69, 70, 71, 72, 73, 74, 75, 76, 77, 78, 79, 80, 81, 82, 83, 84, 85, 86, 10, 87, 88, 89, 90, 91, 92, 93, 94, 95, 96, 97, 98, 99, 100, 101, 102, 103, 104, 105, 106, 107, 108, 109, 110, 164, 165, 166, 167, 168, 169, 170, 171, 172, 173, 174, 175, 176, 177, 178, 179, 180, 181, 182, 183, 184, 185, 186, 187, 188, 189, 190, 191, 192, 193, 194, 195, 196, 197, 198, 199, 200, 201, 202, 203, 204, 205, 206, 207, 208, 209, 210, 211, 212, 213, 214, 215, 216, 217] rfl (by decide +kernel)) (goodIn_sub (fun _ h => List.mem_cons_of_mem _ (List.mem_append_left _ (List.mem_append_right _ h))) (by decide +kernel))) (goodIn_sub (fun _ h => List.mem_cons_of_mem _ (List.mem_append_right _ h)) (by decide +kernel))
set_option maxRecDepth 20000 in
theorem gX12_observe_X12_see : GoodIn wsX12_observe (wsV RX12 251 RX12 yX12_see wsX12_see) := goodIn_app (goodIn_of _ (by decide +kernel)) ggX12_observe_X12_see
set_option maxRecDepth 20000 in
theorem ggX12_observe_X12_sendPending : GoodIn wsX12_observe wsX12_sendPending := goodIn_ca (goodIn_r _ [114, 85, 115, 116, 27, 117, 118, 119, 120, 121, 122, 123, 4, 124, 125, 10, 126, 127, 128, 129, 62, 130, 131, 132, 133, 134, 135, 136, 65, 66, 67, 68, 69, 70, 71, 72, 73, 74, 75, 76, 77, 78, 79, 80, 137, 138, 139, 140, 141, 142, 143, 88, 89, 90, 91, 92, 93, 94, 144, 145, 146, 147, 148, 149, 150, 151, 87, 86, 152, 153, 154, 155, 156, 157, 158, 159, 160, 161, 162, 163, 164, 165, 166, 167, 168, 169, 170, 171, 172, 173, 174, 175, 176, 177, 178, 179, 180, 181, 182, 183, 184, 185, 186, 187, 188, 189, 190, 191, 192, 193, 194, 195, 196, 197, 198, 199, 200, 201, 202, 203, 204, 205, 206, 207, 208, 209, 210, 211, 212, 213, 214, 215, 216, 217] rfl (by decide +kernel)) (goodIn_sub (fun _ h => List.mem_cons_of_mem _ (List.mem_append_left _ (List.mem_append_right _ h))) (by decide +kernel))
set_option maxRecDepth 20000 in
theorem gX12_observe_X12_sendPending : GoodIn wsX12_observe (wsV RX12 254 RX12 yX12_sendPending wsX12_sendPending) := goodIn_app (goodIn_of _ (by decide +kernel)) ggX12_observe_X12_sendPending
theorem dX12_observe_0 : decode cX12_observe 0 = .ok (.aload_n 0, 1) := by decide +kernel
theorem dX12_observe_1 : decode cX12_observe 1 = .ok (.iconst 0, 1) := by decide +kernel
theorem dX12_observe_2 : decode cX12_observe 2 = .ok (.putfield 1, 3) := by decide +kernel
theorem dX12_observe_5 : decode cX12_observe 5 = .ok (.aload_n 0, 1) := by decide +kernel
theorem dX12_observe_6 : decode cX12_observe 6 = .ok (.iload_n 1, 1) := by decide +kernel
theorem dX12_observe_7 : decode cX12_observe 7 = .ok (.iload_n 2, 1) := by decide +kernel
theorem dX12_observe_8 : decode cX12_observe 8 = .ok (.iload_n 3, 1) := by decide +kernel
theorem dX12_observe_9 : decode cX12_observe 9 = .ok (.iload 4, 2) := by decide +kernel
theorem dX12_observe_11 : decode cX12_observe 11 = .ok (.iload 5, 2) := by decide +kernel
theorem dX12_observe_13 : decode cX12_observe 13 = .ok (.invokestatic 247, 3) := by decide +kernel
theorem dX12_observe_16 : decode cX12_observe 16 = .ok (.ifCond .ne 7, 3) := by decide +kernel
theorem dX12_observe_19 : decode cX12_observe 19 = .ok (.iconst 1, 1) := by decide +kernel
theorem dX12_observe_20 : decode cX12_observe 20 = .ok (.goto 4, 3) := by decide +kernel
theorem dX12_observe_23 : decode cX12_observe 23 = .ok (.iconst 0, 1) := by decide +kernel
theorem dX12_observe_24 : decode cX12_observe 24 = .ok (.iconst 1, 1) := by decide +kernel
theorem dX12_observe_25 : decode cX12_observe 25 = .ok (.invokevirtual 185, 3) := by decide +kernel
theorem dX12_observe_28 : decode cX12_observe 28 = .ok (.ifCond .eq 5, 3) := by decide +kernel
theorem dX12_observe_31 : decode cX12_observe 31 = .ok (.iconst 0, 1) := by decide +kernel
theorem dX12_observe_32 : decode cX12_observe 32 = .ok (.ireturn, 1) := by decide +kernel
theorem dX12_observe_33 : decode cX12_observe 33 = .ok (.aload_n 0, 1) := by decide +kernel
theorem dX12_observe_34 : decode cX12_observe 34 = .ok (.iload_n 1, 1) := by decide +kernel
theorem dX12_observe_35 : decode cX12_observe 35 = .ok (.iload_n 2, 1) := by decide +kernel
theorem dX12_observe_36 : decode cX12_observe 36 = .ok (.iload_n 3, 1) := by decide +kernel
theorem dX12_observe_37 : decode cX12_observe 37 = .ok (.iload 4, 2) := by decide +kernel
theorem dX12_observe_39 : decode cX12_observe 39 = .ok (.iload 5, 2) := by decide +kernel
theorem dX12_observe_41 : decode cX12_observe 41 = .ok (.invokevirtual 251, 3) := by decide +kernel
theorem dX12_observe_44 : decode cX12_observe 44 = .ok (.istore 6, 2) := by decide +kernel
theorem dX12_observe_46 : decode cX12_observe 46 = .ok (.aload_n 0, 1) := by decide +kernel
theorem dX12_observe_47 : decode cX12_observe 47 = .ok (.invokevirtual 254, 3) := by decide +kernel
theorem dX12_observe_50 : decode cX12_observe 50 = .ok (.iload 6, 2) := by decide +kernel
theorem dX12_observe_52 : decode cX12_observe 52 = .ok (.ireturn, 1) := by decide +kernel
set_option maxRecDepth 20000 in
theorem ggX12_observeMany_X12_isPacket : GoodIn wsX12_observeMany wsX12_isPacket := goodIn_r _ [6, 7, 8, 9, 5, 10, 11, 12, 13, 14] rfl (by decide +kernel)
set_option maxRecDepth 20000 in
theorem gX12_observeMany_X12_isPacket : GoodIn wsX12_observeMany (va_wsS RX12 247 yX12_isPacket wsX12_isPacket) := goodIn_app (goodIn_of _ (by decide +kernel)) ggX12_observeMany_X12_isPacket
set_option maxRecDepth 20000 in
theorem ggX12_observeMany_X12_inRange : GoodIn wsX12_observeMany wsX12_inRange := goodIn_r _ [14] rfl (by decide +kernel)
set_option maxRecDepth 20000 in
theorem gX12_observeMany_X12_inRange : GoodIn wsX12_observeMany (va_wsS RX12 169 yX12_inRange wsX12_inRange) := goodIn_app (goodIn_of _ (by decide +kernel)) ggX12_observeMany_X12_inRange
set_option maxRecDepth 20000 in
theorem ggX12_observeMany_X12_throwsIf : GoodIn wsX12_observeMany wsX12_throwsIf := goodIn_r _ [18, 1, 165, 166, 167, 168, 169, 170, 171, 172, 173, 174, 175, 176, 177, 178, 179, 180, 181, 182, 183, 184, 185, 186, 187, 188, 189, 190, 191, 192, 193, 194, 195, 196, 197, 198, 199, 200, 201, 202, 203, 204, 205, 206, 207, 208, 209, 210, 211, 212, 213, 214, 215, 216, 217, 218] rfl (by decide +kernel)
set_option maxRecDepth 20000 in
theorem gX12_observeMany_X12_throwsIf : GoodIn wsX12_observeMany (wsV RX12 185 RX12 yX12_throwsIf wsX12_throwsIf) := goodIn_app (goodIn_of _ (by decide +kernel)) ggX12_observeMany_X12_throwsIf
set_option maxRecDepth 20000 in
theorem ggX12_observeMany_X12_see : GoodIn wsX12_observeMany wsX12_see := goodIn_ca (goodIn_ca (goodIn_r _ [22, 23, 24, 25, 26, 27, 28, 29, 30, 31, 5, 32, 33, 34, 35, 36, 37, 38, 39, 40, 41, 42, 43, 44, 45, 46, 47, 48, 49, 50, 51, 52, 53, 54, 55, 56, 57, 58, 59, 60, 61, 62, 63, 64, 65, 66, 67, 68, 69, 70, 71, 72, 73, 74, 75, 76, 77, 78, 79, 80, 81, 82, 83, 84, 85, 86, 87, 11, 88, 89, 90, 91, 92, 93, 94, 95, 96, 97, 98, 99, 100, 101, 102, 103, 104, 105, 106, 107, 108, 109, 110, 111, 165, 166, 167, 168, 169, 170, 171, 172, 173, 174, 175, 176, 177, 178, 179, 180, 181, 182, 183, 184, 185, 186, 187, 188, 189, 190, 191, 192, 193, 194, 195, 196, 197, 198, 199, 200, 201, 202, 203, 204, 205, 206, 207, 208, 209, 210, 211, 212, 213, 214, 215, 216, 217, 218] rfl (by decide +kernel)) (goodIn_sub (fun _ h => List.mem_cons_of_mem _ (List.mem_append_left _ (List.mem_append_right _ h))) (by decide +kernel))) (goodIn_sub (fun _ h => List.mem_cons_of_mem _ (List.mem_append_right _ h)) (by decide +kernel))
set_option maxRecDepth 20000 in
theorem gX12_observeMany_X12_see : GoodIn wsX12_observeMany (wsV RX12 251 RX12 yX12_see wsX12_see) := goodIn_app (goodIn_of _ (by decide +kernel)) ggX12_observeMany_X12_see
set_option maxRecDepth 20000 in
theorem ggX12_observeMany_X12_sendPending : GoodIn wsX12_observeMany wsX12_sendPending := goodIn_ca (goodIn_r _ [115, 86, 116, 117, 28, 118, 119, 120, 121, 122, 123, 124, 5, 125, 126, 11, 127, 128, 129, 130, 63, 131, 132, 133, 134, 135, 136, 137, 66, 67, 68, 69, 70, 71, 72, 73, 74, 75, 76, 77, 78, 79, 80, 81, 138, 139, 140, 141, 142, 143, 144, 89, 90, 91, 92, 93, 94, 95, 145, 146, 147, 148, 149, 150, 151, 152, 88, 87, 153, 154, 155, 156, 157, 158, 159, 160, 161, 162, 163, 164, 165, 166, 167, 168, 169, 170, 171, 172, 173, 174, 175, 176, 177, 178, 179, 180, 181, 182, 183, 184, 185, 186, 187, 188, 189, 190, 191, 192, 193, 194, 195, 196, 197, 198, 199, 200, 201, 202, 203, 204, 205, 206, 207, 208, 209, 210, 211, 212, 213, 214, 215, 216, 217, 218] rfl (by decide +kernel)) (goodIn_sub (fun _ h => List.mem_cons_of_mem _ (List.mem_append_left _ (List.mem_append_right _ h))) (by decide +kernel))
set_option maxRecDepth 20000 in
theorem gX12_observeMany_X12_sendPending : GoodIn wsX12_observeMany (wsV RX12 254 RX12 yX12_sendPending wsX12_sendPending) := goodIn_app (goodIn_of _ (by decide +kernel)) ggX12_observeMany_X12_sendPending
theorem dX12_observeMany_0 : decode cX12_observeMany 0 = .ok (.aload_n 0, 1) := by decide +kernel
theorem dX12_observeMany_1 : decode cX12_observeMany 1 = .ok (.iconst 0, 1) := by decide +kernel
theorem dX12_observeMany_2 : decode cX12_observeMany 2 = .ok (.putfield 1, 3) := by decide +kernel
theorem dX12_observeMany_5 : decode cX12_observeMany 5 = .ok (.aload_n 0, 1) := by decide +kernel
theorem dX12_observeMany_6 : decode cX12_observeMany 6 = .ok (.iload_n 1, 1) := by decide +kernel
theorem dX12_observeMany_7 : decode cX12_observeMany 7 = .ok (.iload_n 2, 1) := by decide +kernel
theorem dX12_observeMany_8 : decode cX12_observeMany 8 = .ok (.iload_n 3, 1) := by decide +kernel
theorem dX12_observeMany_9 : decode cX12_observeMany 9 = .ok (.iload 4, 2) := by decide +kernel
theorem dX12_observeMany_11 : decode cX12_observeMany 11 = .ok (.iload 5, 2) := by decide +kernel
theorem dX12_observeMany_13 : decode cX12_observeMany 13 = .ok (.invokestatic 247, 3) := by decide +kernel
theorem dX12_observeMany_16 : decode cX12_observeMany 16 = .ok (.ifCond .eq 16, 3) := by decide +kernel
theorem dX12_observeMany_19 : decode cX12_observeMany 19 = .ok (.iload 6, 2) := by decide +kernel
theorem dX12_observeMany_21 : decode cX12_observeMany 21 = .ok (.i2l, 1) := by decide +kernel
theorem dX12_observeMany_22 : decode cX12_observeMany 22 = .ok (.lconst 1, 1) := by decide +kernel
theorem dX12_observeMany_23 : decode cX12_observeMany 23 = .ok (.ldc2_w 257, 3) := by decide +kernel
theorem dX12_observeMany_26 : decode cX12_observeMany 26 = .ok (.invokestatic 169, 3) := by decide +kernel
theorem dX12_observeMany_29 : decode cX12_observeMany 29 = .ok (.ifCond .ne 7, 3) := by decide +kernel
theorem dX12_observeMany_32 : decode cX12_observeMany 32 = .ok (.iconst 1, 1) := by decide +kernel
theorem dX12_observeMany_33 : decode cX12_observeMany 33 = .ok (.goto 4, 3) := by decide +kernel
theorem dX12_observeMany_36 : decode cX12_observeMany 36 = .ok (.iconst 0, 1) := by decide +kernel
theorem dX12_observeMany_37 : decode cX12_observeMany 37 = .ok (.iconst 1, 1) := by decide +kernel
theorem dX12_observeMany_38 : decode cX12_observeMany 38 = .ok (.invokevirtual 185, 3) := by decide +kernel
theorem dX12_observeMany_41 : decode cX12_observeMany 41 = .ok (.ifCond .eq 5, 3) := by decide +kernel
theorem dX12_observeMany_44 : decode cX12_observeMany 44 = .ok (.iconst 0, 1) := by decide +kernel
theorem dX12_observeMany_45 : decode cX12_observeMany 45 = .ok (.ireturn, 1) := by decide +kernel
theorem dX12_observeMany_46 : decode cX12_observeMany 46 = .ok (.iconst 0, 1) := by decide +kernel
theorem dX12_observeMany_47 : decode cX12_observeMany 47 = .ok (.istore 7, 2) := by decide +kernel
theorem dX12_observeMany_49 : decode cX12_observeMany 49 = .ok (.iconst 0, 1) := by decide +kernel
theorem dX12_observeMany_50 : decode cX12_observeMany 50 = .ok (.istore 8, 2) := by decide +kernel
theorem dX12_observeMany_52 : decode cX12_observeMany 52 = .ok (.iload 8, 2) := by decide +kernel
theorem dX12_observeMany_54 : decode cX12_observeMany 54 = .ok (.iload 6, 2) := by decide +kernel
theorem dX12_observeMany_56 : decode cX12_observeMany 56 = .ok (.if_icmp .ge 33, 3) := by decide +kernel
theorem dX12_observeMany_59 : decode cX12_observeMany 59 = .ok (.iload 7, 2) := by decide +kernel
theorem dX12_observeMany_61 : decode cX12_observeMany 61 = .ok (.aload_n 0, 1) := by decide +kernel
theorem dX12_observeMany_62 : decode cX12_observeMany 62 = .ok (.iload_n 1, 1) := by decide +kernel
theorem dX12_observeMany_63 : decode cX12_observeMany 63 = .ok (.iload_n 2, 1) := by decide +kernel
theorem dX12_observeMany_64 : decode cX12_observeMany 64 = .ok (.iload_n 3, 1) := by decide +kernel
theorem dX12_observeMany_65 : decode cX12_observeMany 65 = .ok (.iload 4, 2) := by decide +kernel
theorem dX12_observeMany_67 : decode cX12_observeMany 67 = .ok (.iload 5, 2) := by decide +kernel
theorem dX12_observeMany_69 : decode cX12_observeMany 69 = .ok (.invokevirtual 251, 3) := by decide +kernel
theorem dX12_observeMany_72 : decode cX12_observeMany 72 = .ok (.ifCond .eq 7, 3) := by decide +kernel
theorem dX12_observeMany_75 : decode cX12_observeMany 75 = .ok (.iconst 1, 1) := by decide +kernel
theorem dX12_observeMany_76 : decode cX12_observeMany 76 = .ok (.goto 4, 3) := by decide +kernel
theorem dX12_observeMany_79 : decode cX12_observeMany 79 = .ok (.iconst 0, 1) := by decide +kernel
theorem dX12_observeMany_80 : decode cX12_observeMany 80 = .ok (.iadd, 1) := by decide +kernel
theorem dX12_observeMany_81 : decode cX12_observeMany 81 = .ok (.istore 7, 2) := by decide +kernel
theorem dX12_observeMany_83 : decode cX12_observeMany 83 = .ok (.iinc 8 1, 3) := by decide +kernel
theorem dX12_observeMany_86 : decode cX12_observeMany 86 = .ok (.goto (-34), 3) := by decide +kernel
theorem dX12_observeMany_89 : decode cX12_observeMany 89 = .ok (.aload_n 0, 1) := by decide +kernel
theorem dX12_observeMany_90 : decode cX12_observeMany 90 = .ok (.invokevirtual 254, 3) := by decide +kernel
theorem dX12_observeMany_93 : decode cX12_observeMany 93 = .ok (.iload 7, 2) := by decide +kernel
theorem dX12_observeMany_95 : decode cX12_observeMany 95 = .ok (.ireturn, 1) := by decide +kernel
set_option maxRecDepth 20000 in
theorem ggX12_changeRate_X12_exportAll : GoodIn wsX12_changeRate wsX12_exportAll := goodIn_ca (goodIn_r _ [6, 7, 8, 9, 10, 5, 11, 12, 13, 14, 15, 16, 17, 18, 19, 20, 21, 22, 23, 24, 25, 26, 27, 28, 29, 30, 31, 32, 33, 34, 35, 36, 37, 38, 39, 40, 41, 42, 43, 44, 45, 46, 47, 48, 49, 50, 1, 51, 52, 53, 54, 55, 56, 57, 58, 59, 60, 61, 62, 63, 64, 65, 66, 67, 68, 69, 70, 71, 72, 73, 74, 75, 76, 77, 78, 79, 80, 81, 82, 83, 84, 85, 86, 87, 88, 89, 90, 91, 92, 93, 94, 95, 96, 97, 98, 99, 100, 101, 102, 103, 104, 105, 106, 107, 108, 109, 110, 111, 112, 113, 114, 115, 116] rfl (by decide +kernel)) (goodIn_sub (fun _ h => List.mem_cons_of_mem _ (List.mem_append_right _ h)) (by decide +kernel))
set_option maxRecDepth 20000 in
theorem gX12_changeRate_X12_exportAll : GoodIn wsX12_changeRate (wsV RX12 259 RX12 yX12_exportAll wsX12_exportAll) := goodIn_app (goodIn_of _ (by decide +kernel)) ggX12_changeRate_X12_exportAll
theorem dX12_changeRate_0 : decode cX12_changeRate 0 = .ok (.iload_n 1, 1) := by decide +kernel
theorem dX12_changeRate_1 : decode cX12_changeRate 1 = .ok (.aload_n 0, 1) := by decide +kernel
theorem dX12_changeRate_2 : decode cX12_changeRate 2 = .ok (.getfield 107, 3) := by decide +kernel
theorem dX12_changeRate_5 : decode cX12_changeRate 5 = .ok (.if_icmp .ne 5, 3) := by decide +kernel
theorem dX12_changeRate_8 : decode cX12_changeRate 8 = .ok (.iconst 0, 1) := by decide +kernel
theorem dX12_changeRate_9 : decode cX12_changeRate 9 = .ok (.ireturn, 1) := by decide +kernel
theorem dX12_changeRate_10 : decode cX12_changeRate 10 = .ok (.aload_n 0, 1) := by decide +kernel
theorem dX12_changeRate_11 : decode cX12_changeRate 11 = .ok (.invokevirtual 259, 3) := by decide +kernel
theorem dX12_changeRate_14 : decode cX12_changeRate 14 = .ok (.istore_n 2, 1) := by decide +kernel
theorem dX12_changeRate_15 : decode cX12_changeRate 15 = .ok (.aload_n 0, 1) := by decide +kernel
theorem dX12_changeRate_16 : decode cX12_changeRate 16 = .ok (.iload_n 1, 1) := by decide +kernel
theorem dX12_changeRate_17 : decode cX12_changeRate 17 = .ok (.putfield 107, 3) := by decide +kernel
theorem dX12_changeRate_20 : decode cX12_changeRate 20 = .ok (.iload_n 2, 1) := by decide +kernel
theorem dX12_changeRate_21 : decode cX12_changeRate 21 = .ok (.ireturn, 1) := by decide +kernel
set_option maxRecDepth 20000 in
theorem ggX12_setRate_X12_inRange : GoodIn wsX12_setRate wsX12_inRange := goodIn_r _ [6] rfl (by decide +kernel)
set_option maxRecDepth 20000 in
theorem gX12_setRate_X12_inRange : GoodIn wsX12_setRate (va_wsS RX12 169 yX12_inRange wsX12_inRange) := goodIn_app (goodIn_of _ (by decide +kernel)) ggX12_setRate_X12_inRange
set_option maxRecDepth 20000 in
theorem ggX12_setRate_X12_changeRate : GoodIn wsX12_setRate wsX12_changeRate := goodIn_ca (goodIn_r _ [10, 11, 12, 13, 14, 5, 15, 16, 17, 18, 19, 20, 21, 22, 23, 24, 25, 26, 27, 28, 29, 30, 31, 32, 33, 34, 35, 36, 37, 38, 39, 40, 41, 42, 43, 44, 45, 46, 47, 48, 49, 50, 51, 52, 53, 54, 55, 56, 57, 58, 59, 60, 61, 62, 63, 64, 65, 66, 67, 68, 69, 70, 71, 126, 127, 128, 129, 130, 131, 132, 133, 134, 135, 136, 137, 138, 139, 140, 141, 142, 143, 144, 145, 146, 147, 148, 149, 150, 151, 152, 153, 154, 155, 156, 157, 158, 159, 160, 161, 162, 163, 164, 165, 166, 167, 168, 169, 170, 171, 172, 173, 174, 175, 176, 177, 178, 179] rfl (by decide +kernel)) (goodIn_sub (fun _ h => List.mem_cons_of_mem _ (List.mem_append_right _ h)) (by decide +kernel))
set_option maxRecDepth 20000 in
theorem gX12_setRate_X12_changeRate : GoodIn wsX12_setRate (wsV RX12 265 RX12 yX12_changeRate wsX12_changeRate) := goodIn_app (goodIn_of _ (by decide +kernel)) ggX12_setRate_X12_changeRate
set_option maxRecDepth 20000 in
theorem ggX12_setRate_X12_sendPending : GoodIn wsX12_setRate wsX12_sendPending := goodIn_ca (goodIn_r _ [75, 45, 76, 77, 78, 79, 80, 81, 82, 83, 84, 85, 5, 86, 87, 47, 88, 89, 90, 91, 21, 92, 93, 94, 95, 96, 97, 98, 25, 26, 27, 28, 29, 30, 31, 32, 33, 34, 35, 36, 37, 38, 39, 40, 99, 100, 101, 102, 103, 104, 105, 49, 50, 51, 52, 53, 54, 55, 106, 107, 108, 109, 110, 111, 112, 113, 48, 46, 114, 115, 116, 117, 118, 119, 120, 121, 122, 123, 124, 125, 126, 127, 128, 129, 130, 131, 132, 133, 134, 135, 136, 137, 138, 139, 140, 141, 142, 143, 144, 145, 146, 147, 148, 149, 150, 151, 152, 153, 154, 155, 156, 157, 158, 159, 160, 161, 162, 163, 164, 165, 166, 167, 168, 169, 170, 171, 172, 173, 174, 175, 176, 177, 178, 179] rfl (by decide +kernel)) (goodIn_sub (fun _ h => List.mem_cons_of_mem _ (List.mem_append_right _ h)) (by decide +kernel))
set_option maxRecDepth 20000 in
theorem gX12_setRate_X12_sendPending : GoodIn wsX12_setRate (wsV RX12 254 RX12 yX12_sendPending wsX12_sendPending) := goodIn_app (goodIn_of _ (by decide +kernel)) ggX12_setRate_X12_sendPending
theorem dX12_setRate_0 : decode cX12_setRate 0 = .ok (.aload_n 0, 1) := by decide +kernel
theorem dX12_setRate_1 : decode cX12_setRate 1 = .ok (.iconst 0, 1) := by decide +kernel
theorem dX12_setRate_2 : decode cX12_setRate 2 = .ok (.putfield 1, 3) := by decide +kernel
theorem dX12_setRate_5 : decode cX12_setRate 5 = .ok (.iload_n 1, 1) := by decide +kernel
theorem dX12_setRate_6 : decode cX12_setRate 6 = .ok (.i2l, 1) := by decide +kernel
theorem dX12_setRate_7 : decode cX12_setRate 7 = .ok (.lconst 1, 1) := by decide +kernel
theorem dX12_setRate_8 : decode cX12_setRate 8 = .ok (.ldc2_w 263, 3) := by decide +kernel
theorem dX12_setRate_11 : decode cX12_setRate 11 = .ok (.invokestatic 169, 3) := by decide +kernel
theorem dX12_setRate_14 : decode cX12_setRate 14 = .ok (.ifCond .ne 5, 3) := by decide +kernel
theorem dX12_setRate_17 : decode cX12_setRate 17 = .ok (.iconst (-1), 1) := by decide +kernel
theorem dX12_setRate_18 : decode cX12_setRate 18 = .ok (.ireturn, 1) := by decide +kernel
theorem dX12_setRate_19 : decode cX12_setRate 19 = .ok (.aload_n 0, 1) := by decide +kernel
theorem dX12_setRate_20 : decode cX12_setRate 20 = .ok (.iload_n 1, 1) := by decide +kernel
theorem dX12_setRate_21 : decode cX12_setRate 21 = .ok (.invokevirtual 265, 3) := by decide +kernel
theorem dX12_setRate_24 : decode cX12_setRate 24 = .ok (.istore_n 2, 1) := by decide +kernel
theorem dX12_setRate_25 : decode cX12_setRate 25 = .ok (.aload_n 0, 1) := by decide +kernel
theorem dX12_setRate_26 : decode cX12_setRate 26 = .ok (.invokevirtual 254, 3) := by decide +kernel
theorem dX12_setRate_29 : decode cX12_setRate 29 = .ok (.iload_n 2, 1) := by decide +kernel
theorem dX12_setRate_30 : decode cX12_setRate 30 = .ok (.ireturn, 1) := by decide +kernel
set_option maxRecDepth 20000 in
theorem ggX12_flush_X12_exportAll : GoodIn wsX12_flush wsX12_exportAll := goodIn_ca (goodIn_r _ [6, 7, 8, 9, 10, 5, 11, 12, 13, 14, 15, 16, 17, 18, 19, 20, 21, 22, 23, 24, 25, 26, 27, 28, 29, 30, 31, 32, 33, 34, 35, 36, 37, 38, 39, 40, 41, 42, 43, 44, 45, 46, 47, 48, 49, 50, 51, 52, 53, 54, 55, 56, 57, 58, 59, 60, 61, 62, 63, 118, 119, 120, 121, 122, 123, 124, 125, 126, 127, 128, 129, 130, 131, 132, 133, 134, 135, 136, 137, 138, 139, 140, 141, 142, 143, 144, 145, 146, 147, 148, 149, 150, 151, 152, 153, 154, 155, 156, 157, 158, 159, 160, 161, 162, 163, 164, 165, 166, 167, 168, 169, 170, 171] rfl (by decide +kernel)) (goodIn_sub (fun _ h => List.mem_cons_of_mem _ (List.mem_append_right _ h)) (by decide +kernel))
set_option maxRecDepth 20000 in
theorem gX12_flush_X12_exportAll : GoodIn wsX12_flush (wsV RX12 259 RX12 yX12_exportAll wsX12_exportAll) := goodIn_app (goodIn_of _ (by decide +kernel)) ggX12_flush_X12_exportAll
set_option maxRecDepth 20000 in
theorem ggX12_flush_X12_sendPending : GoodIn wsX12_flush wsX12_sendPending := goodIn_ca (goodIn_r _ [67, 36, 68, 69, 70, 71, 72, 73, 74, 75, 76, 77, 5, 78, 79, 38, 80, 81, 82, 83, 12, 84, 85, 86, 87, 88, 89, 90, 16, 17, 18, 19, 20, 21, 22, 23, 24, 25, 26, 27, 28, 29, 30, 31, 91, 92, 93, 94, 95, 96, 97, 40, 41, 42, 43, 44, 45, 46, 98, 99, 100, 101, 102, 103, 104, 105, 39, 37, 106, 107, 108, 109, 110, 111, 112, 113, 114, 115, 116, 117, 118, 119, 120, 121, 122, 123, 124, 125, 126, 127, 128, 129, 130, 131, 132, 133, 134, 135, 136, 137, 138, 139, 140, 141, 142, 143, 144, 145, 146, 147, 148, 149, 150, 151, 152, 153, 154, 155, 156, 157, 158, 159, 160, 161, 162, 163, 164, 165, 166, 167, 168, 169, 170, 171] rfl (by decide +kernel)) (goodIn_sub (fun _ h => List.mem_cons_of_mem _ (List.mem_append_right _ h)) (by decide +kernel))
set_option maxRecDepth 20000 in
theorem gX12_flush_X12_sendPending : GoodIn wsX12_flush (wsV RX12 254 RX12 yX12_sendPending wsX12_sendPending) := goodIn_app (goodIn_of _ (by decide +kernel)) ggX12_flush_X12_sendPending
theorem dX12_flush_0 : decode cX12_flush 0 = .ok (.aload_n 0, 1) := by decide +kernel
theorem dX12_flush_1 : decode cX12_flush 1 = .ok (.iconst 0, 1) := by decide +kernel
theorem dX12_flush_2 : decode cX12_flush 2 = .ok (.putfield 1, 3) := by decide +kernel
theorem dX12_flush_5 : decode cX12_flush 5 = .ok (.aload_n 0, 1) := by decide +kernel
theorem dX12_flush_6 : decode cX12_flush 6 = .ok (.invokevirtual 259, 3) := by decide +kernel
theorem dX12_flush_9 : decode cX12_flush 9 = .ok (.istore_n 1, 1) := by decide +kernel
theorem dX12_flush_10 : decode cX12_flush 10 = .ok (.aload_n 0, 1) := by decide +kernel
theorem dX12_flush_11 : decode cX12_flush 11 = .ok (.invokevirtual 254, 3) := by decide +kernel
theorem dX12_flush_14 : decode cX12_flush 14 = .ok (.iload_n 1, 1) := by decide +kernel
theorem dX12_flush_15 : decode cX12_flush 15 = .ok (.ireturn, 1) := by decide +kernel
theorem dX12_isOver_0 : decode cX12_isOver 0 = .ok (.aload_n 0, 1) := by decide +kernel
theorem dX12_isOver_1 : decode cX12_isOver 1 = .ok (.getfield 101, 3) := by decide +kernel
theorem dX12_isOver_4 : decode cX12_isOver 4 = .ok (.i2l, 1) := by decide +kernel
theorem dX12_isOver_5 : decode cX12_isOver 5 = .ok (.aload_n 0, 1) := by decide +kernel
theorem dX12_isOver_6 : decode cX12_isOver 6 = .ok (.getfield 26, 3) := by decide +kernel
theorem dX12_isOver_9 : decode cX12_isOver 9 = .ok (.bipush 8, 2) := by decide +kernel
theorem dX12_isOver_11 : decode cX12_isOver 11 = .ok (.iload_n 1, 1) := by decide +kernel
theorem dX12_isOver_12 : decode cX12_isOver 12 = .ok (.imul, 1) := by decide +kernel
theorem dX12_isOver_13 : decode cX12_isOver 13 = .ok (.bipush 6, 2) := by decide +kernel
theorem dX12_isOver_15 : decode cX12_isOver 15 = .ok (.iadd, 1) := by decide +kernel
theorem dX12_isOver_16 : decode cX12_isOver 16 = .ok (.laload, 1) := by decide +kernel
theorem dX12_isOver_17 : decode cX12_isOver 17 = .ok (.lsub, 1) := by decide +kernel
theorem dX12_isOver_18 : decode cX12_isOver 18 = .ok (.aload_n 0, 1) := by decide +kernel
theorem dX12_isOver_19 : decode cX12_isOver 19 = .ok (.getfield 17, 3) := by decide +kernel
theorem dX12_isOver_22 : decode cX12_isOver 22 = .ok (.iconst 2, 1) := by decide +kernel
theorem dX12_isOver_23 : decode cX12_isOver 23 = .ok (.iaload, 1) := by decide +kernel
theorem dX12_isOver_24 : decode cX12_isOver 24 = .ok (.i2l, 1) := by decide +kernel
theorem dX12_isOver_25 : decode cX12_isOver 25 = .ok (.lcmp, 1) := by decide +kernel
theorem dX12_isOver_26 : decode cX12_isOver 26 = .ok (.ifCond .ge 32, 3) := by decide +kernel
theorem dX12_isOver_29 : decode cX12_isOver 29 = .ok (.aload_n 0, 1) := by decide +kernel
theorem dX12_isOver_30 : decode cX12_isOver 30 = .ok (.getfield 101, 3) := by decide +kernel
theorem dX12_isOver_33 : decode cX12_isOver 33 = .ok (.i2l, 1) := by decide +kernel
theorem dX12_isOver_34 : decode cX12_isOver 34 = .ok (.aload_n 0, 1) := by decide +kernel
theorem dX12_isOver_35 : decode cX12_isOver 35 = .ok (.getfield 26, 3) := by decide +kernel
theorem dX12_isOver_38 : decode cX12_isOver 38 = .ok (.bipush 8, 2) := by decide +kernel
theorem dX12_isOver_40 : decode cX12_isOver 40 = .ok (.iload_n 1, 1) := by decide +kernel
theorem dX12_isOver_41 : decode cX12_isOver 41 = .ok (.imul, 1) := by decide +kernel
theorem dX12_isOver_42 : decode cX12_isOver 42 = .ok (.bipush 7, 2) := by decide +kernel
theorem dX12_isOver_44 : decode cX12_isOver 44 = .ok (.iadd, 1) := by decide +kernel
theorem dX12_isOver_45 : decode cX12_isOver 45 = .ok (.laload, 1) := by decide +kernel
theorem dX12_isOver_46 : decode cX12_isOver 46 = .ok (.lsub, 1) := by decide +kernel
theorem dX12_isOver_47 : decode cX12_isOver 47 = .ok (.aload_n 0, 1) := by decide +kernel
theorem dX12_isOver_48 : decode cX12_isOver 48 = .ok (.getfield 17, 3) := by decide +kernel
theorem dX12_isOver_51 : decode cX12_isOver 51 = .ok (.iconst 3, 1) := by decide +kernel
theorem dX12_isOver_52 : decode cX12_isOver 52 = .ok (.iaload, 1) := by decide +kernel
theorem dX12_isOver_53 : decode cX12_isOver 53 = .ok (.i2l, 1) := by decide +kernel
theorem dX12_isOver_54 : decode cX12_isOver 54 = .ok (.lcmp, 1) := by decide +kernel
theorem dX12_isOver_55 : decode cX12_isOver 55 = .ok (.ifCond .lt 7, 3) := by decide +kernel
theorem dX12_isOver_58 : decode cX12_isOver 58 = .ok (.iconst 1, 1) := by decide +kernel
theorem dX12_isOver_59 : decode cX12_isOver 59 = .ok (.goto 4, 3) := by decide +kernel
theorem dX12_isOver_62 : decode cX12_isOver 62 = .ok (.iconst 0, 1) := by decide +kernel
theorem dX12_isOver_63 : decode cX12_isOver 63 = .ok (.ireturn, 1) := by decide +kernel
set_option maxRecDepth 20000 in
theorem ggX12_adapt_X12_changeRate : GoodIn wsX12_adapt wsX12_changeRate := goodIn_ca (goodIn_r _ [9, 4, 10, 11, 12, 8, 13, 14, 15, 16, 17, 18, 3, 19, 20, 1, 21, 22, 23, 24, 25, 26, 27, 28, 29, 30, 31, 32, 33, 34, 35, 36, 37, 38, 39, 40, 41, 42, 43, 44, 45, 46, 47, 48, 49, 50, 51, 52, 53, 54, 55, 56, 57, 58, 59, 60, 61, 62, 63, 64, 65, 66, 67, 68, 69, 70, 71, 72, 73, 74, 75, 76, 77, 78, 79, 80, 81, 82, 83, 84, 85, 86, 87, 88, 89, 90, 91, 92, 93, 94, 95, 96, 97, 98, 99, 100, 101, 102, 103, 104, 105, 106, 107, 108, 109, 110, 111, 112, 113, 114, 115, 116, 117, 118, 119, 120, 121] rfl (by decide +kernel)) (goodIn_sub (fun _ h => List.mem_cons_of_mem _ (List.mem_append_right _ h)) (by decide +kernel))
set_option maxRecDepth 20000 in
theorem gX12_adapt_X12_changeRate : GoodIn wsX12_adapt (wsV RX12 265 RX12 yX12_changeRate wsX12_changeRate) := goodIn_app (goodIn_of _ (by decide +kernel)) ggX12_adapt_X12_changeRate
theorem dX12_adapt_0 : decode cX12_adapt 0 = .ok (.aload_n 0, 1) := by decide +kernel
theorem dX12_adapt_1 : decode cX12_adapt 1 = .ok (.getfield 114, 3) := by decide +kernel
theorem dX12_adapt_4 : decode cX12_adapt 4 = .ok (.istore_n 1, 1) := by decide +kernel
theorem dX12_adapt_5 : decode cX12_adapt 5 = .ok (.aload_n 0, 1) := by decide +kernel
theorem dX12_adapt_6 : decode cX12_adapt 6 = .ok (.iconst 0, 1) := by decide +kernel
theorem dX12_adapt_7 : decode cX12_adapt 7 = .ok (.putfield 114, 3) := by decide +kernel
theorem dX12_adapt_10 : decode cX12_adapt 10 = .ok (.aload_n 0, 1) := by decide +kernel
theorem dX12_adapt_11 : decode cX12_adapt 11 = .ok (.getfield 110, 3) := by decide +kernel
theorem dX12_adapt_14 : decode cX12_adapt 14 = .ok (.ifCond .ne 5, 3) := by decide +kernel
theorem dX12_adapt_17 : decode cX12_adapt 17 = .ok (.iconst 0, 1) := by decide +kernel
theorem dX12_adapt_18 : decode cX12_adapt 18 = .ok (.ireturn, 1) := by decide +kernel
theorem dX12_adapt_19 : decode cX12_adapt 19 = .ok (.iload_n 1, 1) := by decide +kernel
theorem dX12_adapt_20 : decode cX12_adapt 20 = .ok (.aload_n 0, 1) := by decide +kernel
theorem dX12_adapt_21 : decode cX12_adapt 21 = .ok (.getfield 17, 3) := by decide +kernel
theorem dX12_adapt_24 : decode cX12_adapt 24 = .ok (.iconst 1, 1) := by decide +kernel
theorem dX12_adapt_25 : decode cX12_adapt 25 = .ok (.iaload, 1) := by decide +kernel
theorem dX12_adapt_26 : decode cX12_adapt 26 = .ok (.if_icmp .le 24, 3) := by decide +kernel
theorem dX12_adapt_29 : decode cX12_adapt 29 = .ok (.aload_n 0, 1) := by decide +kernel
theorem dX12_adapt_30 : decode cX12_adapt 30 = .ok (.getfield 107, 3) := by decide +kernel
theorem dX12_adapt_33 : decode cX12_adapt 33 = .ok (.sipush 512, 3) := by decide +kernel
theorem dX12_adapt_36 : decode cX12_adapt 36 = .ok (.if_icmp .gt 14, 3) := by decide +kernel
theorem dX12_adapt_39 : decode cX12_adapt 39 = .ok (.aload_n 0, 1) := by decide +kernel
theorem dX12_adapt_40 : decode cX12_adapt 40 = .ok (.iconst 2, 1) := by decide +kernel
theorem dX12_adapt_41 : decode cX12_adapt 41 = .ok (.aload_n 0, 1) := by decide +kernel
theorem dX12_adapt_42 : decode cX12_adapt 42 = .ok (.getfield 107, 3) := by decide +kernel
theorem dX12_adapt_45 : decode cX12_adapt 45 = .ok (.imul, 1) := by decide +kernel
theorem dX12_adapt_46 : decode cX12_adapt 46 = .ok (.invokevirtual 265, 3) := by decide +kernel
theorem dX12_adapt_49 : decode cX12_adapt 49 = .ok (.ireturn, 1) := by decide +kernel
theorem dX12_adapt_50 : decode cX12_adapt 50 = .ok (.iconst 2, 1) := by decide +kernel
theorem dX12_adapt_51 : decode cX12_adapt 51 = .ok (.iload_n 1, 1) := by decide +kernel
theorem dX12_adapt_52 : decode cX12_adapt 52 = .ok (.imul, 1) := by decide +kernel
theorem dX12_adapt_53 : decode cX12_adapt 53 = .ok (.aload_n 0, 1) := by decide +kernel
theorem dX12_adapt_54 : decode cX12_adapt 54 = .ok (.getfield 17, 3) := by decide +kernel
theorem dX12_adapt_57 : decode cX12_adapt 57 = .ok (.iconst 1, 1) := by decide +kernel
theorem dX12_adapt_58 : decode cX12_adapt 58 = .ok (.iaload, 1) := by decide +kernel
theorem dX12_adapt_59 : decode cX12_adapt 59 = .ok (.if_icmp .ge 24, 3) := by decide +kernel
theorem dX12_adapt_62 : decode cX12_adapt 62 = .ok (.aload_n 0, 1) := by decide +kernel
theorem dX12_adapt_63 : decode cX12_adapt 63 = .ok (.getfield 107, 3) := by decide +kernel
theorem dX12_adapt_66 : decode cX12_adapt 66 = .ok (.iconst 2, 1) := by decide +kernel
theorem dX12_adapt_67 : decode cX12_adapt 67 = .ok (.if_icmp .lt 16, 3) := by decide +kernel
theorem dX12_adapt_70 : decode cX12_adapt 70 = .ok (.aload_n 0, 1) := by decide +kernel
theorem dX12_adapt_71 : decode cX12_adapt 71 = .ok (.aload_n 0, 1) := by decide +kernel
theorem dX12_adapt_72 : decode cX12_adapt 72 = .ok (.getfield 107, 3) := by decide +kernel
theorem dX12_adapt_75 : decode cX12_adapt 75 = .ok (.iconst 2, 1) := by decide +kernel
theorem dX12_adapt_76 : decode cX12_adapt 76 = .ok (.idiv, 1) := by decide +kernel
theorem dX12_adapt_77 : decode cX12_adapt 77 = .ok (.invokevirtual 265, 3) := by decide +kernel
theorem dX12_adapt_80 : decode cX12_adapt 80 = .ok (.goto 4, 3) := by decide +kernel
theorem dX12_adapt_83 : decode cX12_adapt 83 = .ok (.iconst 0, 1) := by decide +kernel
theorem dX12_adapt_84 : decode cX12_adapt 84 = .ok (.ireturn, 1) := by decide +kernel
set_option maxRecDepth 20000 in
theorem ggX12_tick_X12_isOver : GoodIn wsX12_tick wsX12_isOver := goodIn_ca (goodIn_r _ [7, 1, 8, 9, 130, 131, 132, 133, 134, 135, 136, 137, 138, 139, 140, 141, 142, 143, 144, 145, 146, 147, 148, 149, 150, 151, 152, 153, 154, 155, 156, 157, 158, 159, 160, 161, 162, 163, 164, 165, 166, 167, 168, 169, 170, 171, 172, 173, 174, 175, 176, 177, 178, 179, 180, 181, 182, 183] rfl (by decide +kernel)) (goodIn_sub (fun _ h => List.mem_cons_of_mem _ (List.mem_append_right _ h)) (by decide +kernel))
set_option maxRecDepth 20000 in
theorem gX12_tick_X12_isOver : GoodIn wsX12_tick (wsV RX12 268 RX12 yX12_isOver wsX12_isOver) := goodIn_app (goodIn_of _ (by decide +kernel)) ggX12_tick_X12_isOver
set_option maxRecDepth 20000 in
theorem ggX12_tick_X12_export : GoodIn wsX12_tick wsX12_export := goodIn_ca (goodIn_r _ [13, 9, 8, 14, 15, 2, 16, 17, 18, 6, 19, 20, 21, 22, 23, 24, 25, 26, 27, 28, 29, 30, 31, 32, 33, 34, 35, 36, 37, 38, 39, 40, 41, 42, 43, 44, 45, 46, 47, 48, 49, 50, 51, 52, 53, 54, 55, 56, 57, 58, 59, 60, 61, 62, 63, 130, 131, 132, 133, 134, 135, 136, 137, 138, 139, 140, 141, 142, 143, 144, 145, 146, 147, 148, 149, 150, 151, 152, 153, 154, 155, 156, 157, 158, 159, 160, 161, 162, 163, 164, 165, 166, 167, 168, 169, 170, 171, 172, 173, 174, 175, 176, 177, 178, 179, 180, 181, 182, 183] rfl (by decide +kernel)) (goodIn_sub (fun _ h => List.mem_cons_of_mem _ (List.mem_append_right _ h)) (by decide +kernel))
set_option maxRecDepth 20000 in
theorem gX12_tick_X12_export : GoodIn wsX12_tick (wsV RX12 224 RX12 yX12_export wsX12_export) := goodIn_app (goodIn_of _ (by decide +kernel)) ggX12_tick_X12_export
set_option maxRecDepth 20000 in
theorem ggX12_tick_X12_adapt : GoodIn wsX12_tick wsX12_adapt := goodIn_ca (goodIn_r _ [67, 15, 68, 9, 51, 69, 70, 71, 6, 72, 73, 74, 75, 76, 2, 10, 11, 12, 13, 8, 14, 16, 17, 18, 19, 20, 21, 22, 23, 24, 25, 26, 27, 28, 29, 30, 31, 32, 33, 34, 35, 36, 37, 38, 39, 40, 41, 42, 43, 44, 45, 46, 47, 48, 49, 50, 52, 53, 54, 55, 56, 57, 58, 59, 60, 61, 62, 63, 130, 131, 132, 133, 134, 135, 136, 137, 138, 139, 140, 141, 142, 143, 144, 145, 146, 147, 148, 149, 150, 151, 152, 153, 154, 155, 156, 157, 158, 159, 160, 161, 162, 163, 164, 165, 166, 167, 168, 169, 170, 171, 172, 173, 174, 175, 176, 177, 178, 179, 180, 181, 182, 183] rfl (by decide +kernel)) (goodIn_sub (fun _ h => List.mem_cons_of_mem _ (List.mem_append_right _ h)) (by decide +kernel))
set_option maxRecDepth 20000 in
theorem gX12_tick_X12_adapt : GoodIn wsX12_tick (wsV RX12 271 RX12 yX12_adapt wsX12_adapt) := goodIn_app (goodIn_of _ (by decide +kernel)) ggX12_tick_X12_adapt
set_option maxRecDepth 20000 in
theorem ggX12_tick_X12_sendPending : GoodIn wsX12_tick wsX12_sendPending := goodIn_ca (goodIn_r _ [80, 36, 81, 82, 1, 83, 84, 85, 86, 87, 88, 89, 6, 90, 91, 38, 92, 93, 94, 95, 9, 96, 97, 98, 99, 100, 101, 102, 16, 17, 18, 19, 20, 21, 22, 23, 24, 25, 26, 27, 28, 29, 30, 31, 103, 104, 105, 106, 107, 108, 109, 40, 41, 42, 43, 44, 45, 46, 110, 111, 112, 113, 114, 115, 116, 117, 39, 37, 118, 119, 120, 121, 122, 123, 124, 125, 126, 127, 128, 129, 130, 131, 132, 133, 134, 135, 136, 137, 138, 139, 140, 141, 142, 143, 144, 145, 146, 147, 148, 149, 150, 151, 152, 153, 154, 155, 156, 157, 158, 159, 160, 161, 162, 163, 164, 165, 166, 167, 168, 169, 170, 171, 172, 173, 174, 175, 176, 177, 178, 179, 180, 181, 182, 183] rfl (by decide +kernel)) (goodIn_sub (fun _ h => List.mem_cons_of_mem _ (List.mem_append_right _ h)) (by decide +kernel))
set_option maxRecDepth 20000 in
theorem gX12_tick_X12_sendPending : GoodIn wsX12_tick (wsV RX12 254 RX12 yX12_sendPending wsX12_sendPending) := goodIn_app (goodIn_of _ (by decide +kernel)) ggX12_tick_X12_sendPending
theorem dX12_tick_0 : decode cX12_tick 0 = .ok (.aload_n 0, 1) := by decide +kernel
theorem dX12_tick_1 : decode cX12_tick 1 = .ok (.dup, 1) := by decide +kernel
theorem dX12_tick_2 : decode cX12_tick 2 = .ok (.getfield 101, 3) := by decide +kernel
theorem dX12_tick_5 : decode cX12_tick 5 = .ok (.iconst 1, 1) := by decide +kernel
theorem dX12_tick_6 : decode cX12_tick 6 = .ok (.iadd, 1) := by decide +kernel
theorem dX12_tick_7 : decode cX12_tick 7 = .ok (.putfield 101, 3) := by decide +kernel
theorem dX12_tick_10 : decode cX12_tick 10 = .ok (.iconst 0, 1) := by decide +kernel
theorem dX12_tick_11 : decode cX12_tick 11 = .ok (.istore_n 1, 1) := by decide +kernel
theorem dX12_tick_12 : decode cX12_tick 12 = .ok (.iconst 0, 1) := by decide +kernel
theorem dX12_tick_13 : decode cX12_tick 13 = .ok (.istore_n 2, 1) := by decide +kernel
theorem dX12_tick_14 : decode cX12_tick 14 = .ok (.iload_n 2, 1) := by decide +kernel
theorem dX12_tick_15 : decode cX12_tick 15 = .ok (.aload_n 0, 1) := by decide +kernel
theorem dX12_tick_16 : decode cX12_tick 16 = .ok (.getfield 133, 3) := by decide +kernel
theorem dX12_tick_19 : decode cX12_tick 19 = .ok (.if_icmp .ge 28, 3) := by decide +kernel
theorem dX12_tick_22 : decode cX12_tick 22 = .ok (.aload_n 0, 1) := by decide +kernel
theorem dX12_tick_23 : decode cX12_tick 23 = .ok (.iload_n 2, 1) := by decide +kernel
theorem dX12_tick_24 : decode cX12_tick 24 = .ok (.invokevirtual 268, 3) := by decide +kernel
theorem dX12_tick_27 : decode cX12_tick 27 = .ok (.ifCond .eq 14, 3) := by decide +kernel
theorem dX12_tick_30 : decode cX12_tick 30 = .ok (.aload_n 0, 1) := by decide +kernel
theorem dX12_tick_31 : decode cX12_tick 31 = .ok (.iload_n 2, 1) := by decide +kernel
theorem dX12_tick_32 : decode cX12_tick 32 = .ok (.invokevirtual 224, 3) := by decide +kernel
theorem dX12_tick_35 : decode cX12_tick 35 = .ok (.iinc 1 1, 3) := by decide +kernel
theorem dX12_tick_38 : decode cX12_tick 38 = .ok (.goto (-24), 3) := by decide +kernel
theorem dX12_tick_41 : decode cX12_tick 41 = .ok (.iinc 2 1, 3) := by decide +kernel
theorem dX12_tick_44 : decode cX12_tick 44 = .ok (.goto (-30), 3) := by decide +kernel
theorem dX12_tick_47 : decode cX12_tick 47 = .ok (.aload_n 0, 1) := by decide +kernel
theorem dX12_tick_48 : decode cX12_tick 48 = .ok (.getfield 101, 3) := by decide +kernel
theorem dX12_tick_51 : decode cX12_tick 51 = .ok (.bipush 100, 2) := by decide +kernel
theorem dX12_tick_53 : decode cX12_tick 53 = .ok (.irem, 1) := by decide +kernel
theorem dX12_tick_54 : decode cX12_tick 54 = .ok (.ifCond .ne 10, 3) := by decide +kernel
theorem dX12_tick_57 : decode cX12_tick 57 = .ok (.iload_n 1, 1) := by decide +kernel
theorem dX12_tick_58 : decode cX12_tick 58 = .ok (.aload_n 0, 1) := by decide +kernel
theorem dX12_tick_59 : decode cX12_tick 59 = .ok (.invokevirtual 271, 3) := by decide +kernel
theorem dX12_tick_62 : decode cX12_tick 62 = .ok (.iadd, 1) := by decide +kernel
theorem dX12_tick_63 : decode cX12_tick 63 = .ok (.istore_n 1, 1) := by decide +kernel
theorem dX12_tick_64 : decode cX12_tick 64 = .ok (.aload_n 0, 1) := by decide +kernel
theorem dX12_tick_65 : decode cX12_tick 65 = .ok (.invokevirtual 254, 3) := by decide +kernel
theorem dX12_tick_68 : decode cX12_tick 68 = .ok (.iload_n 1, 1) := by decide +kernel
theorem dX12_tick_69 : decode cX12_tick 69 = .ok (.ireturn, 1) := by decide +kernel

set_option maxRecDepth 20000 in
theorem ggX12_observe_X12_isPacket : GoodIn wsX12_observe wsX12_isPacket := (goodIn_r _ [5, 6, 7, 8, 4, 9, 10, 11, 12, 13] rfl (by decide +kernel))
set_option maxRecDepth 20000 in
theorem gX12_observe_X12_isPacket : GoodIn wsX12_observe (va_wsS RX12 247 yX12_isPacket wsX12_isPacket) := goodIn_app (goodIn_m (mem_cA (List.mem_cons_of_mem _ (List.mem_append_left _ (List.mem_append_left _ (List.mem_append_left _ (List.mem_append_left _ (List.mem_of_getElem? (i := 1) rfl)))))) (mem_cA (List.mem_cons_of_mem _ (List.mem_append_left _ (List.mem_append_left _ (List.mem_append_left _ (List.mem_append_left _ (List.mem_of_getElem? (i := 2) rfl)))))) (mem_cA (List.mem_cons_of_mem _ (List.mem_append_left _ (List.mem_append_left _ (List.mem_append_left _ (List.mem_append_left _ (List.mem_of_getElem? (i := 3) rfl)))))) mem_cZ))) (by decide +kernel)) ggX12_observe_X12_isPacket
set_option maxRecDepth 20000 in
theorem ggX12_observe_X12_throwsIf : GoodIn wsX12_observe wsX12_throwsIf := (goodIn_ca (goodIn_r _ [17, 1] rfl (by decide +kernel)) (goodIn_sub (fun _ h => List.mem_cons_of_mem _ (List.mem_append_left _ (List.mem_append_left _ (List.mem_append_right _ h)))) gw_wsX120))
set_option maxRecDepth 20000 in
theorem gX12_observe_X12_throwsIf : GoodIn wsX12_observe (wsV RX12 185 RX12 yX12_throwsIf wsX12_throwsIf) := goodIn_app (goodIn_m (mem_cA (List.mem_cons_of_mem _ (List.mem_append_left _ (List.mem_append_left _ (List.mem_append_left _ (List.mem_append_left _ (List.mem_of_getElem? (i := 13) rfl)))))) (mem_cA (List.mem_cons_of_mem _ (List.mem_append_left _ (List.mem_append_left _ (List.mem_append_left _ (List.mem_append_left _ (List.mem_of_getElem? (i := 14) rfl)))))) (mem_cA (List.mem_cons_of_mem _ (List.mem_append_left _ (List.mem_append_left _ (List.mem_append_left _ (List.mem_append_left _ (List.mem_of_getElem? (i := 15) rfl)))))) (mem_cA (List.mem_cons_of_mem _ (List.mem_append_left _ (List.mem_append_left _ (List.mem_append_left _ (List.mem_append_left _ (List.mem_of_getElem? (i := 3) rfl)))))) mem_cZ)))) (by decide +kernel)) ggX12_observe_X12_throwsIf
set_option maxRecDepth 20000 in
theorem ggX12_observe_X12_see : GoodIn wsX12_observe wsX12_see := goodIn_ca (goodIn_ca ((goodIn_ca (goodIn_r _ [21, 22, 23, 24, 25, 26, 27, 28, 29, 30, 4, 31, 32, 33, 34, 35, 36, 37, 38, 39, 40, 41, 42, 43, 44, 45, 46, 47, 48, 49, 50, 51, 52, 53, 54, 55, 56, 57, 58, 59, 60, 61, 62, 63, 64, 65, 66, 67, 68, 69, 70, 71, 72, 73, 74, 75, 76, 77, 78, 79, 80, 81, 82, 83, 84, 85, 86, 10, 87, 88, 89, 90, 91, 92, 93, 94, 95, 96, 97, 98, 99, 100, 101, 102, 103, 104, 105, 106, 107, 108, 109, 110] rfl (by decide +kernel)) (goodIn_sub (fun _ h => List.mem_cons_of_mem _ (List.mem_append_left _ (List.mem_append_left _ (List.mem_append_right _ h)))) gw_wsX120))) (goodIn_sub (fun _ h => List.mem_cons_of_mem _ (List.mem_append_left _ (List.mem_append_right _ h))) (all_fg _))) (goodIn_sub (fun _ h => List.mem_cons_of_mem _ (List.mem_append_right _ h)) (all_fg _))
set_option maxRecDepth 20000 in
theorem gX12_observe_X12_see : GoodIn wsX12_observe (wsV RX12 251 RX12 yX12_see wsX12_see) := goodIn_app (goodIn_m (mem_cA (List.mem_cons_of_mem _ (List.mem_append_left _ (List.mem_append_left _ (List.mem_append_left _ (List.mem_append_left _ (List.mem_of_getElem? (i := 17) rfl)))))) (mem_cA (List.mem_cons_of_mem _ (List.mem_append_left _ (List.mem_append_left _ (List.mem_append_left _ (List.mem_append_left _ (List.mem_of_getElem? (i := 18) rfl)))))) (mem_cA (List.mem_cons_of_mem _ (List.mem_append_left _ (List.mem_append_left _ (List.mem_append_left _ (List.mem_append_left _ (List.mem_of_getElem? (i := 19) rfl)))))) (mem_cA (List.mem_cons_of_mem _ (List.mem_append_left _ (List.mem_append_left _ (List.mem_append_left _ (List.mem_append_left _ (List.mem_of_getElem? (i := 3) rfl)))))) mem_cZ)))) (by decide +kernel)) ggX12_observe_X12_see
set_option maxRecDepth 20000 in
theorem ggX12_observe_X12_sendPending : GoodIn wsX12_observe wsX12_sendPending := goodIn_ca ((goodIn_ca (goodIn_r _ [114, 85, 115, 116, 27, 117, 118, 119, 120, 121, 122, 123, 4, 124, 125, 10, 126, 127, 128, 129, 62, 130, 131, 132, 133, 134, 135, 136, 65, 66, 67, 68, 69, 70, 71, 72, 73, 74, 75, 76, 77, 78, 79, 80, 137, 138, 139, 140, 141, 142, 143, 88, 89, 90, 91, 92, 93, 94, 144, 145, 146, 147, 148, 149, 150, 151, 87, 86, 152, 153, 154, 155, 156, 157, 158, 159, 160, 161, 162, 163] rfl (by decide +kernel)) (goodIn_sub (fun _ h => List.mem_cons_of_mem _ (List.mem_append_left _ (List.mem_append_left _ (List.mem_append_right _ h)))) gw_wsX120))) (goodIn_sub (fun _ h => List.mem_cons_of_mem _ (List.mem_append_left _ (List.mem_append_right _ h))) (all_fg _))
set_option maxRecDepth 20000 in
theorem gX12_observe_X12_sendPending : GoodIn wsX12_observe (wsV RX12 254 RX12 yX12_sendPending wsX12_sendPending) := goodIn_app (goodIn_m (mem_cA (List.mem_cons_of_mem _ (List.mem_append_left _ (List.mem_append_left _ (List.mem_append_left _ (List.mem_append_right _ (List.mem_append_right _ (List.mem_append_right _ (List.mem_append_right _ (List.mem_append_left _ (List.mem_of_getElem? (i := 14) rfl)))))))))) (mem_cA (List.mem_cons_of_mem _ (List.mem_append_left _ (List.mem_append_left _ (List.mem_append_left _ (List.mem_append_right _ (List.mem_append_right _ (List.mem_append_right _ (List.mem_append_right _ (List.mem_append_left _ (List.mem_of_getElem? (i := 15) rfl)))))))))) (mem_cA (List.mem_cons_of_mem _ (List.mem_append_left _ (List.mem_append_left _ (List.mem_append_left _ (List.mem_append_right _ (List.mem_append_right _ (List.mem_append_right _ (List.mem_append_right _ (List.mem_append_left _ (List.mem_of_getElem? (i := 16) rfl)))))))))) (mem_cA (List.mem_cons_of_mem _ (List.mem_append_left _ (List.mem_append_left _ (List.mem_append_left _ (List.mem_append_left _ (List.mem_of_getElem? (i := 3) rfl)))))) mem_cZ)))) (by decide +kernel)) ggX12_observe_X12_sendPending
theorem dX12_observe_0 : decode cX12_observe 0 = .ok (.aload_n 0, 1) := by decide +kernel
theorem dX12_observe_1 : decode cX12_observe 1 = .ok (.iconst 0, 1) := by decide +kernel
theorem dX12_observe_2 : decode cX12_observe 2 = .ok (.putfield 1, 3) := by decide +kernel
theorem dX12_observe_5 : decode cX12_observe 5 = .ok (.aload_n 0, 1) := by decide +kernel
theorem dX12_observe_6 : decode cX12_observe 6 = .ok (.iload_n 1, 1) := by decide +kernel
theorem dX12_observe_7 : decode cX12_observe 7 = .ok (.iload_n 2, 1) := by decide +kernel
theorem dX12_observe_8 : decode cX12_observe 8 = .ok (.iload_n 3, 1) := by decide +kernel
theorem dX12_observe_9 : decode cX12_observe 9 = .ok (.iload 4, 2) := by decide +kernel
theorem dX12_observe_11 : decode cX12_observe 11 = .ok (.iload 5, 2) := by decide +kernel
theorem dX12_observe_13 : decode cX12_observe 13 = .ok (.invokestatic 247, 3) := by decide +kernel
theorem dX12_observe_16 : decode cX12_observe 16 = .ok (.ifCond .ne 7, 3) := by decide +kernel
theorem dX12_observe_19 : decode cX12_observe 19 = .ok (.iconst 1, 1) := by decide +kernel
theorem dX12_observe_20 : decode cX12_observe 20 = .ok (.goto 4, 3) := by decide +kernel
theorem dX12_observe_23 : decode cX12_observe 23 = .ok (.iconst 0, 1) := by decide +kernel
theorem dX12_observe_24 : decode cX12_observe 24 = .ok (.iconst 1, 1) := by decide +kernel
theorem dX12_observe_25 : decode cX12_observe 25 = .ok (.invokevirtual 185, 3) := by decide +kernel
theorem dX12_observe_28 : decode cX12_observe 28 = .ok (.ifCond .eq 5, 3) := by decide +kernel
theorem dX12_observe_31 : decode cX12_observe 31 = .ok (.iconst 0, 1) := by decide +kernel
theorem dX12_observe_32 : decode cX12_observe 32 = .ok (.ireturn, 1) := by decide +kernel
theorem dX12_observe_33 : decode cX12_observe 33 = .ok (.aload_n 0, 1) := by decide +kernel
theorem dX12_observe_34 : decode cX12_observe 34 = .ok (.iload_n 1, 1) := by decide +kernel
theorem dX12_observe_35 : decode cX12_observe 35 = .ok (.iload_n 2, 1) := by decide +kernel
theorem dX12_observe_36 : decode cX12_observe 36 = .ok (.iload_n 3, 1) := by decide +kernel
theorem dX12_observe_37 : decode cX12_observe 37 = .ok (.iload 4, 2) := by decide +kernel
theorem dX12_observe_39 : decode cX12_observe 39 = .ok (.iload 5, 2) := by decide +kernel
theorem dX12_observe_41 : decode cX12_observe 41 = .ok (.invokevirtual 251, 3) := by decide +kernel
theorem dX12_observe_44 : decode cX12_observe 44 = .ok (.istore 6, 2) := by decide +kernel
theorem dX12_observe_46 : decode cX12_observe 46 = .ok (.aload_n 0, 1) := by decide +kernel
theorem dX12_observe_47 : decode cX12_observe 47 = .ok (.invokevirtual 254, 3) := by decide +kernel
theorem dX12_observe_50 : decode cX12_observe 50 = .ok (.iload 6, 2) := by decide +kernel
theorem dX12_observe_52 : decode cX12_observe 52 = .ok (.ireturn, 1) := by decide +kernel
set_option maxRecDepth 20000 in
theorem ggX12_observeMany_X12_isPacket : GoodIn wsX12_observeMany wsX12_isPacket := (goodIn_r _ [6, 7, 8, 9, 5, 10, 11, 12, 13, 14] rfl (by decide +kernel))
set_option maxRecDepth 20000 in
theorem gX12_observeMany_X12_isPacket : GoodIn wsX12_observeMany (va_wsS RX12 247 yX12_isPacket wsX12_isPacket) := goodIn_app (goodIn_m (mem_cA (List.mem_cons_of_mem _ (List.mem_append_left _ (List.mem_append_left _ (List.mem_append_left _ (List.mem_append_left _ (List.mem_of_getElem? (i := 2) rfl)))))) (mem_cA (List.mem_cons_of_mem _ (List.mem_append_left _ (List.mem_append_left _ (List.mem_append_left _ (List.mem_append_left _ (List.mem_of_getElem? (i := 3) rfl)))))) (mem_cA (List.mem_cons_of_mem _ (List.mem_append_left _ (List.mem_append_left _ (List.mem_append_left _ (List.mem_append_left _ (List.mem_of_getElem? (i := 4) rfl)))))) mem_cZ))) (by decide +kernel)) ggX12_observeMany_X12_isPacket
set_option maxRecDepth 20000 in
theorem ggX12_observeMany_X12_inRange : GoodIn wsX12_observeMany wsX12_inRange := (goodIn_r _ [14] rfl (by decide +kernel))
set_option maxRecDepth 20000 in
theorem gX12_observeMany_X12_inRange : GoodIn wsX12_observeMany (va_wsS RX12 169 yX12_inRange wsX12_inRange) := goodIn_app (goodIn_m (mem_cA (List.mem_cons_of_mem _ (List.mem_append_left _ (List.mem_append_left _ (List.mem_append_left _ (List.mem_append_left _ (List.mem_of_getElem? (i := 11) rfl)))))) (mem_cA (List.mem_cons_of_mem _ (List.mem_append_left _ (List.mem_append_left _ (List.mem_append_left _ (List.mem_append_left _ (List.mem_of_getElem? (i := 12) rfl)))))) (mem_cA (List.mem_cons_of_mem _ (List.mem_append_left _ (List.mem_append_left _ (List.mem_append_left _ (List.mem_append_left _ (List.mem_of_getElem? (i := 4) rfl)))))) mem_cZ))) (by decide +kernel)) ggX12_observeMany_X12_inRange
set_option maxRecDepth 20000 in
theorem ggX12_observeMany_X12_throwsIf : GoodIn wsX12_observeMany wsX12_throwsIf := (goodIn_ca (goodIn_r _ [18, 1] rfl (by decide +kernel)) (goodIn_sub (fun _ h => List.mem_cons_of_mem _ (List.mem_append_left _ (List.mem_append_left _ (List.mem_append_right _ h)))) gw_wsX120))
set_option maxRecDepth 20000 in
theorem gX12_observeMany_X12_throwsIf : GoodIn wsX12_observeMany (wsV RX12 185 RX12 yX12_throwsIf wsX12_throwsIf) := goodIn_app (goodIn_m (mem_cA (List.mem_cons_of_mem _ (List.mem_append_left _ (List.mem_append_left _ (List.mem_append_left _ (List.mem_append_left _ (List.mem_of_getElem? (i := 14) rfl)))))) (mem_cA (List.mem_cons_of_mem _ (List.mem_append_left _ (List.mem_append_left _ (List.mem_append_left _ (List.mem_append_left _ (List.mem_of_getElem? (i := 15) rfl)))))) (mem_cA (List.mem_cons_of_mem _ (List.mem_append_left _ (List.mem_append_left _ (List.mem_append_left _ (List.mem_append_left _ (List.mem_of_getElem? (i := 16) rfl)))))) (mem_cA (List.mem_cons_of_mem _ (List.mem_append_left _ (List.mem_append_left _ (List.mem_append_left _ (List.mem_append_left _ (List.mem_of_getElem? (i := 4) rfl)))))) mem_cZ)))) (by decide +kernel)) ggX12_observeMany_X12_throwsIf
set_option maxRecDepth 20000 in
theorem ggX12_observeMany_X12_see : GoodIn wsX12_observeMany wsX12_see := goodIn_ca (goodIn_ca ((goodIn_ca (goodIn_r _ [22, 23, 24, 25, 26, 27, 28, 29, 30, 31, 5, 32, 33, 34, 35, 36, 37, 38, 39, 40, 41, 42, 43, 44, 45, 46, 47, 48, 49, 50, 51, 52, 53, 54, 55, 56, 57, 58, 59, 60, 61, 62, 63, 64, 65, 66, 67, 68, 69, 70, 71, 72, 73, 74, 75, 76, 77, 78, 79, 80, 81, 82, 83, 84, 85, 86, 87, 11, 88, 89, 90, 91, 92, 93, 94, 95, 96, 97, 98, 99, 100, 101, 102, 103, 104, 105, 106, 107, 108, 109, 110, 111] rfl (by decide +kernel)) (goodIn_sub (fun _ h => List.mem_cons_of_mem _ (List.mem_append_left _ (List.mem_append_left _ (List.mem_append_right _ h)))) gw_wsX120))) (goodIn_sub (fun _ h => List.mem_cons_of_mem _ (List.mem_append_left _ (List.mem_append_right _ h))) (all_fg _))) (goodIn_sub (fun _ h => List.mem_cons_of_mem _ (List.mem_append_right _ h)) (all_fg _))
set_option maxRecDepth 20000 in
theorem gX12_observeMany_X12_see : GoodIn wsX12_observeMany (wsV RX12 251 RX12 yX12_see wsX12_see) := goodIn_app (goodIn_m (mem_cA (List.mem_cons_of_mem _ (List.mem_append_left _ (List.mem_append_left _ (List.mem_append_left _ (List.mem_append_left _ (List.mem_of_getElem? (i := 18) rfl)))))) (mem_cA (List.mem_cons_of_mem _ (List.mem_append_left _ (List.mem_append_left _ (List.mem_append_left _ (List.mem_append_left _ (List.mem_of_getElem? (i := 19) rfl)))))) (mem_cA (List.mem_cons_of_mem _ (List.mem_append_left _ (List.mem_append_left _ (List.mem_append_left _ (List.mem_append_left _ (List.mem_of_getElem? (i := 20) rfl)))))) (mem_cA (List.mem_cons_of_mem _ (List.mem_append_left _ (List.mem_append_left _ (List.mem_append_left _ (List.mem_append_left _ (List.mem_of_getElem? (i := 4) rfl)))))) mem_cZ)))) (by decide +kernel)) ggX12_observeMany_X12_see
set_option maxRecDepth 20000 in
theorem ggX12_observeMany_X12_sendPending : GoodIn wsX12_observeMany wsX12_sendPending := goodIn_ca ((goodIn_ca (goodIn_r _ [115, 86, 116, 117, 28, 118, 119, 120, 121, 122, 123, 124, 5, 125, 126, 11, 127, 128, 129, 130, 63, 131, 132, 133, 134, 135, 136, 137, 66, 67, 68, 69, 70, 71, 72, 73, 74, 75, 76, 77, 78, 79, 80, 81, 138, 139, 140, 141, 142, 143, 144, 89, 90, 91, 92, 93, 94, 95, 145, 146, 147, 148, 149, 150, 151, 152, 88, 87, 153, 154, 155, 156, 157, 158, 159, 160, 161, 162, 163, 164] rfl (by decide +kernel)) (goodIn_sub (fun _ h => List.mem_cons_of_mem _ (List.mem_append_left _ (List.mem_append_left _ (List.mem_append_right _ h)))) gw_wsX120))) (goodIn_sub (fun _ h => List.mem_cons_of_mem _ (List.mem_append_left _ (List.mem_append_right _ h))) (all_fg _))
set_option maxRecDepth 20000 in
theorem gX12_observeMany_X12_sendPending : GoodIn wsX12_observeMany (wsV RX12 254 RX12 yX12_sendPending wsX12_sendPending) := goodIn_app (goodIn_m (mem_cA (List.mem_cons_of_mem _ (List.mem_append_left _ (List.mem_append_left _ (List.mem_append_left _ (List.mem_append_right _ (List.mem_append_right _ (List.mem_append_right _ (List.mem_append_right _ (List.mem_append_left _ (List.mem_of_getElem? (i := 15) rfl)))))))))) (mem_cA (List.mem_cons_of_mem _ (List.mem_append_left _ (List.mem_append_left _ (List.mem_append_left _ (List.mem_append_right _ (List.mem_append_right _ (List.mem_append_right _ (List.mem_append_right _ (List.mem_append_left _ (List.mem_of_getElem? (i := 16) rfl)))))))))) (mem_cA (List.mem_cons_of_mem _ (List.mem_append_left _ (List.mem_append_left _ (List.mem_append_left _ (List.mem_append_right _ (List.mem_append_right _ (List.mem_append_right _ (List.mem_append_right _ (List.mem_append_left _ (List.mem_of_getElem? (i := 17) rfl)))))))))) (mem_cA (List.mem_cons_of_mem _ (List.mem_append_left _ (List.mem_append_left _ (List.mem_append_left _ (List.mem_append_left _ (List.mem_of_getElem? (i := 4) rfl)))))) mem_cZ)))) (by decide +kernel)) ggX12_observeMany_X12_sendPending
theorem dX12_observeMany_0 : decode cX12_observeMany 0 = .ok (.aload_n 0, 1) := by decide +kernel
theorem dX12_observeMany_1 : decode cX12_observeMany 1 = .ok (.iconst 0, 1) := by decide +kernel
theorem dX12_observeMany_2 : decode cX12_observeMany 2 = .ok (.putfield 1, 3) := by decide +kernel
theorem dX12_observeMany_5 : decode cX12_observeMany 5 = .ok (.aload_n 0, 1) := by decide +kernel
theorem dX12_observeMany_6 : decode cX12_observeMany 6 = .ok (.iload_n 1, 1) := by decide +kernel
theorem dX12_observeMany_7 : decode cX12_observeMany 7 = .ok (.iload_n 2, 1) := by decide +kernel
theorem dX12_observeMany_8 : decode cX12_observeMany 8 = .ok (.iload_n 3, 1) := by decide +kernel
theorem dX12_observeMany_9 : decode cX12_observeMany 9 = .ok (.iload 4, 2) := by decide +kernel
theorem dX12_observeMany_11 : decode cX12_observeMany 11 = .ok (.iload 5, 2) := by decide +kernel
theorem dX12_observeMany_13 : decode cX12_observeMany 13 = .ok (.invokestatic 247, 3) := by decide +kernel
theorem dX12_observeMany_16 : decode cX12_observeMany 16 = .ok (.ifCond .eq 16, 3) := by decide +kernel
theorem dX12_observeMany_19 : decode cX12_observeMany 19 = .ok (.iload 6, 2) := by decide +kernel
theorem dX12_observeMany_21 : decode cX12_observeMany 21 = .ok (.i2l, 1) := by decide +kernel
theorem dX12_observeMany_22 : decode cX12_observeMany 22 = .ok (.lconst 1, 1) := by decide +kernel
theorem dX12_observeMany_23 : decode cX12_observeMany 23 = .ok (.ldc2_w 257, 3) := by decide +kernel
theorem dX12_observeMany_26 : decode cX12_observeMany 26 = .ok (.invokestatic 169, 3) := by decide +kernel
theorem dX12_observeMany_29 : decode cX12_observeMany 29 = .ok (.ifCond .ne 7, 3) := by decide +kernel
theorem dX12_observeMany_32 : decode cX12_observeMany 32 = .ok (.iconst 1, 1) := by decide +kernel
theorem dX12_observeMany_33 : decode cX12_observeMany 33 = .ok (.goto 4, 3) := by decide +kernel
theorem dX12_observeMany_36 : decode cX12_observeMany 36 = .ok (.iconst 0, 1) := by decide +kernel
theorem dX12_observeMany_37 : decode cX12_observeMany 37 = .ok (.iconst 1, 1) := by decide +kernel
theorem dX12_observeMany_38 : decode cX12_observeMany 38 = .ok (.invokevirtual 185, 3) := by decide +kernel
theorem dX12_observeMany_41 : decode cX12_observeMany 41 = .ok (.ifCond .eq 5, 3) := by decide +kernel
theorem dX12_observeMany_44 : decode cX12_observeMany 44 = .ok (.iconst 0, 1) := by decide +kernel
theorem dX12_observeMany_45 : decode cX12_observeMany 45 = .ok (.ireturn, 1) := by decide +kernel
theorem dX12_observeMany_46 : decode cX12_observeMany 46 = .ok (.iconst 0, 1) := by decide +kernel
theorem dX12_observeMany_47 : decode cX12_observeMany 47 = .ok (.istore 7, 2) := by decide +kernel
theorem dX12_observeMany_49 : decode cX12_observeMany 49 = .ok (.iconst 0, 1) := by decide +kernel
theorem dX12_observeMany_50 : decode cX12_observeMany 50 = .ok (.istore 8, 2) := by decide +kernel
theorem dX12_observeMany_52 : decode cX12_observeMany 52 = .ok (.iload 8, 2) := by decide +kernel
theorem dX12_observeMany_54 : decode cX12_observeMany 54 = .ok (.iload 6, 2) := by decide +kernel
theorem dX12_observeMany_56 : decode cX12_observeMany 56 = .ok (.if_icmp .ge 33, 3) := by decide +kernel
theorem dX12_observeMany_59 : decode cX12_observeMany 59 = .ok (.iload 7, 2) := by decide +kernel
theorem dX12_observeMany_61 : decode cX12_observeMany 61 = .ok (.aload_n 0, 1) := by decide +kernel
theorem dX12_observeMany_62 : decode cX12_observeMany 62 = .ok (.iload_n 1, 1) := by decide +kernel
theorem dX12_observeMany_63 : decode cX12_observeMany 63 = .ok (.iload_n 2, 1) := by decide +kernel
theorem dX12_observeMany_64 : decode cX12_observeMany 64 = .ok (.iload_n 3, 1) := by decide +kernel
theorem dX12_observeMany_65 : decode cX12_observeMany 65 = .ok (.iload 4, 2) := by decide +kernel
theorem dX12_observeMany_67 : decode cX12_observeMany 67 = .ok (.iload 5, 2) := by decide +kernel
theorem dX12_observeMany_69 : decode cX12_observeMany 69 = .ok (.invokevirtual 251, 3) := by decide +kernel
theorem dX12_observeMany_72 : decode cX12_observeMany 72 = .ok (.ifCond .eq 7, 3) := by decide +kernel
theorem dX12_observeMany_75 : decode cX12_observeMany 75 = .ok (.iconst 1, 1) := by decide +kernel
theorem dX12_observeMany_76 : decode cX12_observeMany 76 = .ok (.goto 4, 3) := by decide +kernel
theorem dX12_observeMany_79 : decode cX12_observeMany 79 = .ok (.iconst 0, 1) := by decide +kernel
theorem dX12_observeMany_80 : decode cX12_observeMany 80 = .ok (.iadd, 1) := by decide +kernel
theorem dX12_observeMany_81 : decode cX12_observeMany 81 = .ok (.istore 7, 2) := by decide +kernel
theorem dX12_observeMany_83 : decode cX12_observeMany 83 = .ok (.iinc 8 1, 3) := by decide +kernel
theorem dX12_observeMany_86 : decode cX12_observeMany 86 = .ok (.goto (-34), 3) := by decide +kernel
theorem dX12_observeMany_89 : decode cX12_observeMany 89 = .ok (.aload_n 0, 1) := by decide +kernel
theorem dX12_observeMany_90 : decode cX12_observeMany 90 = .ok (.invokevirtual 254, 3) := by decide +kernel
theorem dX12_observeMany_93 : decode cX12_observeMany 93 = .ok (.iload 7, 2) := by decide +kernel
theorem dX12_observeMany_95 : decode cX12_observeMany 95 = .ok (.ireturn, 1) := by decide +kernel
theorem PkP_K {a b d f g : Int32} (h : PkP a b d f g) : KyP a b d f := by
  unfold PkP at h
  unfold KyP
  omega

theorem hu_X12_observe_X12 : ∀ w ∈ u_ws RX12 TX12 54, w ∈ wsX12_observe := fun _ h => List.mem_cons_of_mem _ (List.mem_append_left _ (List.mem_append_left _ (List.mem_append_right _ (h))))

theorem hv_X12_observe_1 : Cond.fieldLink RX12 1 "FlowExporterModel" (TX12 0).2.1 (TX12 0).2.2.1 ∈ wsX12_observe := List.mem_cons_of_mem _ (List.mem_append_left _ (List.mem_append_left _ (List.mem_append_left _ (List.mem_append_left _ (List.mem_of_getElem? (i := 0) rfl)))))

theorem fq_1061 : ∀ j9 : Nat, (j9 = 0) → (j9 = 0 ∨ j9 = 3 ∨ j9 = 4 ∨ j9 = 5 ∨ j9 = 6 ∨ j9 = 7 ∨ j9 = 8 ∨ j9 = 9 ∨ j9 = 10 ∨ j9 = 23 ∨ j9 = 24) := by
  intro j9 h
  omega

theorem fq_1062 : ∀ j9 : Nat, (j9 = 0 ∨ j9 = 5 ∨ j9 = 6 ∨ j9 = 7 ∨ j9 = 23 ∨ j9 = 24) → (j9 = 0 ∨ j9 = 3 ∨ j9 = 4 ∨ j9 = 5 ∨ j9 = 6 ∨ j9 = 7 ∨ j9 = 8 ∨ j9 = 9 ∨ j9 = 10 ∨ j9 = 23 ∨ j9 = 24) := by
  intro j9 h
  omega

theorem fq_1063 : ∀ j9 : Nat, (j9 = 0 ∨ j9 = 3 ∨ j9 = 4 ∨ j9 = 8 ∨ j9 = 9 ∨ j9 = 10) → (j9 = 0 ∨ j9 = 3 ∨ j9 = 4 ∨ j9 = 5 ∨ j9 = 6 ∨ j9 = 7 ∨ j9 = 8 ∨ j9 = 9 ∨ j9 = 10 ∨ j9 = 23 ∨ j9 = 24) := by
  intro j9 h
  omega

set_option maxHeartbeats 4000000 in
set_option maxRecDepth 100000 in
theorem r_observe (G : EnvG) (l : Launch) (Φ : Hm) (sz x : Nat) (rd : (Nat → Int32) → Prop) (fl : Nat) (le : Nat) (nx : Nat) (il : Nat) (qu : Nat) (kn : Int32) (ec : Int32) (nu : Int32) (va : Int64) (st : Nat) (ep : Int32) (ad : Int32) (ob : Int64) (rt : Nat) (ex : Int32) (sa : Int64) (us : Int64) (tk : Nat) (th : Int32) (me : Int32) (dr : Int32) (se : Int64) (sn : Int64) (c : Cf) (Fs : Nat → Fl) (Ft : Nat → Fl) (tm : Nat) (w : Nat) (fa : Nat → Int32) (fb : Nat → Int32) (L : Nat → Nat) (sq : Int32) (a : Int32) (b : Int32) (d : Int32) (f : Int32) (g : Int32) (hx : G.2.2.2 ≤ x) (hI : Im G x (rd, (NNq c), (CaQ fl Fs), (TpQ tk Ft), (TtQ tk Ft), (SiQ fa), (AtQ fb), (PtQ 0 (fun _ => 0)), (QlQ qu L), fl, 0, le, nx, il, qu, kn, ec, nu, va, st, ep, (nI tm), ad, ob, (nI w), rt, ex, sa, us, tk, th, me, dr, se, sn) Φ) (htm : tm ≤ 1000000) (hw : w < 2147483648) (hcw : CfW c) (hg : CfG c) (hcr : CfR c) (hse : se = sq.toInt64 &&& 4294967295) : Ct G l yX12_observe wsX12_observe ({ frames := 7, cells := 0, slots := 0, locals := 160 }) 0 0 [.ref x, .int a, .int b, .int d, .int f, .int g] Φ sz (fun v Φ1 sz1 => (∃ r9 : Int32, v = some (.int r9) ∧ (r9 = 0 ∨ r9 = 1)) ∧ sz1 = sz ∧ (∃ (fa1 : Nat → Int32) (fb1 : Nat → Int32) (L1 : Nat → Nat) (me1 : Int32) (dr1 : Int32) (se1 : Int64) (sn1 : Int64) (sq1 : Int32) (le1 : Nat) (qu1 : Nat) (fl1 : Nat) (u1 : UN) (ex1 : Int32) (sa1 : Int64) (tk1 : Nat) (ob1 : Int64) (F1 : Nat → Fl) (G1 : Nat → Fl) (w1 : Nat) (k1 : Nat) (d1 : Nat) (th1 : Int32) (pt1 : (Nat → Int32) → Prop), ((PkP a b d f g ∧ v = some (.int (nI k1)) ∧ tkI c (kyN a b d f) g.toInt64 tm rt ((fl, Fs, us, 0, fun _ => 0), w, 0, 0) 1 = ((fl1, F1, u1), w1, k1, d1) ∧ rmS (kyN a b d f) g.toInt64 1 tm (tk, Ft) = (tk1, G1) ∧ ex1 = ex + nI d1 ∧ sa1 = sa + (nI k1).toInt64 ∧ ob1 = ob + (nI 1).toInt64 ∧ th1 = 0) ∨ (¬ PkP a b d f g ∧ v = some (.int 0) ∧ fl1 = fl ∧ F1 = Fs ∧ u1 = (us, 0, fun _ => 0) ∧ ex1 = ex ∧ sa1 = sa ∧ tk1 = tk ∧ G1 = Ft ∧ w1 = w ∧ ob1 = ob ∧ th1 = 1)) ∧ (spS c (nI tm) u1.2.2 u1.2.1 (fa, fb, me, sn, sq) (qu, L, dr) = ((fa1, fb1, me1, sn1, sq1), (qu1, L1, dr1))) ∧ (se1 = sq1.toInt64 &&& 4294967295) ∧ Im G x (rd, (NNq c), (CaQ fl1 F1), (TpQ tk1 G1), (TtQ tk1 G1), (SiQ fa1), (AtQ fb1), pt1, (QlQ qu1 L1), fl1, 0, le1, nx, il, qu1, kn, ec, nu, va, st, ep, (nI tm), ad, ob1, nI w1, rt, ex1, sa1, u1.1, tk1, th1, me1, dr1, se1, sn1) Φ1) ∧ Fr x (fun j9 => j9 = 0 ∨ j9 = 3 ∨ j9 = 4 ∨ j9 = 5 ∨ j9 = 6 ∨ j9 = 7 ∨ j9 = 8 ∨ j9 = 9 ∨ j9 = 10 ∨ j9 = 23 ∨ j9 = 24) Φ Φ1) := by
  refine Ct.of (cc := cX12_observe) (maxL := 7) (ret := (some .boolean)) (by decide) rfl (Nat.le_of_ble_eq_true rfl) ?_
  intro p9 e9 s9 m9 w9 t9 k9 B
  show Z p9 l e9 _ s9 m9 _ w9 t9 k9 _ G 7 0 [(0, .ref x), (1, .int a), (2, .int b), (3, .int d), (4, .int f), (5, .int g)] [] Φ sz 0 0
  refine z_aload_n B dX12_observe_0 rfl 0 rfl ?_
  refine z_iconst (v := 0) B dX12_observe_1 rfl ?_
  obtain ⟨n_1, v_1, n_2, h_1, b_13, b_1, b_2, b_3, b_4, b_5, b_6, b_7, b_8, b_9, b_10, b_11, b_12⟩ := im0 hI
  replace b_1 : 1 ≤ rt := b_1
  replace b_2 : rt ≤ 1024 := b_2
  replace b_3 : fl ≤ 12 := b_3
  replace b_4 : 0 ≤ 24 := b_4
  replace b_5 : le ≤ 700 := b_5
  replace b_6 : qu ≤ 12 := b_6
  replace b_7 : n_1 ≤ 8 := b_7
  replace b_8 : n_2 ≤ 24 := b_8
  replace b_9 : tk ≤ 24 := b_9
  replace b_10 : il ≤ 700 := b_10
  replace b_11 : nx ≤ 701 := b_11
  replace b_12 : st ≤ 701 := b_12
  have h_2 : Φ x = some (o_ 14 [.int th, .ref (x + 1), .ref (x + 2), .int (nI tm), .int (nI w), .int (nI rt), .int ex, .int ad, .ref (x + 3), .ref (x + 4), .int me, .long se, .ref (x + 5), .int (nI fl), .int dr, .long ob, .long sa, .long sn, .long us, .ref (x + 6), .ref (x + 7), .int (nI 0), .ref (x + 8), .int (nI le), .ref (x + 9), .ref (x + 10), .int (nI qu), .ref (x + 11), .ref (x + 12), .ref (x + 13), .ref (x + 14), .ref (x + 15), .ref (x + 16), .int (nI n_1), .long v_1, .ref (x + 17), .ref (x + 18), .ref (x + 19), .ref (x + 20), .ref (x + 21), .ref (x + 22), .int (nI n_2), .ref (x + 23), .ref (x + 24), .int (nI tk), .ref (x + 25), .int (nI il), .int (nI nx), .int ec, .int ep, .int kn, .int (nI st), .int nu, .long va]) := h_1
  refine z_put (ref := "FlowExporterModel") (C := RX12) (T := TX12) (N := 54) (ci := 14) (v := .int 0) B hu_X12_observe_X12 tyX12 tyX12_ok nmX12 rfl 0 (Nat.le_of_ble_eq_true rfl) hv_X12_observe_1 rfl (Or.inl rfl) h_2 hx rfl rfl (Nat.le_of_ble_eq_true rfl) dX12_observe_2 (fun Φ1 hΦ1 => ?_)
  have h_3 : Φ1 x = some (o_ 14 [.int 0, .ref (x + 1), .ref (x + 2), .int (nI tm), .int (nI w), .int (nI rt), .int ex, .int ad, .ref (x + 3), .ref (x + 4), .int me, .long se, .ref (x + 5), .int (nI fl), .int dr, .long ob, .long sa, .long sn, .long us, .ref (x + 6), .ref (x + 7), .int (nI 0), .ref (x + 8), .int (nI le), .ref (x + 9), .ref (x + 10), .int (nI qu), .ref (x + 11), .ref (x + 12), .ref (x + 13), .ref (x + 14), .ref (x + 15), .ref (x + 16), .int (nI n_1), .long v_1, .ref (x + 17), .ref (x + 18), .ref (x + 19), .ref (x + 20), .ref (x + 21), .ref (x + 22), .int (nI n_2), .ref (x + 23), .ref (x + 24), .int (nI tk), .ref (x + 25), .int (nI il), .int (nI nx), .int ec, .int ep, .int kn, .int (nI st), .int nu, .long va]) := fset_at hΦ1
  have hI1 : Im G x (rd, (NNq c), (CaQ fl Fs), (TpQ tk Ft), (TtQ tk Ft), (SiQ fa), (AtQ fb), (PtQ 0 (fun _ => 0)), (QlQ qu L), fl, 0, le, nx, il, qu, kn, ec, nu, va, st, ep, nI tm, ad, ob, nI w, rt, ex, sa, us, tk, 0, me, dr, se, sn) Φ1 := Im.put0 hI hΦ1 ⟨n_1, v_1, n_2, rfl, b_13, b_1, b_2, b_3, b_4, b_5, b_6, b_7, b_8, b_9, b_10, b_11, b_12⟩
  refine z_aload_n B dX12_observe_5 rfl 0 rfl ?_
  refine z_iload_n B dX12_observe_6 rfl 1 rfl ?_
  refine z_iload_n B dX12_observe_7 rfl 2 rfl ?_
  refine z_iload_n B dX12_observe_8 rfl 3 rfl ?_
  refine z_iload B dX12_observe_9 4 rfl ?_
  refine z_iload B dX12_observe_11 5 rfl ?_
  refine z_callS (As := [.int a, .int b, .int d, .int f, .int g]) (rest := [.ref x]) B (r_isPacket G l Φ1 sz x rd (NNq c) (CaQ fl Fs) (TpQ tk Ft) (TtQ tk Ft) (SiQ fa) (AtQ fb) (PtQ 0 (fun _ => 0)) (QlQ qu L) fl 0 le nx il qu kn ec nu va st ep (nI tm) ad ob (nI w) rt ex sa us tk 0 me dr se sn a b d f g hx hI1 (fun f9 h9 => h9.1)) (va_cwS 5 B.1.2.2.2.2 gX12_observe_X12_isPacket rfl rfl rfl (by decide +kernel) ⟨Nat.le_of_ble_eq_true rfl, Nat.le_of_ble_eq_true rfl⟩) rfl rfl (Nat.le_of_ble_eq_true rfl) dX12_observe_13 ⟨Nat.le_of_ble_eq_true rfl, Nat.le_of_ble_eq_true rfl⟩ (fun r_1 Φ2 sz1 st1 hp1 hs1 => ?_)
  obtain ⟨ha1, hq1, hI2, hF1⟩ := hp1
  subst sz1
  replace hI2 : Im G x (rd, (NNq c), (CaQ fl Fs), (TpQ tk Ft), (TtQ tk Ft), (SiQ fa), (AtQ fb), (PtQ 0 (fun _ => 0)), (QlQ qu L), fl, 0, le, nx, il, qu, kn, ec, nu, va, st, ep, nI tm, ad, ob, nI w, rt, ex, sa, us, tk, 0, me, dr, se, sn) Φ2 := hI2
  rcases ha1 with ⟨rfl, hP1⟩ | ⟨rfl, hP1, n_3, b_14, rfl⟩
  · replace hs1 : st1 = [.int 0, .ref x] := hs1
    subst st1
    replace hP1 : ¬ PkP a b d f g := hP1
    refine z_if_ne (tgt := 23) B dX12_observe_16 rfl (fun h9 => absurd (by decide) h9) (fun c_1 => ?_)
    refine z_iconst (v := 1) B dX12_observe_19 rfl ?_
    refine z_goto (tgt := 24) B dX12_observe_20 rfl ?_
    refine z_iconst (v := 1) B dX12_observe_24 rfl ?_
    have h_4 : Φ2 x = some (o_ 14 [.int 0, .ref (x + 1), .ref (x + 2), .int (nI tm), .int (nI w), .int (nI rt), .int ex, .int ad, .ref (x + 3), .ref (x + 4), .int me, .long se, .ref (x + 5), .int (nI fl), .int dr, .long ob, .long sa, .long sn, .long us, .ref (x + 6), .ref (x + 7), .int (nI 0), .ref (x + 8), .int (nI le), .ref (x + 9), .ref (x + 10), .int (nI qu), .ref (x + 11), .ref (x + 12), .ref (x + 13), .ref (x + 14), .ref (x + 15), .ref (x + 16), .int (nI n_1), .long v_1, .ref (x + 17), .ref (x + 18), .ref (x + 19), .ref (x + 20), .ref (x + 21), .ref (x + 22), .int (nI n_2), .ref (x + 23), .ref (x + 24), .int (nI tk), .ref (x + 25), .int (nI il), .int (nI nx), .int ec, .int ep, .int kn, .int (nI st), .int nu, .long va]) := ((hF1 x (fun j9 h8 h7 => (show False from h7).elim)).trans h_3)
    refine z_callV (As := [.int 1, .int 1]) (rest := []) B (r_throwsIf1 G l Φ2 sz x rd (NNq c) (CaQ fl Fs) (TpQ tk Ft) (TtQ tk Ft) (SiQ fa) (AtQ fb) (PtQ 0 (fun _ => 0)) (QlQ qu L) fl 0 le nx il qu kn ec nu va st ep (nI tm) ad ob (nI w) rt ex sa us tk 0 me dr se sn  hx hI2 (fun f9 h9 => h9.1)) (cwV 2 B.1.2.2.2.2 gX12_observe_X12_throwsIf rfl rfl rfl (by decide +kernel) ⟨Nat.le_of_ble_eq_true rfl, Nat.le_of_ble_eq_true rfl⟩) h_4 rfl rfl rfl rfl (Nat.le_of_ble_eq_true rfl) dX12_observe_25 ⟨Nat.le_of_ble_eq_true rfl, Nat.le_of_ble_eq_true rfl⟩ (fun r_2 Φ3 sz2 st2 hp2 hs2 => ?_)
    obtain ⟨⟨rfl, l_1, h_5⟩, hq2, hI3, hF2⟩ := hp2
    subst sz2
    replace hs2 : st2 = [.int 1] := hs2
    subst st2
    replace hI3 : Im G x (rd, (NNq c), (CaQ fl Fs), (TpQ tk Ft), (TtQ tk Ft), (SiQ fa), (AtQ fb), (PtQ 0 (fun _ => 0)), (QlQ qu L), fl, 0, le, nx, il, qu, kn, ec, nu, va, st, ep, nI tm, ad, ob, nI w, rt, ex, sa, us, tk, 1, me, dr, se, sn) Φ3 := hI3
    refine z_if_eq (tgt := 33) B dX12_observe_28 rfl (fun h9 => absurd h9 (by decide)) (fun c_2 => ?_)
    refine z_iconst (v := 0) B dX12_observe_31 rfl ?_
    exact z_ret_z B dX12_observe_32 (by decide) ⟨⟨_, rfl, by decide⟩, rfl, ⟨fa, fb, L, me, dr, se, sn, sq, le, qu, fl, (us, 0, fun _ => 0), ex, sa, tk, ob, Fs, Ft, w, 0, 0, 1, (PtQ 0 (fun _ => 0)), (Or.inr ⟨hP1, rfl, rfl, rfl, rfl, rfl, rfl, rfl, rfl, rfl, rfl, rfl⟩), (spS_0 rfl), hse, hI3⟩, (fun b9 h9 => ((hF2 b9 (fun j9 h8 h7 => h9 j9 h8 (fq_1061 j9 h7))).trans ((hF1 b9 (fun j9 h8 h7 => (show False from h7).elim)).trans ((fset_fr hΦ1 (fun h8 => h9 (0) h8 (show 0 = 0 ∨ 0 = 3 ∨ 0 = 4 ∨ 0 = 5 ∨ 0 = 6 ∨ 0 = 7 ∨ 0 = 8 ∨ 0 = 9 ∨ 0 = 10 ∨ 0 = 23 ∨ 0 = 24 by decide))).trans rfl))))⟩
  · replace hs1 : st1 = [.int 1, .ref x] := hs1
    subst st1
    replace b_14 : n_3 ≤ 255 := b_14
    replace hP1 : PkP a b d (nI n_3) g := hP1
    refine z_if_ne (tgt := 23) B dX12_observe_16 rfl (fun c_3 => ?_) (fun h9 => absurd h9 (by decide))
    refine z_iconst (v := 0) B dX12_observe_23 rfl ?_
    refine z_iconst (v := 1) B dX12_observe_24 rfl ?_
    have h_6 : Φ2 x = some (o_ 14 [.int 0, .ref (x + 1), .ref (x + 2), .int (nI tm), .int (nI w), .int (nI rt), .int ex, .int ad, .ref (x + 3), .ref (x + 4), .int me, .long se, .ref (x + 5), .int (nI fl), .int dr, .long ob, .long sa, .long sn, .long us, .ref (x + 6), .ref (x + 7), .int (nI 0), .ref (x + 8), .int (nI le), .ref (x + 9), .ref (x + 10), .int (nI qu), .ref (x + 11), .ref (x + 12), .ref (x + 13), .ref (x + 14), .ref (x + 15), .ref (x + 16), .int (nI n_1), .long v_1, .ref (x + 17), .ref (x + 18), .ref (x + 19), .ref (x + 20), .ref (x + 21), .ref (x + 22), .int (nI n_2), .ref (x + 23), .ref (x + 24), .int (nI tk), .ref (x + 25), .int (nI il), .int (nI nx), .int ec, .int ep, .int kn, .int (nI st), .int nu, .long va]) := ((hF1 x (fun j9 h8 h7 => (show False from h7).elim)).trans h_3)
    refine z_callV (As := [.int 0, .int 1]) (rest := []) B (r_throwsIf0 G l Φ2 sz x rd (NNq c) (CaQ fl Fs) (TpQ tk Ft) (TtQ tk Ft) (SiQ fa) (AtQ fb) (PtQ 0 (fun _ => 0)) (QlQ qu L) fl 0 le nx il qu kn ec nu va st ep (nI tm) ad ob (nI w) rt ex sa us tk 0 me dr se sn  hx hI2 (fun f9 h9 => h9.1)) (cwV 2 B.1.2.2.2.2 gX12_observe_X12_throwsIf rfl rfl rfl (by decide +kernel) ⟨Nat.le_of_ble_eq_true rfl, Nat.le_of_ble_eq_true rfl⟩) h_6 rfl rfl rfl rfl (Nat.le_of_ble_eq_true rfl) dX12_observe_25 ⟨Nat.le_of_ble_eq_true rfl, Nat.le_of_ble_eq_true rfl⟩ (fun r_3 Φ4 sz3 st3 hp3 hs3 => ?_)
    obtain ⟨rfl, hq3, hI4, hF3⟩ := hp3
    subst sz3
    replace hs3 : st3 = [.int 0] := hs3
    subst st3
    replace hI4 : Im G x (rd, (NNq c), (CaQ fl Fs), (TpQ tk Ft), (TtQ tk Ft), (SiQ fa), (AtQ fb), (PtQ 0 (fun _ => 0)), (QlQ qu L), fl, 0, le, nx, il, qu, kn, ec, nu, va, st, ep, nI tm, ad, ob, nI w, rt, ex, sa, us, tk, 0, me, dr, se, sn) Φ4 := hI4
    refine z_if_eq (tgt := 33) B dX12_observe_28 rfl (fun c_4 => ?_) (fun h9 => absurd (by decide) h9)
    refine z_aload_n B dX12_observe_33 rfl 0 rfl ?_
    refine z_iload_n B dX12_observe_34 rfl 1 rfl ?_
    refine z_iload_n B dX12_observe_35 rfl 2 rfl ?_
    refine z_iload_n B dX12_observe_36 rfl 3 rfl ?_
    refine z_iload B dX12_observe_37 4 rfl ?_
    refine z_iload B dX12_observe_39 5 rfl ?_
    have h_7 : Φ4 x = some (o_ 14 [.int 0, .ref (x + 1), .ref (x + 2), .int (nI tm), .int (nI w), .int (nI rt), .int ex, .int ad, .ref (x + 3), .ref (x + 4), .int me, .long se, .ref (x + 5), .int (nI fl), .int dr, .long ob, .long sa, .long sn, .long us, .ref (x + 6), .ref (x + 7), .int (nI 0), .ref (x + 8), .int (nI le), .ref (x + 9), .ref (x + 10), .int (nI qu), .ref (x + 11), .ref (x + 12), .ref (x + 13), .ref (x + 14), .ref (x + 15), .ref (x + 16), .int (nI n_1), .long v_1, .ref (x + 17), .ref (x + 18), .ref (x + 19), .ref (x + 20), .ref (x + 21), .ref (x + 22), .int (nI n_2), .ref (x + 23), .ref (x + 24), .int (nI tk), .ref (x + 25), .int (nI il), .int (nI nx), .int ec, .int ep, .int kn, .int (nI st), .int nu, .long va]) := ((hF3 x (fun j9 h8 h7 => (show False from h7).elim)).trans h_6)
    refine z_callV (As := [.int a, .int b, .int d, .int (nI n_3), .int g]) (rest := []) B (r_see G l Φ4 sz x rd (SiQ fa) (AtQ fb) (QlQ qu L) fl 0 le nx il qu kn ec nu va st ep ad ob rt ex sa us tk 0 me dr se sn (fun _ => 0) c Fs Ft tm w a b d n_3 g hx hI4 (PkP_K hP1) hg (Or.inl rfl) (show tm ≤ 1000000 by omega) (show w < 2147483648 by omega)) (cwV 5 B.1.2.2.2.2 gX12_observe_X12_see rfl rfl rfl (by decide +kernel) ⟨Nat.le_of_ble_eq_true rfl, Nat.le_of_ble_eq_true rfl⟩) h_7 rfl rfl rfl rfl (Nat.le_of_ble_eq_true rfl) dX12_observe_41 ⟨Nat.le_of_ble_eq_true rfl, Nat.le_of_ble_eq_true rfl⟩ (fun r_4 Φ5 sz4 st4 hp4 hs4 => ?_)
    obtain ⟨-, hq4, ⟨n_4, n_5, v_2, v_3, n_6, n_7, n_8, b_15, b_16, b_17, b_18, hI5⟩, hF4⟩ := hp4
    subst sz4
    replace hI5 : Im G x (rd, (NNq c), CaQ n_4 n_7, TpQ n_6 n_8, TtQ n_6 n_8, (SiQ fa), (AtQ fb), PtQ n_5.2.1 n_5.2.2, (QlQ qu L), n_4, n_5.2.1, le, nx, il, qu, kn, ec, nu, va, st, ep, nI tm, ad, ob + 1, nI (smW rt w), rt, v_2, v_3, n_5.1, n_6, 0, me, dr, se, sn) Φ5 := hI5
    replace b_15 : (smB rt w ∧ r_4 = some (.int 1) ∧ adS c (kyN a b d (nI n_3)) g.toInt64 tm (fl, Fs, us, 0, ((fun _ => 0))) = (n_4, n_7, n_5) ∧ v_2 = ex + nI (adD (kyN a b d (nI n_3)) (fl, Fs, us, 0, ((fun _ => 0)))) ∧ v_3 = sa + 1) ∨ (¬ smB rt w ∧ r_4 = some (.int 0) ∧ n_4 = fl ∧ n_7 = Fs ∧ n_5 = (us, 0, ((fun _ => 0))) ∧ v_2 = ex ∧ v_3 = sa) := b_15
    replace b_16 : rmS (kyN a b d (nI n_3)) g.toInt64 1 tm (tk, Ft) = (n_6, n_8) := b_16
    replace b_17 : n_5.2.1 = 0 ∨ (n_5.2.1 ≤ 1 ∧ ixN n_7 (kyN a b d (nI n_3)) n_4 < n_4) := b_17
    replace b_18 : n_4 ≤ 12 := b_18
    rcases b_15 with ⟨hB1, rfl, hA1, hE1, hS1⟩ | ⟨hB1, rfl, h_8, h_9, h_10, h_11, h_12⟩
    · replace hs4 : st4 = [.int 1] := hs4
      subst st4
      refine z_istore (lv' := [(6, .int 1), (0, .ref x), (1, .int a), (2, .int b), (3, .int d), (4, .int (nI n_3)), (5, .int g)]) B dX12_observe_44 (Nat.le_of_ble_eq_true rfl) rfl ?_
      refine z_aload_n B dX12_observe_46 rfl 1 rfl ?_
      obtain ⟨n_9, v_4, n_10, h_13, b_31, b_19, b_20, b_21, b_22, b_23, b_24, b_25, b_26, b_27, b_28, b_29, b_30⟩ := im0 hI5
      replace b_19 : 1 ≤ rt := b_19
      replace b_20 : rt ≤ 1024 := b_20
      replace b_21 : n_4 ≤ 12 := b_21
      replace b_22 : n_5.2.1 ≤ 24 := b_22
      replace b_23 : le ≤ 700 := b_23
      replace b_24 : qu ≤ 12 := b_24
      replace b_25 : n_9 ≤ 8 := b_25
      replace b_26 : n_10 ≤ 24 := b_26
      replace b_27 : n_6 ≤ 24 := b_27
      replace b_28 : il ≤ 700 := b_28
      replace b_29 : nx ≤ 701 := b_29
      replace b_30 : st ≤ 701 := b_30
      have h_14 : Φ5 x = some (o_ 14 [.int 0, .ref (x + 1), .ref (x + 2), .int (nI tm), .int (nI (smW rt w)), .int (nI rt), .int v_2, .int ad, .ref (x + 3), .ref (x + 4), .int me, .long se, .ref (x + 5), .int (nI n_4), .int dr, .long (ob + 1), .long v_3, .long sn, .long n_5.1, .ref (x + 6), .ref (x + 7), .int (nI n_5.2.1), .ref (x + 8), .int (nI le), .ref (x + 9), .ref (x + 10), .int (nI qu), .ref (x + 11), .ref (x + 12), .ref (x + 13), .ref (x + 14), .ref (x + 15), .ref (x + 16), .int (nI n_9), .long v_4, .ref (x + 17), .ref (x + 18), .ref (x + 19), .ref (x + 20), .ref (x + 21), .ref (x + 22), .int (nI n_10), .ref (x + 23), .ref (x + 24), .int (nI n_6), .ref (x + 25), .int (nI il), .int (nI nx), .int ec, .int ep, .int kn, .int (nI st), .int nu, .long va]) := h_13
      refine z_callV (As := []) (rest := []) B (r_sendPending G l Φ5 sz x rd (CaQ n_4 n_7) (TpQ n_6 n_8) (TtQ n_6 n_8) n_4 n_5.2.1 le nx il qu kn ec nu va st ep (nI tm) ad (ob + 1) (nI (smW rt w)) rt v_2 v_3 n_5.1 n_6 0 me dr se sn c fa fb n_5.2.2 L sq hx hI5 hcw hg hcr hse) (cwV 0 B.1.2.2.2.2 gX12_observe_X12_sendPending rfl rfl rfl (by decide +kernel) ⟨Nat.le_of_ble_eq_true rfl, Nat.le_of_ble_eq_true rfl⟩) h_14 rfl rfl rfl rfl (Nat.le_of_ble_eq_true rfl) dX12_observe_47 ⟨Nat.le_of_ble_eq_true rfl, Nat.le_of_ble_eq_true rfl⟩ (fun r_5 Φ6 sz5 st5 hp5 hs5 => ?_)
      obtain ⟨rfl, hq5, ⟨n_11, n_12, v_5, v_6, n_13, v_7, v_8, v_9, v_10, v_11, b_32, b_33, hI6⟩, hF5⟩ := hp5
      subst sz5
      replace hs5 : st5 = [] := hs5
      subst st5
      replace hI6 : Im G x (rd, (NNq c), CaQ n_4 n_7, TpQ n_6 n_8, TtQ n_6 n_8, SiQ v_5, AtQ v_6, PtQ 0 P, QlQ n_12 n_13, n_4, 0, n_11, nx, il, n_12, kn, ec, nu, va, st, ep, nI tm, ad, ob + 1, nI (smW rt w), rt, v_2, v_3, n_5.1, n_6, 0, v_7, v_8, v_9, v_10) Φ6 := hI6
      replace b_32 : spS c (nI tm) (n_5.2.2) (n_5.2.1) (fa, fb, me, sn, sq) (qu, L, dr) = ((v_5, v_6, v_7, v_10, v_11), (n_12, n_13, v_8)) := b_32
      replace b_33 : v_9 = v_11.toInt64 &&& 4294967295 := b_33
      have hI7 : Im G x (rd, (NNq c), CaQ n_4 n_7, TpQ n_6 n_8, TtQ n_6 n_8, SiQ v_5, AtQ v_6, (PtQ 0 (fun _ => 0)), QlQ n_12 n_13, n_4, 0, n_11, nx, il, n_12, kn, ec, nu, va, st, ep, nI tm, ad, ob + 1, nI (smW rt w), rt, v_2, v_3, n_5.1, n_6, 0, v_7, v_8, v_9, v_10) Φ6 := Im.weak5 hI6 (fun _ q9 => q9) (fun _ q9 => q9) (fun _ q9 => q9) (fun _ q9 => q9) (fun _ q9 => q9) (fun _ q9 => q9) (fun _ q9 => q9) (fun _ _ => PtQ.z) (fun _ q9 => q9)
      refine z_iload B dX12_observe_50 0 rfl ?_
      have hT0 : tkI c (kyN a b d (nI n_3)) g.toInt64 tm rt ((fl, Fs, us, 0, fun _ => 0), w, 0, 0) 0 = ((fl, Fs, us, 0, fun _ => 0), w, 0, 0) := rfl
      exact z_ret_z B dX12_observe_52 (by decide) ⟨⟨_, rfl, by decide⟩, rfl, ⟨v_5, v_6, n_13, v_7, v_8, v_9, v_10, v_11, n_11, n_12, n_4, n_5, v_2, v_3, n_6, ob + 1, n_7, n_8, smW rt w, 0 + 1, 0 + adD (kyN a b d (nI n_3)) (fl, Fs, us, 0, fun _ => 0), 0, (PtQ 0 (fun _ => 0)), (Or.inl ⟨hP1, rfl, (tkI_y hT0 hB1).trans (by rw [hA1]), b_16, hE1.trans (congrArg (fun w8 : Nat => ex + nI w8) (Nat.zero_add _).symm), hS1.trans (congrArg (fun w9 : Int64 => sa + w9) (by decide)), congrArg (fun w9 : Int64 => ob + w9) (by decide), rfl⟩), b_32, b_33, hI7⟩, (fun b9 h9 => ((hF5 b9 (fun j9 h8 h7 => h9 j9 h8 (fq_1063 j9 h7))).trans ((hF4 b9 (fun j9 h8 h7 => h9 j9 h8 (fq_1062 j9 h7))).trans ((hF3 b9 (fun j9 h8 h7 => (show False from h7).elim)).trans ((hF1 b9 (fun j9 h8 h7 => (show False from h7).elim)).trans ((fset_fr hΦ1 (fun h8 => h9 (0) h8 (show 0 = 0 ∨ 0 = 3 ∨ 0 = 4 ∨ 0 = 5 ∨ 0 = 6 ∨ 0 = 7 ∨ 0 = 8 ∨ 0 = 9 ∨ 0 = 10 ∨ 0 = 23 ∨ 0 = 24 by decide))).trans rfl))))))⟩
    · replace hs4 : st4 = [.int 0] := hs4
      subst st4
      refine z_istore (lv' := [(6, .int 0), (0, .ref x), (1, .int a), (2, .int b), (3, .int d), (4, .int (nI n_3)), (5, .int g)]) B dX12_observe_44 (Nat.le_of_ble_eq_true rfl) rfl ?_
      refine z_aload_n B dX12_observe_46 rfl 1 rfl ?_
      obtain ⟨n_14, v_12, n_15, h_15, b_46, b_34, b_35, b_36, b_37, b_38, b_39, b_40, b_41, b_42, b_43, b_44, b_45⟩ := im0 hI5
      replace b_34 : 1 ≤ rt := b_34
      replace b_35 : rt ≤ 1024 := b_35
      replace b_36 : n_4 ≤ 12 := b_36
      replace b_37 : n_5.2.1 ≤ 24 := b_37
      replace b_38 : le ≤ 700 := b_38
      replace b_39 : qu ≤ 12 := b_39
      replace b_40 : n_14 ≤ 8 := b_40
      replace b_41 : n_15 ≤ 24 := b_41
      replace b_42 : n_6 ≤ 24 := b_42
      replace b_43 : il ≤ 700 := b_43
      replace b_44 : nx ≤ 701 := b_44
      replace b_45 : st ≤ 701 := b_45
      have h_16 : Φ5 x = some (o_ 14 [.int 0, .ref (x + 1), .ref (x + 2), .int (nI tm), .int (nI (smW rt w)), .int (nI rt), .int v_2, .int ad, .ref (x + 3), .ref (x + 4), .int me, .long se, .ref (x + 5), .int (nI n_4), .int dr, .long (ob + 1), .long v_3, .long sn, .long n_5.1, .ref (x + 6), .ref (x + 7), .int (nI n_5.2.1), .ref (x + 8), .int (nI le), .ref (x + 9), .ref (x + 10), .int (nI qu), .ref (x + 11), .ref (x + 12), .ref (x + 13), .ref (x + 14), .ref (x + 15), .ref (x + 16), .int (nI n_14), .long v_12, .ref (x + 17), .ref (x + 18), .ref (x + 19), .ref (x + 20), .ref (x + 21), .ref (x + 22), .int (nI n_15), .ref (x + 23), .ref (x + 24), .int (nI n_6), .ref (x + 25), .int (nI il), .int (nI nx), .int ec, .int ep, .int kn, .int (nI st), .int nu, .long va]) := h_15
      refine z_callV (As := []) (rest := []) B (r_sendPending G l Φ5 sz x rd (CaQ n_4 n_7) (TpQ n_6 n_8) (TtQ n_6 n_8) n_4 n_5.2.1 le nx il qu kn ec nu va st ep (nI tm) ad (ob + 1) (nI (smW rt w)) rt v_2 v_3 n_5.1 n_6 0 me dr se sn c fa fb n_5.2.2 L sq hx hI5 hcw hg hcr hse) (cwV 0 B.1.2.2.2.2 gX12_observe_X12_sendPending rfl rfl rfl (by decide +kernel) ⟨Nat.le_of_ble_eq_true rfl, Nat.le_of_ble_eq_true rfl⟩) h_16 rfl rfl rfl rfl (Nat.le_of_ble_eq_true rfl) dX12_observe_47 ⟨Nat.le_of_ble_eq_true rfl, Nat.le_of_ble_eq_true rfl⟩ (fun r_6 Φ7 sz6 st6 hp6 hs6 => ?_)
      obtain ⟨rfl, hq6, ⟨n_16, n_17, v_13, v_14, n_18, v_15, v_16, v_17, v_18, v_19, b_47, b_48, hI8⟩, hF6⟩ := hp6
      subst sz6
      replace hs6 : st6 = [] := hs6
      subst st6
      replace hI8 : Im G x (rd, (NNq c), CaQ n_4 n_7, TpQ n_6 n_8, TtQ n_6 n_8, SiQ v_13, AtQ v_14, PtQ 0 P, QlQ n_17 n_18, n_4, 0, n_16, nx, il, n_17, kn, ec, nu, va, st, ep, nI tm, ad, ob + 1, nI (smW rt w), rt, v_2, v_3, n_5.1, n_6, 0, v_15, v_16, v_17, v_18) Φ7 := hI8
      replace b_47 : spS c (nI tm) (n_5.2.2) (n_5.2.1) (fa, fb, me, sn, sq) (qu, L, dr) = ((v_13, v_14, v_15, v_18, v_19), (n_17, n_18, v_16)) := b_47
      replace b_48 : v_17 = v_19.toInt64 &&& 4294967295 := b_48
      have hI9 : Im G x (rd, (NNq c), CaQ n_4 n_7, TpQ n_6 n_8, TtQ n_6 n_8, SiQ v_13, AtQ v_14, (PtQ 0 (fun _ => 0)), QlQ n_17 n_18, n_4, 0, n_16, nx, il, n_17, kn, ec, nu, va, st, ep, nI tm, ad, ob + 1, nI (smW rt w), rt, v_2, v_3, n_5.1, n_6, 0, v_15, v_16, v_17, v_18) Φ7 := Im.weak5 hI8 (fun _ q9 => q9) (fun _ q9 => q9) (fun _ q9 => q9) (fun _ q9 => q9) (fun _ q9 => q9) (fun _ q9 => q9) (fun _ q9 => q9) (fun _ _ => PtQ.z) (fun _ q9 => q9)
      refine z_iload B dX12_observe_50 0 rfl ?_
      have hT0 : tkI c (kyN a b d (nI n_3)) g.toInt64 tm rt ((fl, Fs, us, 0, fun _ => 0), w, 0, 0) 0 = ((fl, Fs, us, 0, fun _ => 0), w, 0, 0) := rfl
      exact z_ret_z B dX12_observe_52 (by decide) ⟨⟨_, rfl, by decide⟩, rfl, ⟨v_13, v_14, n_18, v_15, v_16, v_17, v_18, v_19, n_16, n_17, n_4, n_5, v_2, v_3, n_6, ob + 1, n_7, n_8, smW rt w, 0, 0, 0, (PtQ 0 (fun _ => 0)), (Or.inl ⟨hP1, rfl, (tkI_n hT0 hB1).trans (by rw [h_8, h_9, h_10]), b_16, h_11.trans nadd_0, h_12.trans ladd_0, congrArg (fun w9 : Int64 => ob + w9) (by decide), rfl⟩), b_47, b_48, hI9⟩, (fun b9 h9 => ((hF6 b9 (fun j9 h8 h7 => h9 j9 h8 (fq_1063 j9 h7))).trans ((hF4 b9 (fun j9 h8 h7 => h9 j9 h8 (fq_1062 j9 h7))).trans ((hF3 b9 (fun j9 h8 h7 => (show False from h7).elim)).trans ((hF1 b9 (fun j9 h8 h7 => (show False from h7).elim)).trans ((fset_fr hΦ1 (fun h8 => h9 (0) h8 (show 0 = 0 ∨ 0 = 3 ∨ 0 = 4 ∨ 0 = 5 ∨ 0 = 6 ∨ 0 = 7 ∨ 0 = 8 ∨ 0 = 9 ∨ 0 = 10 ∨ 0 = 23 ∨ 0 = 24 by decide))).trans rfl))))))⟩

theorem hu_X12_observeMany_X12 : ∀ w ∈ u_ws RX12 TX12 54, w ∈ wsX12_observeMany := fun _ h => List.mem_cons_of_mem _ (List.mem_append_left _ (List.mem_append_left _ (List.mem_append_right _ (h))))

theorem hv_X12_observeMany_1 : Cond.fieldLink RX12 1 "FlowExporterModel" (TX12 0).2.1 (TX12 0).2.2.1 ∈ wsX12_observeMany := List.mem_cons_of_mem _ (List.mem_append_left _ (List.mem_append_left _ (List.mem_append_left _ (List.mem_append_left _ (List.mem_of_getElem? (i := 0) rfl)))))

set_option maxHeartbeats 4000000 in
set_option maxRecDepth 100000 in
theorem r_observeMany (G : EnvG) (l : Launch) (Φ : Hm) (sz x : Nat) (rd : (Nat → Int32) → Prop) (fl : Nat) (le : Nat) (nx : Nat) (il : Nat) (qu : Nat) (kn : Int32) (ec : Int32) (nu : Int32) (va : Int64) (st : Nat) (ep : Int32) (ad : Int32) (ob : Int64) (rt : Nat) (ex : Int32) (sa : Int64) (us : Int64) (tk : Nat) (th : Int32) (me : Int32) (dr : Int32) (se : Int64) (sn : Int64) (c : Cf) (Fs : Nat → Fl) (Ft : Nat → Fl) (tm : Nat) (w : Nat) (fa : Nat → Int32) (fb : Nat → Int32) (L : Nat → Nat) (sq : Int32) (a : Int32) (b : Int32) (d : Int32) (f : Int32) (g : Int32) (h : Int32) (hx : G.2.2.2 ≤ x) (hI : Im G x (rd, (NNq c), (CaQ fl Fs), (TpQ tk Ft), (TtQ tk Ft), (SiQ fa), (AtQ fb), (PtQ 0 (fun _ => 0)), (QlQ qu L), fl, 0, le, nx, il, qu, kn, ec, nu, va, st, ep, (nI tm), ad, ob, (nI w), rt, ex, sa, us, tk, th, me, dr, se, sn) Φ) (htm : tm ≤ 1000000) (hw : w < 2147483648) (hcw : CfW c) (hg : CfG c) (hcr : CfR c) (hse : se = sq.toInt64 &&& 4294967295) : Ct G l yX12_observeMany wsX12_observeMany ({ frames := 7, cells := 0, slots := 0, locals := 160 }) 0 0 [.ref x, .int a, .int b, .int d, .int f, .int g, .int h] Φ sz (fun v Φ1 sz1 => (∃ r9 : Int32, v = some (.int r9)) ∧ sz1 = sz ∧ (∃ (fa1 : Nat → Int32) (fb1 : Nat → Int32) (L1 : Nat → Nat) (me1 : Int32) (dr1 : Int32) (se1 : Int64) (sn1 : Int64) (sq1 : Int32) (le1 : Nat) (qu1 : Nat) (fl1 : Nat) (u1 : UN) (ex1 : Int32) (sa1 : Int64) (tk1 : Nat) (ob1 : Int64) (F1 : Nat → Fl) (G1 : Nat → Fl) (w1 : Nat) (k1 : Nat) (d1 : Nat) (th1 : Int32) (pt1 : (Nat → Int32) → Prop), (((PkP a b d f g ∧ 1 ≤ h.toInt ∧ h.toInt ≤ 200) ∧ v = some (.int (nI k1)) ∧ tkI c (kyN a b d f) g.toInt64 tm rt ((fl, Fs, us, 0, fun _ => 0), w, 0, 0) h.toNatClampNeg = ((fl1, F1, u1), w1, k1, d1) ∧ rmS (kyN a b d f) g.toInt64 h.toNatClampNeg tm (tk, Ft) = (tk1, G1) ∧ ex1 = ex + nI d1 ∧ sa1 = sa + (nI k1).toInt64 ∧ ob1 = ob + h.toInt64 ∧ th1 = 0) ∨ (¬ (PkP a b d f g ∧ 1 ≤ h.toInt ∧ h.toInt ≤ 200) ∧ v = some (.int 0) ∧ fl1 = fl ∧ F1 = Fs ∧ u1 = (us, 0, fun _ => 0) ∧ ex1 = ex ∧ sa1 = sa ∧ tk1 = tk ∧ G1 = Ft ∧ w1 = w ∧ ob1 = ob ∧ th1 = 1)) ∧ (spS c (nI tm) u1.2.2 u1.2.1 (fa, fb, me, sn, sq) (qu, L, dr) = ((fa1, fb1, me1, sn1, sq1), (qu1, L1, dr1))) ∧ (se1 = sq1.toInt64 &&& 4294967295) ∧ Im G x (rd, (NNq c), (CaQ fl1 F1), (TpQ tk1 G1), (TtQ tk1 G1), (SiQ fa1), (AtQ fb1), pt1, (QlQ qu1 L1), fl1, 0, le1, nx, il, qu1, kn, ec, nu, va, st, ep, (nI tm), ad, ob1, nI w1, rt, ex1, sa1, u1.1, tk1, th1, me1, dr1, se1, sn1) Φ1) ∧ Fr x (fun j9 => j9 = 0 ∨ j9 = 3 ∨ j9 = 4 ∨ j9 = 5 ∨ j9 = 6 ∨ j9 = 7 ∨ j9 = 8 ∨ j9 = 9 ∨ j9 = 10 ∨ j9 = 23 ∨ j9 = 24) Φ Φ1) := by
  refine Ct.of (cc := cX12_observeMany) (maxL := 9) (ret := (some .int)) (by decide) rfl (Nat.le_of_ble_eq_true rfl) ?_
  intro p9 e9 s9 m9 w9 t9 k9 B
  show Z p9 l e9 _ s9 m9 _ w9 t9 k9 _ G 9 0 [(0, .ref x), (1, .int a), (2, .int b), (3, .int d), (4, .int f), (5, .int g), (6, .int h)] [] Φ sz 0 0
  refine z_aload_n B dX12_observeMany_0 rfl 0 rfl ?_
  refine z_iconst (v := 0) B dX12_observeMany_1 rfl ?_
  obtain ⟨n_1, v_1, n_2, h_1, b_13, b_1, b_2, b_3, b_4, b_5, b_6, b_7, b_8, b_9, b_10, b_11, b_12⟩ := im0 hI
  replace b_1 : 1 ≤ rt := b_1
  replace b_2 : rt ≤ 1024 := b_2
  replace b_3 : fl ≤ 12 := b_3
  replace b_4 : 0 ≤ 24 := b_4
  replace b_5 : le ≤ 700 := b_5
  replace b_6 : qu ≤ 12 := b_6
  replace b_7 : n_1 ≤ 8 := b_7
  replace b_8 : n_2 ≤ 24 := b_8
  replace b_9 : tk ≤ 24 := b_9
  replace b_10 : il ≤ 700 := b_10
  replace b_11 : nx ≤ 701 := b_11
  replace b_12 : st ≤ 701 := b_12
  have h_2 : Φ x = some (o_ 14 [.int th, .ref (x + 1), .ref (x + 2), .int (nI tm), .int (nI w), .int (nI rt), .int ex, .int ad, .ref (x + 3), .ref (x + 4), .int me, .long se, .ref (x + 5), .int (nI fl), .int dr, .long ob, .long sa, .long sn, .long us, .ref (x + 6), .ref (x + 7), .int (nI 0), .ref (x + 8), .int (nI le), .ref (x + 9), .ref (x + 10), .int (nI qu), .ref (x + 11), .ref (x + 12), .ref (x + 13), .ref (x + 14), .ref (x + 15), .ref (x + 16), .int (nI n_1), .long v_1, .ref (x + 17), .ref (x + 18), .ref (x + 19), .ref (x + 20), .ref (x + 21), .ref (x + 22), .int (nI n_2), .ref (x + 23), .ref (x + 24), .int (nI tk), .ref (x + 25), .int (nI il), .int (nI nx), .int ec, .int ep, .int kn, .int (nI st), .int nu, .long va]) := h_1
  refine z_put (ref := "FlowExporterModel") (C := RX12) (T := TX12) (N := 54) (ci := 14) (v := .int 0) B hu_X12_observeMany_X12 tyX12 tyX12_ok nmX12 rfl 0 (Nat.le_of_ble_eq_true rfl) hv_X12_observeMany_1 rfl (Or.inl rfl) h_2 hx rfl rfl (Nat.le_of_ble_eq_true rfl) dX12_observeMany_2 (fun Φ1 hΦ1 => ?_)
  have h_3 : Φ1 x = some (o_ 14 [.int 0, .ref (x + 1), .ref (x + 2), .int (nI tm), .int (nI w), .int (nI rt), .int ex, .int ad, .ref (x + 3), .ref (x + 4), .int me, .long se, .ref (x + 5), .int (nI fl), .int dr, .long ob, .long sa, .long sn, .long us, .ref (x + 6), .ref (x + 7), .int (nI 0), .ref (x + 8), .int (nI le), .ref (x + 9), .ref (x + 10), .int (nI qu), .ref (x + 11), .ref (x + 12), .ref (x + 13), .ref (x + 14), .ref (x + 15), .ref (x + 16), .int (nI n_1), .long v_1, .ref (x + 17), .ref (x + 18), .ref (x + 19), .ref (x + 20), .ref (x + 21), .ref (x + 22), .int (nI n_2), .ref (x + 23), .ref (x + 24), .int (nI tk), .ref (x + 25), .int (nI il), .int (nI nx), .int ec, .int ep, .int kn, .int (nI st), .int nu, .long va]) := fset_at hΦ1
  have hI1 : Im G x (rd, (NNq c), (CaQ fl Fs), (TpQ tk Ft), (TtQ tk Ft), (SiQ fa), (AtQ fb), (PtQ 0 (fun _ => 0)), (QlQ qu L), fl, 0, le, nx, il, qu, kn, ec, nu, va, st, ep, nI tm, ad, ob, nI w, rt, ex, sa, us, tk, 0, me, dr, se, sn) Φ1 := Im.put0 hI hΦ1 ⟨n_1, v_1, n_2, rfl, b_13, b_1, b_2, b_3, b_4, b_5, b_6, b_7, b_8, b_9, b_10, b_11, b_12⟩
  refine z_aload_n B dX12_observeMany_5 rfl 0 rfl ?_
  refine z_iload_n B dX12_observeMany_6 rfl 1 rfl ?_
  refine z_iload_n B dX12_observeMany_7 rfl 2 rfl ?_
  refine z_iload_n B dX12_observeMany_8 rfl 3 rfl ?_
  refine z_iload B dX12_observeMany_9 4 rfl ?_
  refine z_iload B dX12_observeMany_11 5 rfl ?_
  refine z_callS (As := [.int a, .int b, .int d, .int f, .int g]) (rest := [.ref x]) B (r_isPacket G l Φ1 sz x rd (NNq c) (CaQ fl Fs) (TpQ tk Ft) (TtQ tk Ft) (SiQ fa) (AtQ fb) (PtQ 0 (fun _ => 0)) (QlQ qu L) fl 0 le nx il qu kn ec nu va st ep (nI tm) ad ob (nI w) rt ex sa us tk 0 me dr se sn a b d f g hx hI1 (fun f9 h9 => h9.1)) (va_cwS 5 B.1.2.2.2.2 gX12_observeMany_X12_isPacket rfl rfl rfl (by decide +kernel) ⟨Nat.le_of_ble_eq_true rfl, Nat.le_of_ble_eq_true rfl⟩) rfl rfl (Nat.le_of_ble_eq_true rfl) dX12_observeMany_13 ⟨Nat.le_of_ble_eq_true rfl, Nat.le_of_ble_eq_true rfl⟩ (fun r_1 Φ2 sz1 st1 hp1 hs1 => ?_)
  obtain ⟨ha1, hq1, hI2, hF1⟩ := hp1
  subst sz1
  replace hI2 : Im G x (rd, (NNq c), (CaQ fl Fs), (TpQ tk Ft), (TtQ tk Ft), (SiQ fa), (AtQ fb), (PtQ 0 (fun _ => 0)), (QlQ qu L), fl, 0, le, nx, il, qu, kn, ec, nu, va, st, ep, nI tm, ad, ob, nI w, rt, ex, sa, us, tk, 0, me, dr, se, sn) Φ2 := hI2
  rcases ha1 with ⟨rfl, hP1⟩ | ⟨rfl, hP1, n_3, b_14, rfl⟩
  · replace hs1 : st1 = [.int 0, .ref x] := hs1
    subst st1
    replace hP1 : ¬ PkP a b d f g := hP1
    refine z_if_eq (tgt := 32) B dX12_observeMany_16 rfl (fun c_1 => ?_) (fun h9 => absurd (by decide) h9)
    refine z_iconst (v := 1) B dX12_observeMany_32 rfl ?_
    refine z_goto (tgt := 37) B dX12_observeMany_33 rfl ?_
    refine z_iconst (v := 1) B dX12_observeMany_37 rfl ?_
    have h_4 : Φ2 x = some (o_ 14 [.int 0, .ref (x + 1), .ref (x + 2), .int (nI tm), .int (nI w), .int (nI rt), .int ex, .int ad, .ref (x + 3), .ref (x + 4), .int me, .long se, .ref (x + 5), .int (nI fl), .int dr, .long ob, .long sa, .long sn, .long us, .ref (x + 6), .ref (x + 7), .int (nI 0), .ref (x + 8), .int (nI le), .ref (x + 9), .ref (x + 10), .int (nI qu), .ref (x + 11), .ref (x + 12), .ref (x + 13), .ref (x + 14), .ref (x + 15), .ref (x + 16), .int (nI n_1), .long v_1, .ref (x + 17), .ref (x + 18), .ref (x + 19), .ref (x + 20), .ref (x + 21), .ref (x + 22), .int (nI n_2), .ref (x + 23), .ref (x + 24), .int (nI tk), .ref (x + 25), .int (nI il), .int (nI nx), .int ec, .int ep, .int kn, .int (nI st), .int nu, .long va]) := ((hF1 x (fun j9 h8 h7 => (show False from h7).elim)).trans h_3)
    refine z_callV (As := [.int 1, .int 1]) (rest := []) B (r_throwsIf1 G l Φ2 sz x rd (NNq c) (CaQ fl Fs) (TpQ tk Ft) (TtQ tk Ft) (SiQ fa) (AtQ fb) (PtQ 0 (fun _ => 0)) (QlQ qu L) fl 0 le nx il qu kn ec nu va st ep (nI tm) ad ob (nI w) rt ex sa us tk 0 me dr se sn  hx hI2 (fun f9 h9 => h9.1)) (cwV 2 B.1.2.2.2.2 gX12_observeMany_X12_throwsIf rfl rfl rfl (by decide +kernel) ⟨Nat.le_of_ble_eq_true rfl, Nat.le_of_ble_eq_true rfl⟩) h_4 rfl rfl rfl rfl (Nat.le_of_ble_eq_true rfl) dX12_observeMany_38 ⟨Nat.le_of_ble_eq_true rfl, Nat.le_of_ble_eq_true rfl⟩ (fun r_2 Φ3 sz2 st2 hp2 hs2 => ?_)
    obtain ⟨⟨rfl, l_1, h_5⟩, hq2, hI3, hF2⟩ := hp2
    subst sz2
    replace hs2 : st2 = [.int 1] := hs2
    subst st2
    replace hI3 : Im G x (rd, (NNq c), (CaQ fl Fs), (TpQ tk Ft), (TtQ tk Ft), (SiQ fa), (AtQ fb), (PtQ 0 (fun _ => 0)), (QlQ qu L), fl, 0, le, nx, il, qu, kn, ec, nu, va, st, ep, nI tm, ad, ob, nI w, rt, ex, sa, us, tk, 1, me, dr, se, sn) Φ3 := hI3
    refine z_if_eq (tgt := 46) B dX12_observeMany_41 rfl (fun h9 => absurd h9 (by decide)) (fun c_2 => ?_)
    refine z_iconst (v := 0) B dX12_observeMany_44 rfl ?_
    exact z_ret_i B dX12_observeMany_45 ⟨⟨_, rfl⟩, rfl, ⟨fa, fb, L, me, dr, se, sn, sq, le, qu, fl, (us, 0, fun _ => 0), ex, sa, tk, ob, Fs, Ft, w, 0, 0, 1, (PtQ 0 (fun _ => 0)), (Or.inr ⟨(fun h9 => hP1 h9.1), rfl, rfl, rfl, rfl, rfl, rfl, rfl, rfl, rfl, rfl, rfl⟩), (spS_0 rfl), hse, hI3⟩, (fun b9 h9 => ((hF2 b9 (fun j9 h8 h7 => h9 j9 h8 (fq_1061 j9 h7))).trans ((hF1 b9 (fun j9 h8 h7 => (show False from h7).elim)).trans ((fset_fr hΦ1 (fun h8 => h9 (0) h8 (show 0 = 0 ∨ 0 = 3 ∨ 0 = 4 ∨ 0 = 5 ∨ 0 = 6 ∨ 0 = 7 ∨ 0 = 8 ∨ 0 = 9 ∨ 0 = 10 ∨ 0 = 23 ∨ 0 = 24 by decide))).trans rfl))))⟩
  · replace hs1 : st1 = [.int 1, .ref x] := hs1
    subst st1
    replace b_14 : n_3 ≤ 255 := b_14
    replace hP1 : PkP a b d (nI n_3) g := hP1
    refine z_if_eq (tgt := 32) B dX12_observeMany_16 rfl (fun h9 => absurd h9 (by decide)) (fun c_3 => ?_)
    refine z_iload B dX12_observeMany_19 6 rfl ?_
    refine z_i2l (v := h.toInt64) B dX12_observeMany_21 rfl ?_
    refine z_lconst (v := 1) B dX12_observeMany_22 rfl ?_
    refine z_ldc2 (v := 200) B (by decide +kernel) dX12_observeMany_23 ?_
    by_cases hR1 : inP h.toInt64 1 200
    · obtain ⟨n_4, e_1, e_2, e_3, rfl⟩ := in_get (L := 1) (H := 200) (by decide) (by decide) hR1
      refine z_callS (As := [.long ((nI n_4).toInt64), .long 1, .long 200]) (rest := [.ref x]) B (c_inR1 G l Φ2 sz ((nI n_4).toInt64) 1 200 hR1 (fun v8 Φ8 sz8 => v8 = some (.int 1) ∧ sz8 = sz ∧ Im G x (rd, (NNq c), (CaQ fl Fs), (TpQ tk Ft), (TtQ tk Ft), (SiQ fa), (AtQ fb), (PtQ 0 (fun _ => 0)), (QlQ qu L), fl, 0, le, nx, il, qu, kn, ec, nu, va, st, ep, nI tm, ad, ob, nI w, rt, ex, sa, us, tk, 0, me, dr, se, sn) Φ8 ∧ Fr x (fun j9 => False) Φ2 Φ8) ⟨rfl, rfl, hI2, fun _ _ => rfl⟩) (va_cwS 3 B.1.2.2.2.2 gX12_observeMany_X12_inRange rfl rfl rfl (by decide +kernel) ⟨Nat.le_of_ble_eq_true rfl, Nat.le_of_ble_eq_true rfl⟩) rfl rfl (Nat.le_of_ble_eq_true rfl) dX12_observeMany_26 ⟨Nat.le_of_ble_eq_true rfl, Nat.le_of_ble_eq_true rfl⟩ (fun r_3 Φ4 sz3 st3 hp3 hs3 => ?_)
      obtain ⟨rfl, hq3, hI4, hF3⟩ := hp3
      subst sz3
      replace hs3 : st3 = [.int 1, .ref x] := hs3
      subst st3
      refine z_if_ne (tgt := 36) B dX12_observeMany_29 rfl (fun c_4 => ?_) (fun h9 => absurd h9 (by decide))
      refine z_iconst (v := 0) B dX12_observeMany_36 rfl ?_
      refine z_iconst (v := 1) B dX12_observeMany_37 rfl ?_
      have h_6 : Φ4 x = some (o_ 14 [.int 0, .ref (x + 1), .ref (x + 2), .int (nI tm), .int (nI w), .int (nI rt), .int ex, .int ad, .ref (x + 3), .ref (x + 4), .int me, .long se, .ref (x + 5), .int (nI fl), .int dr, .long ob, .long sa, .long sn, .long us, .ref (x + 6), .ref (x + 7), .int (nI 0), .ref (x + 8), .int (nI le), .ref (x + 9), .ref (x + 10), .int (nI qu), .ref (x + 11), .ref (x + 12), .ref (x + 13), .ref (x + 14), .ref (x + 15), .ref (x + 16), .int (nI n_1), .long v_1, .ref (x + 17), .ref (x + 18), .ref (x + 19), .ref (x + 20), .ref (x + 21), .ref (x + 22), .int (nI n_2), .ref (x + 23), .ref (x + 24), .int (nI tk), .ref (x + 25), .int (nI il), .int (nI nx), .int ec, .int ep, .int kn, .int (nI st), .int nu, .long va]) := ((hF3 x (fun j9 h8 h7 => (show False from h7).elim)).trans ((hF1 x (fun j9 h8 h7 => (show False from h7).elim)).trans h_3))
      refine z_callV (As := [.int 0, .int 1]) (rest := []) B (r_throwsIf0 G l Φ4 sz x rd (NNq c) (CaQ fl Fs) (TpQ tk Ft) (TtQ tk Ft) (SiQ fa) (AtQ fb) (PtQ 0 (fun _ => 0)) (QlQ qu L) fl 0 le nx il qu kn ec nu va st ep (nI tm) ad ob (nI w) rt ex sa us tk 0 me dr se sn  hx hI4 (fun f9 h9 => h9.1)) (cwV 2 B.1.2.2.2.2 gX12_observeMany_X12_throwsIf rfl rfl rfl (by decide +kernel) ⟨Nat.le_of_ble_eq_true rfl, Nat.le_of_ble_eq_true rfl⟩) h_6 rfl rfl rfl rfl (Nat.le_of_ble_eq_true rfl) dX12_observeMany_38 ⟨Nat.le_of_ble_eq_true rfl, Nat.le_of_ble_eq_true rfl⟩ (fun r_4 Φ5 sz4 st4 hp4 hs4 => ?_)
      obtain ⟨rfl, hq4, hI5, hF4⟩ := hp4
      subst sz4
      replace hs4 : st4 = [.int 0] := hs4
      subst st4
      replace hI5 : Im G x (rd, (NNq c), (CaQ fl Fs), (TpQ tk Ft), (TtQ tk Ft), (SiQ fa), (AtQ fb), (PtQ 0 (fun _ => 0)), (QlQ qu L), fl, 0, le, nx, il, qu, kn, ec, nu, va, st, ep, nI tm, ad, ob, nI w, rt, ex, sa, us, tk, 0, me, dr, se, sn) Φ5 := hI5
      refine z_if_eq (tgt := 46) B dX12_observeMany_41 rfl (fun c_5 => ?_) (fun h9 => absurd (by decide) h9)
      refine z_iconst (v := 0) B dX12_observeMany_46 rfl ?_
      refine z_istore (lv' := [(7, .int 0), (0, .ref x), (1, .int a), (2, .int b), (3, .int d), (4, .int (nI n_3)), (5, .int g), (6, .int (nI n_4))]) B dX12_observeMany_47 (Nat.le_of_ble_eq_true rfl) rfl ?_
      refine z_iconst (v := 0) B dX12_observeMany_49 rfl ?_
      refine z_istore (lv' := [(8, .int 0), (7, .int 0), (0, .ref x), (1, .int a), (2, .int b), (3, .int d), (4, .int (nI n_3)), (5, .int g), (6, .int (nI n_4))]) B dX12_observeMany_50 (Nat.le_of_ble_eq_true rfl) rfl ?_
      refine z_lv [0, 1, 2, 3, 4, 5, 6, 7, 8] rfl ?_
      refine z_loop (α := Nat × Nat × Nat × Nat × Int64 × Int32 × Int64 × Nat × Int64 × Int32 × (Nat → Nat) × (Nat → Fl) × (Nat → Fl) × Nat × Nat) (fun (a9 : Nat × Nat × Nat × Nat × Int64 × Int32 × Int64 × Nat × Int64 × Int32 × (Nat → Nat) × (Nat → Fl) × (Nat → Fl) × Nat × Nat) Φi => Im G x (rd, (NNq c), (CaQ a9.2.2.1 a9.2.2.2.2.2.2.2.2.2.2.2.1), (TpQ a9.2.2.2.2.2.2.2.1 a9.2.2.2.2.2.2.2.2.2.2.2.2.1), (TtQ a9.2.2.2.2.2.2.2.1 a9.2.2.2.2.2.2.2.2.2.2.2.2.1), (SiQ fa), (AtQ fb), (PtQ a9.2.2.2.1 a9.2.2.2.2.2.2.2.2.2.2.1), (QlQ qu L), a9.2.2.1, a9.2.2.2.1, le, nx, il, qu, kn, ec, nu, va, st, ep, nI tm, ad, a9.2.2.2.2.2.2.2.2.1, a9.2.2.2.2.2.2.2.2.2.1, rt, a9.2.2.2.2.2.1, a9.2.2.2.2.2.2.1, a9.2.2.2.2.1, a9.2.2.2.2.2.2.2.1, 0, me, dr, se, sn) Φi ∧ Fr x (fun j9 => j9 = 0 ∨ j9 = 5 ∨ j9 = 6 ∨ j9 = 7 ∨ j9 = 23 ∨ j9 = 24) Φ5 Φi ∧ (a9.1 ≤ n_4) ∧ (a9.2.1 ≤ 200) ∧ (a9.2.1 ≤ a9.1) ∧ (a9.2.2.2.2.2.2.2.2.2.2.2.2.2.1 < 2147483648) ∧ (tkI c (kyN a b d (nI n_3)) g.toInt64 tm rt ((fl, Fs, us, 0, fun _ => 0), w, 0, 0) a9.1 = ((a9.2.2.1, a9.2.2.2.2.2.2.2.2.2.2.2.1, a9.2.2.2.2.1, a9.2.2.2.1, a9.2.2.2.2.2.2.2.2.2.2.1), a9.2.2.2.2.2.2.2.2.2.2.2.2.2.1, a9.2.1, a9.2.2.2.2.2.2.2.2.2.2.2.2.2.2)) ∧ (rmI (kyN a b d (nI n_3)) g.toInt64 tm (tk, Ft) a9.1 = (a9.2.2.2.2.2.2.2.1, a9.2.2.2.2.2.2.2.2.2.2.2.2.1)) ∧ (a9.2.2.2.2.2.1 = ex + nI a9.2.2.2.2.2.2.2.2.2.2.2.2.2.2) ∧ (a9.2.2.2.2.2.2.1 = sa + (nI a9.2.1).toInt64) ∧ (a9.2.2.2.2.2.2.2.2.1 = ob + (nI a9.1).toInt64) ∧ (a9.2.2.2.2.2.2.2.2.2.1 = nI a9.2.2.2.2.2.2.2.2.2.2.2.2.2.1) ∧ (a9.2.2.2.1 = 0 ∨ (a9.2.2.2.1 ≤ 1 ∧ ixN a9.2.2.2.2.2.2.2.2.2.2.2.1 (kyN a b d (nI n_3)) a9.2.2.1 < a9.2.2.1)) ∧ True) (fun a9 => [(8, .int (nI (a9.1))), (7, .int (nI (a9.2.1))), (0, .ref x), (1, .int a), (2, .int b), (3, .int d), (4, .int (nI n_3)), (5, .int g), (6, .int (nI n_4))]) (fun a9 => n_4 - a9.1) ?_ (0, 0, fl, 0, us, ex, sa, tk, ob, nI w, (fun _ => 0), Fs, Ft, w, 0) ⟨(Im.weak5 hI5 (fun _ q9 => q9) (fun _ q9 => q9) (fun _ q9 => q9) (fun _ q9 => q9) (fun _ q9 => q9) (fun _ q9 => q9) (fun _ q9 => q9) (fun _ q9 => q9) (fun _ q9 => q9)), fun _ _ => rfl, (show 0 ≤ n_4 by omega), (show 0 ≤ 200 by omega), (show 0 ≤ 0 by omega), (show w < 2147483648 by omega), rfl, rfl, nadd_0, ladd_0, ladd_0, rfl, (Or.inl rfl), trivial⟩
      rintro ⟨i_1, i_2, i_3, i_4, i_5, i_6, i_7, i_8, i_9, i_10, i_11, i_12, i_13, i_14, i_15⟩ Φl1 ⟨hI6, hF5, b_15, b_16, b_17, b_18, b_19, b_20, b_21, b_22, b_23, b_24, b_25, -⟩ ih1
      replace hI6 : Im G x (rd, (NNq c), (CaQ i_3 i_12), (TpQ i_8 i_13), (TtQ i_8 i_13), (SiQ fa), (AtQ fb), (PtQ i_4 i_11), (QlQ qu L), i_3, i_4, le, nx, il, qu, kn, ec, nu, va, st, ep, nI tm, ad, i_9, i_10, rt, i_6, i_7, i_5, i_8, 0, me, dr, se, sn) Φl1 := hI6
      replace b_15 : i_1 ≤ n_4 := b_15
      replace b_16 : i_2 ≤ 200 := b_16
      replace b_17 : i_2 ≤ i_1 := b_17
      replace b_18 : i_14 < 2147483648 := b_18
      replace b_19 : tkI c (kyN a b d (nI n_3)) g.toInt64 tm rt ((fl, Fs, us, 0, fun _ => 0), w, 0, 0) i_1 = ((i_3, i_12, i_5, i_4, i_11), i_14, i_2, i_15) := b_19
      replace b_20 : rmI (kyN a b d (nI n_3)) g.toInt64 tm (tk, Ft) i_1 = (i_8, i_13) := b_20
      replace b_21 : i_6 = ex + nI i_15 := b_21
      replace b_22 : i_7 = sa + (nI i_2).toInt64 := b_22
      replace b_23 : i_9 = ob + (nI i_1).toInt64 := b_23
      replace b_24 : i_10 = nI i_14 := b_24
      replace b_25 : i_4 = 0 ∨ (i_4 ≤ 1 ∧ ixN i_12 (kyN a b d (nI n_3)) i_3 < i_3) := b_25
      show Z p9 l e9 _ s9 m9 _ w9 t9 k9 _ G 9 52 [(8, .int (nI i_1)), (7, .int (nI i_2)), (0, .ref x), (1, .int a), (2, .int b), (3, .int d), (4, .int (nI n_3)), (5, .int g), (6, .int (nI n_4))] [] Φl1 _ _ _
      have hr9 : i_10 = nI i_14 := b_24
      subst hr9
      refine z_iload B dX12_observeMany_52 0 rfl ?_
      refine z_iload B dX12_observeMany_54 8 rfl ?_
      refine z_icmp_ge (tgt := 89) B dX12_observeMany_56 rfl (fun c_6 => ?_) (fun c_6 => ?_)
      · have e_4 : n_4 ≤ i_1 := (nI_leI (a := n_4) (b := i_1) (by omega) (by omega)).mp c_6
        refine z_aload_n B dX12_observeMany_89 rfl 2 rfl ?_
        obtain ⟨n_5, v_2, n_6, h_7, b_38, b_26, b_27, b_28, b_29, b_30, b_31, b_32, b_33, b_34, b_35, b_36, b_37⟩ := im0 hI6
        replace b_26 : 1 ≤ rt := b_26
        replace b_27 : rt ≤ 1024 := b_27
        replace b_28 : i_3 ≤ 12 := b_28
        replace b_29 : i_4 ≤ 24 := b_29
        replace b_30 : le ≤ 700 := b_30
        replace b_31 : qu ≤ 12 := b_31
        replace b_32 : n_5 ≤ 8 := b_32
        replace b_33 : n_6 ≤ 24 := b_33
        replace b_34 : i_8 ≤ 24 := b_34
        replace b_35 : il ≤ 700 := b_35
        replace b_36 : nx ≤ 701 := b_36
        replace b_37 : st ≤ 701 := b_37
        have h_8 : Φl1 x = some (o_ 14 [.int 0, .ref (x + 1), .ref (x + 2), .int (nI tm), .int (nI i_14), .int (nI rt), .int i_6, .int ad, .ref (x + 3), .ref (x + 4), .int me, .long se, .ref (x + 5), .int (nI i_3), .int dr, .long i_9, .long i_7, .long sn, .long i_5, .ref (x + 6), .ref (x + 7), .int (nI i_4), .ref (x + 8), .int (nI le), .ref (x + 9), .ref (x + 10), .int (nI qu), .ref (x + 11), .ref (x + 12), .ref (x + 13), .ref (x + 14), .ref (x + 15), .ref (x + 16), .int (nI n_5), .long v_2, .ref (x + 17), .ref (x + 18), .ref (x + 19), .ref (x + 20), .ref (x + 21), .ref (x + 22), .int (nI n_6), .ref (x + 23), .ref (x + 24), .int (nI i_8), .ref (x + 25), .int (nI il), .int (nI nx), .int ec, .int ep, .int kn, .int (nI st), .int nu, .long va]) := h_7
        refine z_callV (As := []) (rest := []) B (r_sendPending G l Φl1 sz x rd (CaQ i_3 i_12) (TpQ i_8 i_13) (TtQ i_8 i_13) i_3 i_4 le nx il qu kn ec nu va st ep (nI tm) ad i_9 (nI i_14) rt i_6 i_7 i_5 i_8 0 me dr se sn c fa fb i_11 L sq hx hI6 hcw hg hcr hse) (cwV 0 B.1.2.2.2.2 gX12_observeMany_X12_sendPending rfl rfl rfl (by decide +kernel) ⟨Nat.le_of_ble_eq_true rfl, Nat.le_of_ble_eq_true rfl⟩) h_8 rfl rfl rfl rfl (Nat.le_of_ble_eq_true rfl) dX12_observeMany_90 ⟨Nat.le_of_ble_eq_true rfl, Nat.le_of_ble_eq_true rfl⟩ (fun r_5 Φ6 sz5 st5 hp5 hs5 => ?_)
        obtain ⟨rfl, hq5, ⟨n_7, n_8, v_3, v_4, n_9, v_5, v_6, v_7, v_8, v_9, b_39, b_40, hI7⟩, hF6⟩ := hp5
        subst sz5
        replace hs5 : st5 = [] := hs5
        subst st5
        replace hI7 : Im G x (rd, (NNq c), (CaQ i_3 i_12), (TpQ i_8 i_13), (TtQ i_8 i_13), SiQ v_3, AtQ v_4, PtQ 0 P, QlQ n_8 n_9, i_3, 0, n_7, nx, il, n_8, kn, ec, nu, va, st, ep, nI tm, ad, i_9, nI i_14, rt, i_6, i_7, i_5, i_8, 0, v_5, v_6, v_7, v_8) Φ6 := hI7
        replace b_39 : spS c (nI tm) i_11 i_4 (fa, fb, me, sn, sq) (qu, L, dr) = ((v_3, v_4, v_5, v_8, v_9), (n_8, n_9, v_6)) := b_39
        replace b_40 : v_7 = v_9.toInt64 &&& 4294967295 := b_40
        have hI8 : Im G x (rd, (NNq c), (CaQ i_3 i_12), (TpQ i_8 i_13), (TtQ i_8 i_13), SiQ v_3, AtQ v_4, (PtQ 0 (fun _ => 0)), QlQ n_8 n_9, i_3, 0, n_7, nx, il, n_8, kn, ec, nu, va, st, ep, nI tm, ad, i_9, nI i_14, rt, i_6, i_7, i_5, i_8, 0, v_5, v_6, v_7, v_8) Φ6 := Im.weak5 hI7 (fun _ q9 => q9) (fun _ q9 => q9) (fun _ q9 => q9) (fun _ q9 => q9) (fun _ q9 => q9) (fun _ q9 => q9) (fun _ q9 => q9) (fun _ _ => PtQ.z) (fun _ q9 => q9)
        refine z_iload B dX12_observeMany_93 1 rfl ?_
        have k_1 : (nI n_3).toInt = ((n_3 : Nat) : Int) := nI_toInt (by omega)
        have k_2 : (nI n_4).toInt = ((n_4 : Nat) : Int) := nI_toInt (by omega)
        have k_3 : (nI i_14).toInt = ((i_14 : Nat) : Int) := nI_toInt (by omega)
        have hi9 : i_1 = n_4 := by omega
        have hi8 : i_1 = (nI n_4).toNatClampNeg := hi9.trans (nI_clamp (by omega)).symm
        have hm9 : ∃ m9 : Nat, m9 < 200 ∧ i_1 = m9 + 1 := ⟨i_1 - 1, by omega, by omega⟩
        obtain ⟨m9x, hm8, hm7⟩ := hm9
        have hR9 : rmS (kyN a b d (nI n_3)) g.toInt64 (nI n_4).toNatClampNeg tm (tk, Ft) = (i_8, i_13) := by
          rw [← hi8, hm7, ← rmI_m m9x hm8, ← hm7]
          exact b_20
        exact z_ret_i B dX12_observeMany_95 ⟨⟨_, rfl⟩, rfl, ⟨v_3, v_4, n_9, v_5, v_6, v_7, v_8, v_9, n_7, n_8, i_3, (i_5, i_4, i_11), i_6, i_7, i_8, i_9, i_12, i_13, i_14, i_2, i_15, 0, (PtQ 0 (fun _ => 0)), (Or.inl ⟨⟨hP1, by omega, by omega⟩, rfl, by rw [← hi8]; exact b_19, hR9, b_21, b_22, b_23.trans (congrArg (fun w9 : Nat => ob + (nI w9).toInt64) hi9), rfl⟩), b_39, b_40, hI8⟩, (fun b9 h9 => ((hF6 b9 (fun j9 h8 h7 => h9 j9 h8 (fq_1063 j9 h7))).trans ((hF5 b9 (fun j9 h8 h7 => h9 j9 h8 (fq_1062 j9 h7))).trans ((hF4 b9 (fun j9 h8 h7 => (show False from h7).elim)).trans ((hF3 b9 (fun j9 h8 h7 => (show False from h7).elim)).trans ((hF1 b9 (fun j9 h8 h7 => (show False from h7).elim)).trans ((fset_fr hΦ1 (fun h8 => h9 (0) h8 (show 0 = 0 ∨ 0 = 3 ∨ 0 = 4 ∨ 0 = 5 ∨ 0 = 6 ∨ 0 = 7 ∨ 0 = 8 ∨ 0 = 9 ∨ 0 = 10 ∨ 0 = 23 ∨ 0 = 24 by decide))).trans rfl)))))))⟩
      · have e_5 : ¬ (n_4 ≤ i_1) := fun h9 => c_6 ((nI_leI (a := n_4) (b := i_1) (by omega) (by omega)).mpr h9)
        refine z_iload B dX12_observeMany_59 1 rfl ?_
        refine z_aload_n B dX12_observeMany_61 rfl 2 rfl ?_
        refine z_iload_n B dX12_observeMany_62 rfl 3 rfl ?_
        refine z_iload_n B dX12_observeMany_63 rfl 4 rfl ?_
        refine z_iload_n B dX12_observeMany_64 rfl 5 rfl ?_
        refine z_iload B dX12_observeMany_65 6 rfl ?_
        refine z_iload B dX12_observeMany_67 7 rfl ?_
        obtain ⟨n_10, v_10, n_11, h_9, b_53, b_41, b_42, b_43, b_44, b_45, b_46, b_47, b_48, b_49, b_50, b_51, b_52⟩ := im0 hI6
        replace b_41 : 1 ≤ rt := b_41
        replace b_42 : rt ≤ 1024 := b_42
        replace b_43 : i_3 ≤ 12 := b_43
        replace b_44 : i_4 ≤ 24 := b_44
        replace b_45 : le ≤ 700 := b_45
        replace b_46 : qu ≤ 12 := b_46
        replace b_47 : n_10 ≤ 8 := b_47
        replace b_48 : n_11 ≤ 24 := b_48
        replace b_49 : i_8 ≤ 24 := b_49
        replace b_50 : il ≤ 700 := b_50
        replace b_51 : nx ≤ 701 := b_51
        replace b_52 : st ≤ 701 := b_52
        have h_10 : Φl1 x = some (o_ 14 [.int 0, .ref (x + 1), .ref (x + 2), .int (nI tm), .int (nI i_14), .int (nI rt), .int i_6, .int ad, .ref (x + 3), .ref (x + 4), .int me, .long se, .ref (x + 5), .int (nI i_3), .int dr, .long i_9, .long i_7, .long sn, .long i_5, .ref (x + 6), .ref (x + 7), .int (nI i_4), .ref (x + 8), .int (nI le), .ref (x + 9), .ref (x + 10), .int (nI qu), .ref (x + 11), .ref (x + 12), .ref (x + 13), .ref (x + 14), .ref (x + 15), .ref (x + 16), .int (nI n_10), .long v_10, .ref (x + 17), .ref (x + 18), .ref (x + 19), .ref (x + 20), .ref (x + 21), .ref (x + 22), .int (nI n_11), .ref (x + 23), .ref (x + 24), .int (nI i_8), .ref (x + 25), .int (nI il), .int (nI nx), .int ec, .int ep, .int kn, .int (nI st), .int nu, .long va]) := h_9
        refine z_callV (As := [.int a, .int b, .int d, .int (nI n_3), .int g]) (rest := [.int (nI i_2)]) B (r_see G l Φl1 sz x rd (SiQ fa) (AtQ fb) (QlQ qu L) i_3 i_4 le nx il qu kn ec nu va st ep ad i_9 rt i_6 i_7 i_5 i_8 0 me dr se sn i_11 c i_12 i_13 tm i_14 a b d n_3 g hx hI6 (PkP_K hP1) hg b_25 (show tm ≤ 1000000 by omega) (show i_14 < 2147483648 by omega)) (cwV 5 B.1.2.2.2.2 gX12_observeMany_X12_see rfl rfl rfl (by decide +kernel) ⟨Nat.le_of_ble_eq_true rfl, Nat.le_of_ble_eq_true rfl⟩) h_10 rfl rfl rfl rfl (Nat.le_of_ble_eq_true rfl) dX12_observeMany_69 ⟨Nat.le_of_ble_eq_true rfl, Nat.le_of_ble_eq_true rfl⟩ (fun r_6 Φ7 sz6 st6 hp6 hs6 => ?_)
        obtain ⟨-, hq6, ⟨n_12, n_13, v_11, v_12, n_14, n_15, n_16, b_54, b_55, b_56, b_57, hI9⟩, hF7⟩ := hp6
        subst sz6
        replace hI9 : Im G x (rd, (NNq c), CaQ n_12 n_15, TpQ n_14 n_16, TtQ n_14 n_16, (SiQ fa), (AtQ fb), PtQ n_13.2.1 n_13.2.2, (QlQ qu L), n_12, n_13.2.1, le, nx, il, qu, kn, ec, nu, va, st, ep, nI tm, ad, i_9 + 1, nI (smW rt i_14), rt, v_11, v_12, n_13.1, n_14, 0, me, dr, se, sn) Φ7 := hI9
        replace b_54 : (smB rt i_14 ∧ r_6 = some (.int 1) ∧ adS c (kyN a b d (nI n_3)) g.toInt64 tm (i_3, i_12, i_5, i_4, i_11) = (n_12, n_15, n_13) ∧ v_11 = i_6 + nI (adD (kyN a b d (nI n_3)) (i_3, i_12, i_5, i_4, i_11)) ∧ v_12 = i_7 + 1) ∨ (¬ smB rt i_14 ∧ r_6 = some (.int 0) ∧ n_12 = i_3 ∧ n_15 = i_12 ∧ n_13 = (i_5, i_4, i_11) ∧ v_11 = i_6 ∧ v_12 = i_7) := b_54
        replace b_55 : rmS (kyN a b d (nI n_3)) g.toInt64 1 tm (i_8, i_13) = (n_14, n_16) := b_55
        replace b_56 : n_13.2.1 = 0 ∨ (n_13.2.1 ≤ 1 ∧ ixN n_15 (kyN a b d (nI n_3)) n_12 < n_12) := b_56
        replace b_57 : n_12 ≤ 12 := b_57
        rcases b_54 with ⟨hB1, rfl, hA1, hE1, hS1⟩ | ⟨hB1, rfl, h_11, h_12, h_13, h_14, h_15⟩
        · replace hs6 : st6 = [.int 1, .int (nI i_2)] := hs6
          subst st6
          have := smW_lt (r := rt) (w := i_14) (by omega)
          refine z_if_eq (tgt := 79) B dX12_observeMany_72 rfl (fun h9 => absurd h9 (by decide)) (fun c_7 => ?_)
          refine z_iconst (v := 1) B dX12_observeMany_75 rfl ?_
          refine z_goto (tgt := 80) B dX12_observeMany_76 rfl ?_
          refine z_iadd B dX12_observeMany_80 ?_
          refine z_top (st1 := [.int (nI (i_2 + 1))]) (congrArg (fun w9 : Int32 => ([.int w9] : List Value)) (nI_add i_2 1)) ?_
          refine z_istore (lv' := [(7, .int (nI (i_2 + 1))), (8, .int (nI i_1)), (0, .ref x), (1, .int a), (2, .int b), (3, .int d), (4, .int (nI n_3)), (5, .int g), (6, .int (nI n_4))]) B dX12_observeMany_81 (Nat.le_of_ble_eq_true rfl) rfl ?_
          refine z_iinc (k := 1) (v := nI (i_1 + 1)) (lv' := [(8, .int (nI (i_1 + 1))), (7, .int (nI (i_2 + 1))), (0, .ref x), (1, .int a), (2, .int b), (3, .int d), (4, .int (nI n_3)), (5, .int g), (6, .int (nI n_4))]) B dX12_observeMany_83 rfl (nI_add i_1 1) (Nat.le_of_ble_eq_true rfl) rfl ?_
          refine z_goto (tgt := 52) B dX12_observeMany_86 rfl ?_
          refine z_lv [0, 1, 2, 3, 4, 5, 6, 7, 8] rfl ?_
          exact ih1 (i_1 + 1, i_2 + 1, n_12, n_13.2.1, n_13.1, v_11, v_12, n_14, i_9 + 1, nI (smW rt i_14), n_13.2.2, n_15, n_16, smW rt i_14, i_15 + adD (kyN a b d (nI n_3)) (i_3, i_12, i_5, i_4, i_11)) Φ7 (show n_4 - (i_1 + 1) < n_4 - i_1 by omega) ⟨(Im.weak5 hI9 (fun _ q9 => q9) (fun _ q9 => q9) (fun _ q9 => q9) (fun _ q9 => q9) (fun _ q9 => q9) (fun _ q9 => q9) (fun _ q9 => q9) (fun _ q9 => q9) (fun _ q9 => q9)), (fun b9 h9 => ((hF7 b9 h9).trans ((hF5 b9 h9).trans rfl))), (show (i_1 + 1) ≤ n_4 by omega), (show (i_2 + 1) ≤ 200 by omega), (show (i_2 + 1) ≤ (i_1 + 1) by omega), (show (smW rt i_14) < 2147483648 by omega), ((tkI_y b_19 hB1).trans (by rw [hA1])), (rmI_s b_20 b_55), (hE1.trans ((congrArg (fun w9 : Int32 => w9 + nI (adD (kyN a b d (nI n_3)) (i_3, i_12, i_5, i_4, i_11))) b_21).trans (nadd2 _ _ _))), (hS1.trans ((congrArg (fun w9 : Int64 => w9 + 1) b_22).trans (ladd_s (by omega)))), ((congrArg (fun w9 : Int64 => w9 + 1) b_23).trans (ladd_s (by omega))), rfl, b_56, trivial⟩
        · replace hs6 : st6 = [.int 0, .int (nI i_2)] := hs6
          subst st6
          have := smW_lt (r := rt) (w := i_14) (by omega)
          refine z_if_eq (tgt := 79) B dX12_observeMany_72 rfl (fun c_8 => ?_) (fun h9 => absurd (by decide) h9)
          refine z_iconst (v := 0) B dX12_observeMany_79 rfl ?_
          refine z_iadd B dX12_observeMany_80 ?_
          refine z_top (st1 := [.int (nI (i_2 + 0))]) (congrArg (fun w9 : Int32 => ([.int w9] : List Value)) (nI_add i_2 0)) ?_
          refine z_istore (lv' := [(7, .int (nI (i_2 + 0))), (8, .int (nI i_1)), (0, .ref x), (1, .int a), (2, .int b), (3, .int d), (4, .int (nI n_3)), (5, .int g), (6, .int (nI n_4))]) B dX12_observeMany_81 (Nat.le_of_ble_eq_true rfl) rfl ?_
          refine z_iinc (k := 1) (v := nI (i_1 + 1)) (lv' := [(8, .int (nI (i_1 + 1))), (7, .int (nI (i_2 + 0))), (0, .ref x), (1, .int a), (2, .int b), (3, .int d), (4, .int (nI n_3)), (5, .int g), (6, .int (nI n_4))]) B dX12_observeMany_83 rfl (nI_add i_1 1) (Nat.le_of_ble_eq_true rfl) rfl ?_
          refine z_goto (tgt := 52) B dX12_observeMany_86 rfl ?_
          refine z_lv [0, 1, 2, 3, 4, 5, 6, 7, 8] rfl ?_
          exact ih1 (i_1 + 1, i_2 + 0, n_12, n_13.2.1, n_13.1, v_11, v_12, n_14, i_9 + 1, nI (smW rt i_14), n_13.2.2, n_15, n_16, smW rt i_14, i_15) Φ7 (show n_4 - (i_1 + 1) < n_4 - i_1 by omega) ⟨(Im.weak5 hI9 (fun _ q9 => q9) (fun _ q9 => q9) (fun _ q9 => q9) (fun _ q9 => q9) (fun _ q9 => q9) (fun _ q9 => q9) (fun _ q9 => q9) (fun _ q9 => q9) (fun _ q9 => q9)), (fun b9 h9 => ((hF7 b9 h9).trans ((hF5 b9 h9).trans rfl))), (show (i_1 + 1) ≤ n_4 by omega), (show (i_2 + 0) ≤ 200 by omega), (show (i_2 + 0) ≤ (i_1 + 1) by omega), (show (smW rt i_14) < 2147483648 by omega), ((tkI_n b_19 hB1).trans (by rw [h_11, h_12, h_13] <;> rfl)), (rmI_s b_20 b_55), (h_14.trans b_21), (h_15.trans b_22), ((congrArg (fun w9 : Int64 => w9 + 1) b_23).trans (ladd_s (by omega))), rfl, b_56, trivial⟩
    · have q_1 : ¬ (1 ≤ h.toInt ∧ h.toInt ≤ 200) := fun h9 => hR1 ((inP_i (by decide) (by decide)).mpr h9)
      refine z_callS (As := [.long h.toInt64, .long 1, .long 200]) (rest := [.ref x]) B (c_inR0 G l Φ2 sz h.toInt64 1 200 hR1 (fun v8 Φ8 sz8 => v8 = some (.int 0) ∧ sz8 = sz ∧ Im G x (rd, (NNq c), (CaQ fl Fs), (TpQ tk Ft), (TtQ tk Ft), (SiQ fa), (AtQ fb), (PtQ 0 (fun _ => 0)), (QlQ qu L), fl, 0, le, nx, il, qu, kn, ec, nu, va, st, ep, nI tm, ad, ob, nI w, rt, ex, sa, us, tk, 0, me, dr, se, sn) Φ8 ∧ Fr x (fun j9 => False) Φ2 Φ8) ⟨rfl, rfl, hI2, fun _ _ => rfl⟩) (va_cwS 3 B.1.2.2.2.2 gX12_observeMany_X12_inRange rfl rfl rfl (by decide +kernel) ⟨Nat.le_of_ble_eq_true rfl, Nat.le_of_ble_eq_true rfl⟩) rfl rfl (Nat.le_of_ble_eq_true rfl) dX12_observeMany_26 ⟨Nat.le_of_ble_eq_true rfl, Nat.le_of_ble_eq_true rfl⟩ (fun r_7 Φ8 sz7 st7 hp7 hs7 => ?_)
      obtain ⟨rfl, hq7, hI10, hF8⟩ := hp7
      subst sz7
      replace hs7 : st7 = [.int 0, .ref x] := hs7
      subst st7
      refine z_if_ne (tgt := 36) B dX12_observeMany_29 rfl (fun h9 => absurd (by decide) h9) (fun c_9 => ?_)
      refine z_iconst (v := 1) B dX12_observeMany_32 rfl ?_
      refine z_goto (tgt := 37) B dX12_observeMany_33 rfl ?_
      refine z_iconst (v := 1) B dX12_observeMany_37 rfl ?_
      have h_16 : Φ8 x = some (o_ 14 [.int 0, .ref (x + 1), .ref (x + 2), .int (nI tm), .int (nI w), .int (nI rt), .int ex, .int ad, .ref (x + 3), .ref (x + 4), .int me, .long se, .ref (x + 5), .int (nI fl), .int dr, .long ob, .long sa, .long sn, .long us, .ref (x + 6), .ref (x + 7), .int (nI 0), .ref (x + 8), .int (nI le), .ref (x + 9), .ref (x + 10), .int (nI qu), .ref (x + 11), .ref (x + 12), .ref (x + 13), .ref (x + 14), .ref (x + 15), .ref (x + 16), .int (nI n_1), .long v_1, .ref (x + 17), .ref (x + 18), .ref (x + 19), .ref (x + 20), .ref (x + 21), .ref (x + 22), .int (nI n_2), .ref (x + 23), .ref (x + 24), .int (nI tk), .ref (x + 25), .int (nI il), .int (nI nx), .int ec, .int ep, .int kn, .int (nI st), .int nu, .long va]) := ((hF8 x (fun j9 h8 h7 => (show False from h7).elim)).trans ((hF1 x (fun j9 h8 h7 => (show False from h7).elim)).trans h_3))
      refine z_callV (As := [.int 1, .int 1]) (rest := []) B (r_throwsIf1 G l Φ8 sz x rd (NNq c) (CaQ fl Fs) (TpQ tk Ft) (TtQ tk Ft) (SiQ fa) (AtQ fb) (PtQ 0 (fun _ => 0)) (QlQ qu L) fl 0 le nx il qu kn ec nu va st ep (nI tm) ad ob (nI w) rt ex sa us tk 0 me dr se sn  hx hI10 (fun f9 h9 => h9.1)) (cwV 2 B.1.2.2.2.2 gX12_observeMany_X12_throwsIf rfl rfl rfl (by decide +kernel) ⟨Nat.le_of_ble_eq_true rfl, Nat.le_of_ble_eq_true rfl⟩) h_16 rfl rfl rfl rfl (Nat.le_of_ble_eq_true rfl) dX12_observeMany_38 ⟨Nat.le_of_ble_eq_true rfl, Nat.le_of_ble_eq_true rfl⟩ (fun r_8 Φ9 sz8 st8 hp8 hs8 => ?_)
      obtain ⟨⟨rfl, l_2, h_17⟩, hq8, hI11, hF9⟩ := hp8
      subst sz8
      replace hs8 : st8 = [.int 1] := hs8
      subst st8
      replace hI11 : Im G x (rd, (NNq c), (CaQ fl Fs), (TpQ tk Ft), (TtQ tk Ft), (SiQ fa), (AtQ fb), (PtQ 0 (fun _ => 0)), (QlQ qu L), fl, 0, le, nx, il, qu, kn, ec, nu, va, st, ep, nI tm, ad, ob, nI w, rt, ex, sa, us, tk, 1, me, dr, se, sn) Φ9 := hI11
      refine z_if_eq (tgt := 46) B dX12_observeMany_41 rfl (fun h9 => absurd h9 (by decide)) (fun c_10 => ?_)
      refine z_iconst (v := 0) B dX12_observeMany_44 rfl ?_
      have k_4 : (nI n_3).toInt = ((n_3 : Nat) : Int) := nI_toInt (by omega)
      exact z_ret_i B dX12_observeMany_45 ⟨⟨_, rfl⟩, rfl, ⟨fa, fb, L, me, dr, se, sn, sq, le, qu, fl, (us, 0, fun _ => 0), ex, sa, tk, ob, Fs, Ft, w, 0, 0, 1, (PtQ 0 (fun _ => 0)), (Or.inr ⟨(fun h9 => by omega), rfl, rfl, rfl, rfl, rfl, rfl, rfl, rfl, rfl, rfl, rfl⟩), (spS_0 rfl), hse, hI11⟩, (fun b9 h9 => ((hF9 b9 (fun j9 h8 h7 => h9 j9 h8 (fq_1061 j9 h7))).trans ((hF8 b9 (fun j9 h8 h7 => (show False from h7).elim)).trans ((hF1 b9 (fun j9 h8 h7 => (show False from h7).elim)).trans ((fset_fr hΦ1 (fun h8 => h9 (0) h8 (show 0 = 0 ∨ 0 = 3 ∨ 0 = 4 ∨ 0 = 5 ∨ 0 = 6 ∨ 0 = 7 ∨ 0 = 8 ∨ 0 = 9 ∨ 0 = 10 ∨ 0 = 23 ∨ 0 = 24 by decide))).trans rfl)))))⟩

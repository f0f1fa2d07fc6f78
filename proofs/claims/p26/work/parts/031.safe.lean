set_option maxRecDepth 20000 in
theorem ggX6_readStatement_X6_wordIn : GoodIn wsX6_readStatement wsX6_wordIn := goodIn_ca ((goodIn_ca (goodIn_ca (goodIn_ca (goodIn_r _ [5, 6, 7, 8, 9, 10, 11, 12, 13, 14, 15, 16, 17, 18, 19, 20, 21, 22, 23, 24, 25, 26, 27, 28, 29, 30, 31, 32, 33, 34, 35, 36, 37, 38, 39, 40, 41, 42, 43, 44, 45, 46, 47, 48, 49, 50, 51, 52, 53, 54, 55, 56, 57, 58, 4, 59, 60, 61, 62, 63, 64, 65, 66, 67, 68, 69] rfl (by decide +kernel)) (goodIn_sub (fun _ h => List.mem_cons_of_mem _ (List.mem_append_left _ (List.mem_append_left _ (List.mem_append_left _ (List.mem_append_left _ (List.mem_append_left _ (List.mem_append_right _ h))))))) gw_wsX60)) (goodIn_sub (fun _ h => List.mem_cons_of_mem _ (List.mem_append_left _ (List.mem_append_left _ (List.mem_append_left _ (List.mem_append_left _ (List.mem_append_right _ h)))))) gw_wsJ00)) (goodIn_sub (fun _ h => List.mem_cons_of_mem _ (List.mem_append_left _ (List.mem_append_left _ (List.mem_append_left _ (List.mem_append_right _ h))))) gw_wsX50))) (goodIn_sub (fun _ h => List.mem_cons_of_mem _ (List.mem_append_right _ h)) (all_fg _))
set_option maxRecDepth 20000 in
theorem gX6_readStatement_X6_wordIn : GoodIn wsX6_readStatement (wsV RX6 59 RX6 yX6_wordIn wsX6_wordIn) := goodIn_app (goodIn_m (mem_cA (List.mem_cons_of_mem _ (List.mem_append_left _ (List.mem_append_left _ (List.mem_append_left _ (List.mem_append_left _ (List.mem_append_left _ (List.mem_append_left _ (List.mem_append_left _ (List.mem_of_getElem? (i := 0) rfl))))))))) (mem_cA (List.mem_cons_of_mem _ (List.mem_append_left _ (List.mem_append_left _ (List.mem_append_left _ (List.mem_append_left _ (List.mem_append_left _ (List.mem_append_left _ (List.mem_append_left _ (List.mem_of_getElem? (i := 1) rfl))))))))) (mem_cA (List.mem_cons_of_mem _ (List.mem_append_left _ (List.mem_append_left _ (List.mem_append_left _ (List.mem_append_left _ (List.mem_append_left _ (List.mem_append_left _ (List.mem_append_left _ (List.mem_of_getElem? (i := 2) rfl))))))))) (mem_cA (List.mem_cons_of_mem _ (List.mem_append_left _ (List.mem_append_left _ (List.mem_append_left _ (List.mem_append_left _ (List.mem_append_left _ (List.mem_append_left _ (List.mem_append_left _ (List.mem_of_getElem? (i := 3) rfl))))))))) mem_cZ)))) (by decide +kernel)) ggX6_readStatement_X6_wordIn
set_option maxRecDepth 20000 in
theorem ggX6_readStatement_X6_fail : GoodIn wsX6_readStatement wsX6_fail := (goodIn_ca (goodIn_r _ [73, 74, 61, 75] rfl (by decide +kernel)) (goodIn_sub (fun _ h => List.mem_cons_of_mem _ (List.mem_append_left _ (List.mem_append_left _ (List.mem_append_left _ (List.mem_append_left _ (List.mem_append_left _ (List.mem_append_right _ h))))))) gw_wsX60))
set_option maxRecDepth 20000 in
theorem gX6_readStatement_X6_fail : GoodIn wsX6_readStatement (wsV RX6 63 RX6 yX6_fail wsX6_fail) := goodIn_app (goodIn_m (mem_cA (List.mem_cons_of_mem _ (List.mem_append_left _ (List.mem_append_left _ (List.mem_append_left _ (List.mem_append_left _ (List.mem_append_left _ (List.mem_append_left _ (List.mem_append_right _ (List.mem_append_right _ (List.mem_append_left _ (List.mem_of_getElem? (i := 21) rfl))))))))))) (mem_cA (List.mem_cons_of_mem _ (List.mem_append_left _ (List.mem_append_left _ (List.mem_append_left _ (List.mem_append_left _ (List.mem_append_left _ (List.mem_append_left _ (List.mem_append_right _ (List.mem_append_right _ (List.mem_append_left _ (List.mem_of_getElem? (i := 22) rfl))))))))))) (mem_cA (List.mem_cons_of_mem _ (List.mem_append_left _ (List.mem_append_left _ (List.mem_append_left _ (List.mem_append_left _ (List.mem_append_left _ (List.mem_append_left _ (List.mem_append_right _ (List.mem_append_right _ (List.mem_append_left _ (List.mem_of_getElem? (i := 23) rfl))))))))))) (mem_cA (List.mem_cons_of_mem _ (List.mem_append_left _ (List.mem_append_left _ (List.mem_append_left _ (List.mem_append_left _ (List.mem_append_left _ (List.mem_append_left _ (List.mem_append_left _ (List.mem_of_getElem? (i := 3) rfl))))))))) mem_cZ)))) (by decide +kernel)) ggX6_readStatement_X6_fail
set_option maxRecDepth 20000 in
theorem ggX6_readStatement_X6_readTemplate : GoodIn wsX6_readStatement wsX6_readTemplate := goodIn_ca ((goodIn_ca (goodIn_ca (goodIn_ca (goodIn_ca (goodIn_ca (goodIn_r _ [79, 80, 81, 6, 70, 71, 72, 4, 73, 74, 61, 75, 82, 83, 84, 85, 86, 87, 88, 89, 90, 91, 60, 62, 92, 63, 64, 65, 66, 67, 68, 69, 93, 94, 95, 1, 2, 3, 5, 7, 8, 9, 10, 11, 12, 13, 14, 15, 16, 17, 18, 19, 20, 21, 22, 23, 24, 25, 26, 27, 28, 29, 30, 31, 32, 33, 34, 35, 36, 37, 38, 39, 40, 41, 42, 43, 44, 45, 46, 47, 48, 49, 50, 51, 52, 53, 54, 55, 56, 57, 58, 59, 96, 97, 98, 99, 100, 101, 102, 103, 104, 105, 106, 107, 108] rfl (by decide +kernel)) (goodIn_sub (fun _ h => List.mem_cons_of_mem _ (List.mem_append_left _ (List.mem_append_left _ (List.mem_append_left _ (List.mem_append_left _ (List.mem_append_left _ (List.mem_append_right _ h))))))) gw_wsX60)) (goodIn_sub (fun _ h => List.mem_cons_of_mem _ (List.mem_append_left _ (List.mem_append_left _ (List.mem_append_right _ h)))) gw_wsX10)) (goodIn_sub (fun _ h => List.mem_cons_of_mem _ (List.mem_append_left _ (List.mem_append_left _ (List.mem_append_left _ (List.mem_append_right _ h))))) gw_wsX50)) (goodIn_sub (fun _ h => List.mem_cons_of_mem _ (List.mem_append_left _ (List.mem_append_left _ (List.mem_append_left _ (List.mem_append_left _ (List.mem_append_right _ h)))))) gw_wsJ00)) (goodIn_sub (fun _ h => List.mem_cons_of_mem _ (List.mem_append_left _ (List.mem_append_right _ h))) gw_wsX100))) (goodIn_sub (fun _ h => List.mem_cons_of_mem _ (List.mem_append_right _ h)) (all_fg _))
set_option maxRecDepth 20000 in
theorem gX6_readStatement_X6_readTemplate : GoodIn wsX6_readStatement (wsV RX6 67 RX6 yX6_readTemplate wsX6_readTemplate) := goodIn_app (goodIn_m (mem_cA (List.mem_cons_of_mem _ (List.mem_append_left _ (List.mem_append_left _ (List.mem_append_left _ (List.mem_append_left _ (List.mem_append_left _ (List.mem_append_left _ (List.mem_append_right _ (List.mem_append_right _ (List.mem_append_right _ (List.mem_append_left _ (List.mem_of_getElem? (i := 3) rfl)))))))))))) (mem_cA (List.mem_cons_of_mem _ (List.mem_append_left _ (List.mem_append_left _ (List.mem_append_left _ (List.mem_append_left _ (List.mem_append_left _ (List.mem_append_left _ (List.mem_append_right _ (List.mem_append_right _ (List.mem_append_right _ (List.mem_append_left _ (List.mem_of_getElem? (i := 4) rfl)))))))))))) (mem_cA (List.mem_cons_of_mem _ (List.mem_append_left _ (List.mem_append_left _ (List.mem_append_left _ (List.mem_append_left _ (List.mem_append_left _ (List.mem_append_left _ (List.mem_append_right _ (List.mem_append_right _ (List.mem_append_right _ (List.mem_append_left _ (List.mem_of_getElem? (i := 5) rfl)))))))))))) (mem_cA (List.mem_cons_of_mem _ (List.mem_append_left _ (List.mem_append_left _ (List.mem_append_left _ (List.mem_append_left _ (List.mem_append_left _ (List.mem_append_left _ (List.mem_append_left _ (List.mem_of_getElem? (i := 3) rfl))))))))) mem_cZ)))) (by decide +kernel)) ggX6_readStatement_X6_readTemplate
set_option maxRecDepth 20000 in
theorem ggX6_readStatement_X6_readUse : GoodIn wsX6_readStatement wsX6_readUse := goodIn_ca ((goodIn_ca (goodIn_ca (goodIn_ca (goodIn_r _ [112, 113, 80, 81, 114, 115, 116, 4, 117, 6, 61, 60, 62, 88, 89, 90, 91, 92, 63, 64, 65, 66, 67, 68, 69, 93, 94, 95, 70, 71, 72, 73, 74, 75, 118, 119, 120, 85, 121, 122, 123, 124, 125, 126] rfl (by decide +kernel)) (goodIn_sub (fun _ h => List.mem_cons_of_mem _ (List.mem_append_left _ (List.mem_append_left _ (List.mem_append_left _ (List.mem_append_left _ (List.mem_append_left _ (List.mem_append_right _ h))))))) gw_wsX60)) (goodIn_sub (fun _ h => List.mem_cons_of_mem _ (List.mem_append_left _ (List.mem_append_left _ (List.mem_append_right _ h)))) gw_wsX10)) (goodIn_sub (fun _ h => List.mem_cons_of_mem _ (List.mem_append_left _ (List.mem_append_left _ (List.mem_append_left _ (List.mem_append_right _ h))))) gw_wsX50))) (goodIn_sub (fun _ h => List.mem_cons_of_mem _ (List.mem_append_right _ h)) (all_fg _))
set_option maxRecDepth 20000 in
theorem gX6_readStatement_X6_readUse : GoodIn wsX6_readStatement (wsV RX6 70 RX6 yX6_readUse wsX6_readUse) := goodIn_app (goodIn_m (mem_cA (List.mem_cons_of_mem _ (List.mem_append_left _ (List.mem_append_left _ (List.mem_append_left _ (List.mem_append_left _ (List.mem_append_left _ (List.mem_append_left _ (List.mem_append_right _ (List.mem_append_right _ (List.mem_append_right _ (List.mem_append_right _ (List.mem_append_left _ (List.mem_of_getElem? (i := 12) rfl))))))))))))) (mem_cA (List.mem_cons_of_mem _ (List.mem_append_left _ (List.mem_append_left _ (List.mem_append_left _ (List.mem_append_left _ (List.mem_append_left _ (List.mem_append_left _ (List.mem_append_right _ (List.mem_append_right _ (List.mem_append_right _ (List.mem_append_right _ (List.mem_append_left _ (List.mem_of_getElem? (i := 13) rfl))))))))))))) (mem_cA (List.mem_cons_of_mem _ (List.mem_append_left _ (List.mem_append_left _ (List.mem_append_left _ (List.mem_append_left _ (List.mem_append_left _ (List.mem_append_left _ (List.mem_append_right _ (List.mem_append_right _ (List.mem_append_right _ (List.mem_append_right _ (List.mem_append_left _ (List.mem_of_getElem? (i := 14) rfl))))))))))))) (mem_cA (List.mem_cons_of_mem _ (List.mem_append_left _ (List.mem_append_left _ (List.mem_append_left _ (List.mem_append_left _ (List.mem_append_left _ (List.mem_append_left _ (List.mem_append_left _ (List.mem_of_getElem? (i := 3) rfl))))))))) mem_cZ)))) (by decide +kernel)) ggX6_readStatement_X6_readUse
set_option maxRecDepth 20000 in
theorem ggX6_readStatement_X6_readDrop : GoodIn wsX6_readStatement wsX6_readDrop := goodIn_ca ((goodIn_ca (goodIn_ca (goodIn_ca (goodIn_ca (goodIn_r _ [130, 80, 131, 88, 89, 90, 4, 91, 60, 62, 92, 61, 6, 63, 64, 65, 66, 67, 68, 69, 93, 94, 95, 1, 2, 3, 5, 7, 8, 9, 10, 11, 12, 13, 14, 15, 16, 17, 18, 19, 20, 21, 22, 23, 24, 25, 26, 27, 28, 29, 30, 31, 32, 33, 34, 35, 36, 37, 38, 39, 40, 41, 42, 43, 44, 45, 46, 47, 48, 49, 50, 51, 52, 53, 54, 55, 56, 57, 58, 59, 70, 71, 72, 73, 74, 75, 123, 124, 125, 126] rfl (by decide +kernel)) (goodIn_sub (fun _ h => List.mem_cons_of_mem _ (List.mem_append_left _ (List.mem_append_left _ (List.mem_append_left _ (List.mem_append_left _ (List.mem_append_left _ (List.mem_append_right _ h))))))) gw_wsX60)) (goodIn_sub (fun _ h => List.mem_cons_of_mem _ (List.mem_append_left _ (List.mem_append_left _ (List.mem_append_right _ h)))) gw_wsX10)) (goodIn_sub (fun _ h => List.mem_cons_of_mem _ (List.mem_append_left _ (List.mem_append_left _ (List.mem_append_left _ (List.mem_append_right _ h))))) gw_wsX50)) (goodIn_sub (fun _ h => List.mem_cons_of_mem _ (List.mem_append_left _ (List.mem_append_left _ (List.mem_append_left _ (List.mem_append_left _ (List.mem_append_right _ h)))))) gw_wsJ00))) (goodIn_sub (fun _ h => List.mem_cons_of_mem _ (List.mem_append_right _ h)) (all_fg _))
set_option maxRecDepth 20000 in
theorem gX6_readStatement_X6_readDrop : GoodIn wsX6_readStatement (wsV RX6 73 RX6 yX6_readDrop wsX6_readDrop) := goodIn_app (goodIn_m (mem_cA (List.mem_cons_of_mem _ (List.mem_append_left _ (List.mem_append_left _ (List.mem_append_left _ (List.mem_append_left _ (List.mem_append_left _ (List.mem_append_left _ (List.mem_append_right _ (List.mem_append_right _ (List.mem_append_right _ (List.mem_append_right _ (List.mem_append_right _ (List.mem_of_getElem? (i := 6) rfl))))))))))))) (mem_cA (List.mem_cons_of_mem _ (List.mem_append_left _ (List.mem_append_left _ (List.mem_append_left _ (List.mem_append_left _ (List.mem_append_left _ (List.mem_append_left _ (List.mem_append_right _ (List.mem_append_right _ (List.mem_append_right _ (List.mem_append_right _ (List.mem_append_right _ (List.mem_of_getElem? (i := 7) rfl))))))))))))) (mem_cA (List.mem_cons_of_mem _ (List.mem_append_left _ (List.mem_append_left _ (List.mem_append_left _ (List.mem_append_left _ (List.mem_append_left _ (List.mem_append_left _ (List.mem_append_right _ (List.mem_append_right _ (List.mem_append_right _ (List.mem_append_right _ (List.mem_append_right _ (List.mem_of_getElem? (i := 8) rfl))))))))))))) (mem_cA (List.mem_cons_of_mem _ (List.mem_append_left _ (List.mem_append_left _ (List.mem_append_left _ (List.mem_append_left _ (List.mem_append_left _ (List.mem_append_left _ (List.mem_append_left _ (List.mem_of_getElem? (i := 3) rfl))))))))) mem_cZ)))) (by decide +kernel)) ggX6_readStatement_X6_readDrop
set_option maxRecDepth 20000 in
theorem ggX6_readStatement_X6_readSetting : GoodIn wsX6_readStatement wsX6_readSetting := goodIn_ca ((goodIn_ca (goodIn_ca (goodIn_ca (goodIn_r _ [135, 80, 113, 70, 71, 72, 4, 73, 74, 61, 75, 114, 115, 116, 117, 6, 60, 62, 88, 89, 90, 91, 92, 63, 64, 65, 66, 67, 68, 69, 93, 94, 95, 136, 137, 138, 85, 139, 140] rfl (by decide +kernel)) (goodIn_sub (fun _ h => List.mem_cons_of_mem _ (List.mem_append_left _ (List.mem_append_left _ (List.mem_append_left _ (List.mem_append_left _ (List.mem_append_left _ (List.mem_append_right _ h))))))) gw_wsX60)) (goodIn_sub (fun _ h => List.mem_cons_of_mem _ (List.mem_append_left _ (List.mem_append_left _ (List.mem_append_left _ (List.mem_append_right _ h))))) gw_wsX50)) (goodIn_sub (fun _ h => List.mem_cons_of_mem _ (List.mem_append_left _ (List.mem_append_left _ (List.mem_append_right _ h)))) gw_wsX10))) (goodIn_sub (fun _ h => List.mem_cons_of_mem _ (List.mem_append_right _ h)) (all_fg _))
set_option maxRecDepth 20000 in
theorem gX6_readStatement_X6_readSetting : GoodIn wsX6_readStatement (wsV RX6 76 RX6 yX6_readSetting wsX6_readSetting) := goodIn_app (goodIn_m (mem_cA (List.mem_cons_of_mem _ (List.mem_append_left _ (List.mem_append_left _ (List.mem_append_left _ (List.mem_append_left _ (List.mem_append_left _ (List.mem_append_left _ (List.mem_append_right _ (List.mem_append_right _ (List.mem_append_right _ (List.mem_append_right _ (List.mem_append_right _ (List.mem_of_getElem? (i := 11) rfl))))))))))))) (mem_cA (List.mem_cons_of_mem _ (List.mem_append_left _ (List.mem_append_left _ (List.mem_append_left _ (List.mem_append_left _ (List.mem_append_left _ (List.mem_append_left _ (List.mem_append_right _ (List.mem_append_right _ (List.mem_append_right _ (List.mem_append_right _ (List.mem_append_right _ (List.mem_of_getElem? (i := 12) rfl))))))))))))) (mem_cA (List.mem_cons_of_mem _ (List.mem_append_left _ (List.mem_append_left _ (List.mem_append_left _ (List.mem_append_left _ (List.mem_append_left _ (List.mem_append_left _ (List.mem_append_right _ (List.mem_append_right _ (List.mem_append_right _ (List.mem_append_right _ (List.mem_append_right _ (List.mem_of_getElem? (i := 13) rfl))))))))))))) (mem_cA (List.mem_cons_of_mem _ (List.mem_append_left _ (List.mem_append_left _ (List.mem_append_left _ (List.mem_append_left _ (List.mem_append_left _ (List.mem_append_left _ (List.mem_append_left _ (List.mem_of_getElem? (i := 3) rfl))))))))) mem_cZ)))) (by decide +kernel)) ggX6_readStatement_X6_readSetting
set_option maxRecDepth 20000 in
theorem ggX6_readStatement_X6_readSemicolon : GoodIn wsX6_readStatement wsX6_readSemicolon := goodIn_ca ((goodIn_ca (goodIn_ca (goodIn_r _ [126, 6, 88, 89, 90, 4, 91, 60, 62, 92, 61, 63, 64, 65, 66, 67, 68, 69, 93, 94, 95, 70, 71, 72, 73, 74, 75] rfl (by decide +kernel)) (goodIn_sub (fun _ h => List.mem_cons_of_mem _ (List.mem_append_left _ (List.mem_append_left _ (List.mem_append_left _ (List.mem_append_left _ (List.mem_append_left _ (List.mem_append_right _ h))))))) gw_wsX60)) (goodIn_sub (fun _ h => List.mem_cons_of_mem _ (List.mem_append_left _ (List.mem_append_left _ (List.mem_append_left _ (List.mem_append_right _ h))))) gw_wsX50))) (goodIn_sub (fun _ h => List.mem_cons_of_mem _ (List.mem_append_right _ h)) (all_fg _))
set_option maxRecDepth 20000 in
theorem gX6_readStatement_X6_readSemicolon : GoodIn wsX6_readStatement (wsV RX6 79 RX6 yX6_readSemicolon wsX6_readSemicolon) := goodIn_app (goodIn_m (mem_cA (List.mem_cons_of_mem _ (List.mem_append_left _ (List.mem_append_left _ (List.mem_append_left _ (List.mem_append_left _ (List.mem_append_left _ (List.mem_append_left _ (List.mem_append_right _ (List.mem_append_right _ (List.mem_append_right _ (List.mem_append_right _ (List.mem_append_right _ (List.mem_of_getElem? (i := 2) rfl))))))))))))) (mem_cA (List.mem_cons_of_mem _ (List.mem_append_left _ (List.mem_append_left _ (List.mem_append_left _ (List.mem_append_left _ (List.mem_append_left _ (List.mem_append_left _ (List.mem_append_right _ (List.mem_append_right _ (List.mem_append_right _ (List.mem_append_right _ (List.mem_append_right _ (List.mem_of_getElem? (i := 3) rfl))))))))))))) (mem_cA (List.mem_cons_of_mem _ (List.mem_append_left _ (List.mem_append_left _ (List.mem_append_left _ (List.mem_append_left _ (List.mem_append_left _ (List.mem_append_left _ (List.mem_append_right _ (List.mem_append_right _ (List.mem_append_right _ (List.mem_append_right _ (List.mem_append_right _ (List.mem_of_getElem? (i := 4) rfl))))))))))))) (mem_cA (List.mem_cons_of_mem _ (List.mem_append_left _ (List.mem_append_left _ (List.mem_append_left _ (List.mem_append_left _ (List.mem_append_left _ (List.mem_append_left _ (List.mem_append_left _ (List.mem_of_getElem? (i := 3) rfl))))))))) mem_cZ)))) (by decide +kernel)) ggX6_readStatement_X6_readSemicolon
theorem dX6_readStatement_0 : decode cX6_readStatement 0 = .ok (.aload_n 0, 1) := by decide +kernel
theorem dX6_readStatement_1 : decode cX6_readStatement 1 = .ok (.ldc 57, 2) := by decide +kernel
theorem dX6_readStatement_3 : decode cX6_readStatement 3 = .ok (.invokevirtual 59, 3) := by decide +kernel
theorem dX6_readStatement_6 : decode cX6_readStatement 6 = .ok (.istore_n 1, 1) := by decide +kernel
theorem dX6_readStatement_7 : decode cX6_readStatement 7 = .ok (.iload_n 1, 1) := by decide +kernel
theorem dX6_readStatement_8 : decode cX6_readStatement 8 = .ok (.iconst (-1), 1) := by decide +kernel
theorem dX6_readStatement_9 : decode cX6_readStatement 9 = .ok (.if_icmp .ne 9, 3) := by decide +kernel
theorem dX6_readStatement_12 : decode cX6_readStatement 12 = .ok (.aload_n 0, 1) := by decide +kernel
theorem dX6_readStatement_13 : decode cX6_readStatement 13 = .ok (.iconst 1, 1) := by decide +kernel
theorem dX6_readStatement_14 : decode cX6_readStatement 14 = .ok (.invokevirtual 63, 3) := by decide +kernel
theorem dX6_readStatement_17 : decode cX6_readStatement 17 = .ok (.ireturn, 1) := by decide +kernel
theorem dX6_readStatement_18 : decode cX6_readStatement 18 = .ok (.iload_n 1, 1) := by decide +kernel
theorem dX6_readStatement_19 : decode cX6_readStatement 19 = .ok (.bipush 9, 2) := by decide +kernel
theorem dX6_readStatement_21 : decode cX6_readStatement 21 = .ok (.if_icmp .ne 8, 3) := by decide +kernel
theorem dX6_readStatement_24 : decode cX6_readStatement 24 = .ok (.aload_n 0, 1) := by decide +kernel
theorem dX6_readStatement_25 : decode cX6_readStatement 25 = .ok (.invokevirtual 67, 3) := by decide +kernel
theorem dX6_readStatement_28 : decode cX6_readStatement 28 = .ok (.ireturn, 1) := by decide +kernel
theorem dX6_readStatement_29 : decode cX6_readStatement 29 = .ok (.iload_n 1, 1) := by decide +kernel
theorem dX6_readStatement_30 : decode cX6_readStatement 30 = .ok (.bipush 10, 2) := by decide +kernel
theorem dX6_readStatement_32 : decode cX6_readStatement 32 = .ok (.if_icmp .ne 8, 3) := by decide +kernel
theorem dX6_readStatement_35 : decode cX6_readStatement 35 = .ok (.aload_n 0, 1) := by decide +kernel
theorem dX6_readStatement_36 : decode cX6_readStatement 36 = .ok (.invokevirtual 70, 3) := by decide +kernel
theorem dX6_readStatement_39 : decode cX6_readStatement 39 = .ok (.ireturn, 1) := by decide +kernel
theorem dX6_readStatement_40 : decode cX6_readStatement 40 = .ok (.iload_n 1, 1) := by decide +kernel
theorem dX6_readStatement_41 : decode cX6_readStatement 41 = .ok (.bipush 11, 2) := by decide +kernel
theorem dX6_readStatement_43 : decode cX6_readStatement 43 = .ok (.if_icmp .ne 8, 3) := by decide +kernel
theorem dX6_readStatement_46 : decode cX6_readStatement 46 = .ok (.aload_n 0, 1) := by decide +kernel
theorem dX6_readStatement_47 : decode cX6_readStatement 47 = .ok (.invokevirtual 73, 3) := by decide +kernel
theorem dX6_readStatement_50 : decode cX6_readStatement 50 = .ok (.ireturn, 1) := by decide +kernel
theorem dX6_readStatement_51 : decode cX6_readStatement 51 = .ok (.aload_n 0, 1) := by decide +kernel
theorem dX6_readStatement_52 : decode cX6_readStatement 52 = .ok (.iload_n 1, 1) := by decide +kernel
theorem dX6_readStatement_53 : decode cX6_readStatement 53 = .ok (.invokevirtual 76, 3) := by decide +kernel
theorem dX6_readStatement_56 : decode cX6_readStatement 56 = .ok (.ifCond .eq 16, 3) := by decide +kernel
theorem dX6_readStatement_59 : decode cX6_readStatement 59 = .ok (.iload_n 1, 1) := by decide +kernel
theorem dX6_readStatement_60 : decode cX6_readStatement 60 = .ok (.iconst 4, 1) := by decide +kernel
theorem dX6_readStatement_61 : decode cX6_readStatement 61 = .ok (.if_icmp .ne 13, 3) := by decide +kernel
theorem dX6_readStatement_64 : decode cX6_readStatement 64 = .ok (.aload_n 0, 1) := by decide +kernel
theorem dX6_readStatement_65 : decode cX6_readStatement 65 = .ok (.iconst 5, 1) := by decide +kernel
theorem dX6_readStatement_66 : decode cX6_readStatement 66 = .ok (.invokevirtual 76, 3) := by decide +kernel
theorem dX6_readStatement_69 : decode cX6_readStatement 69 = .ok (.ifCond .ne 5, 3) := by decide +kernel
theorem dX6_readStatement_72 : decode cX6_readStatement 72 = .ok (.iconst 0, 1) := by decide +kernel
theorem dX6_readStatement_73 : decode cX6_readStatement 73 = .ok (.ireturn, 1) := by decide +kernel
theorem dX6_readStatement_74 : decode cX6_readStatement 74 = .ok (.aload_n 0, 1) := by decide +kernel
theorem dX6_readStatement_75 : decode cX6_readStatement 75 = .ok (.invokevirtual 79, 3) := by decide +kernel
theorem dX6_readStatement_78 : decode cX6_readStatement 78 = .ok (.ireturn, 1) := by decide +kernel
set_option maxRecDepth 20000 in
theorem ggX6_readUse_X6_readNumber : GoodIn wsX6_readUse wsX6_readNumber := goodIn_ca ((goodIn_ca (goodIn_ca (goodIn_r _ [8, 9, 1, 10, 11, 12, 13, 14, 15, 7, 16, 17, 18, 19, 20, 21, 22, 23, 24, 25, 26, 27, 28, 29, 30, 31, 32, 33] rfl (by decide +kernel)) (goodIn_sub (fun _ h => List.mem_cons_of_mem _ (List.mem_append_left _ (List.mem_append_left _ (List.mem_append_left _ (List.mem_append_right _ h))))) gw_wsX60)) (goodIn_sub (fun _ h => List.mem_cons_of_mem _ (List.mem_append_left _ (List.mem_append_right _ h))) gw_wsX50))) (goodIn_sub (fun _ h => List.mem_cons_of_mem _ (List.mem_append_right _ h)) (all_fg _))
set_option maxRecDepth 20000 in
theorem gX6_readUse_X6_readNumber : GoodIn wsX6_readUse (wsV RX6 89 RX6 yX6_readNumber wsX6_readNumber) := goodIn_app (goodIn_m (mem_cA (List.mem_cons_of_mem _ (List.mem_append_left _ (List.mem_append_left _ (List.mem_append_left _ (List.mem_append_left _ (List.mem_append_left _ (List.mem_of_getElem? (i := 3) rfl))))))) (mem_cA (List.mem_cons_of_mem _ (List.mem_append_left _ (List.mem_append_left _ (List.mem_append_left _ (List.mem_append_left _ (List.mem_append_left _ (List.mem_of_getElem? (i := 4) rfl))))))) (mem_cA (List.mem_cons_of_mem _ (List.mem_append_left _ (List.mem_append_left _ (List.mem_append_left _ (List.mem_append_left _ (List.mem_append_left _ (List.mem_of_getElem? (i := 5) rfl))))))) (mem_cA (List.mem_cons_of_mem _ (List.mem_append_left _ (List.mem_append_left _ (List.mem_append_left _ (List.mem_append_left _ (List.mem_append_left _ (List.mem_of_getElem? (i := 6) rfl))))))) mem_cZ)))) (by decide +kernel)) ggX6_readUse_X6_readNumber
set_option maxRecDepth 20000 in
theorem ggX6_readUse_X1_use : GoodIn wsX6_readUse wsX1_use := goodIn_ca ((goodIn_ca (goodIn_r _ [38, 39] rfl (by decide +kernel)) (goodIn_sub (fun _ h => List.mem_cons_of_mem _ (List.mem_append_left _ (List.mem_append_left _ (List.mem_append_right _ h)))) gw_wsX10))) (goodIn_sub (fun _ h => List.mem_cons_of_mem _ (List.mem_append_right _ h)) (all_fg _))
set_option maxRecDepth 20000 in
theorem gX6_readUse_X1_use : GoodIn wsX6_readUse (wsV RX6 112 RX1 yX1_use wsX1_use) := goodIn_app (goodIn_m (mem_cA (List.mem_cons_of_mem _ (List.mem_append_left _ (List.mem_append_left _ (List.mem_append_left _ (List.mem_append_left _ (List.mem_append_right _ (List.mem_of_getElem? (i := 9) rfl))))))) (mem_cA (List.mem_cons_of_mem _ (List.mem_append_left _ (List.mem_append_left _ (List.mem_append_left _ (List.mem_append_left _ (List.mem_append_right _ (List.mem_of_getElem? (i := 10) rfl))))))) (mem_cA (List.mem_cons_of_mem _ (List.mem_append_left _ (List.mem_append_left _ (List.mem_append_left _ (List.mem_append_left _ (List.mem_append_right _ (List.mem_of_getElem? (i := 11) rfl))))))) (mem_cA (List.mem_cons_of_mem _ (List.mem_append_left _ (List.mem_append_left _ (List.mem_append_left _ (List.mem_append_left _ (List.mem_append_right _ (List.mem_of_getElem? (i := 12) rfl))))))) mem_cZ)))) (by decide +kernel)) ggX6_readUse_X1_use
set_option maxRecDepth 20000 in
theorem ggX6_readUse_X6_readSemicolon : GoodIn wsX6_readUse wsX6_readSemicolon := goodIn_ca ((goodIn_ca (goodIn_ca (goodIn_r _ [43, 9, 13, 14, 15, 7, 16, 11, 12, 17, 10, 18, 19, 20, 21, 22, 23, 24, 25, 26, 27, 28, 29, 30, 31, 32, 33] rfl (by decide +kernel)) (goodIn_sub (fun _ h => List.mem_cons_of_mem _ (List.mem_append_left _ (List.mem_append_left _ (List.mem_append_left _ (List.mem_append_right _ h))))) gw_wsX60)) (goodIn_sub (fun _ h => List.mem_cons_of_mem _ (List.mem_append_left _ (List.mem_append_right _ h))) gw_wsX50))) (goodIn_sub (fun _ h => List.mem_cons_of_mem _ (List.mem_append_right _ h)) (all_fg _))
set_option maxRecDepth 20000 in
theorem gX6_readUse_X6_readSemicolon : GoodIn wsX6_readUse (wsV RX6 79 RX6 yX6_readSemicolon wsX6_readSemicolon) := goodIn_app (goodIn_m (mem_cA (List.mem_cons_of_mem _ (List.mem_append_left _ (List.mem_append_left _ (List.mem_append_left _ (List.mem_append_left _ (List.mem_append_right _ (List.mem_of_getElem? (i := 15) rfl))))))) (mem_cA (List.mem_cons_of_mem _ (List.mem_append_left _ (List.mem_append_left _ (List.mem_append_left _ (List.mem_append_left _ (List.mem_append_right _ (List.mem_of_getElem? (i := 16) rfl))))))) (mem_cA (List.mem_cons_of_mem _ (List.mem_append_left _ (List.mem_append_left _ (List.mem_append_left _ (List.mem_append_left _ (List.mem_append_right _ (List.mem_of_getElem? (i := 17) rfl))))))) (mem_cA (List.mem_cons_of_mem _ (List.mem_append_left _ (List.mem_append_left _ (List.mem_append_left _ (List.mem_append_left _ (List.mem_append_left _ (List.mem_of_getElem? (i := 6) rfl))))))) mem_cZ)))) (by decide +kernel)) ggX6_readUse_X6_readSemicolon
theorem dX6_readUse_0 : decode cX6_readUse 0 = .ok (.aload_n 0, 1) := by decide +kernel
theorem dX6_readUse_1 : decode cX6_readUse 1 = .ok (.iconst 0, 1) := by decide +kernel
theorem dX6_readUse_2 : decode cX6_readUse 2 = .ok (.sipush 255, 3) := by decide +kernel
theorem dX6_readUse_5 : decode cX6_readUse 5 = .ok (.invokevirtual 89, 3) := by decide +kernel
theorem dX6_readUse_8 : decode cX6_readUse 8 = .ok (.ifCond .ne 5, 3) := by decide +kernel
theorem dX6_readUse_11 : decode cX6_readUse 11 = .ok (.iconst 0, 1) := by decide +kernel
theorem dX6_readUse_12 : decode cX6_readUse 12 = .ok (.ireturn, 1) := by decide +kernel
theorem dX6_readUse_13 : decode cX6_readUse 13 = .ok (.aload_n 0, 1) := by decide +kernel
theorem dX6_readUse_14 : decode cX6_readUse 14 = .ok (.getfield 34, 3) := by decide +kernel
theorem dX6_readUse_17 : decode cX6_readUse 17 = .ok (.istore_n 1, 1) := by decide +kernel
theorem dX6_readUse_18 : decode cX6_readUse 18 = .ok (.aload_n 0, 1) := by decide +kernel
theorem dX6_readUse_19 : decode cX6_readUse 19 = .ok (.iconst 0, 1) := by decide +kernel
theorem dX6_readUse_20 : decode cX6_readUse 20 = .ok (.aload_n 0, 1) := by decide +kernel
theorem dX6_readUse_21 : decode cX6_readUse 21 = .ok (.getfield 12, 3) := by decide +kernel
theorem dX6_readUse_24 : decode cX6_readUse 24 = .ok (.getfield 47, 3) := by decide +kernel
theorem dX6_readUse_27 : decode cX6_readUse 27 = .ok (.iconst 1, 1) := by decide +kernel
theorem dX6_readUse_28 : decode cX6_readUse 28 = .ok (.isub, 1) := by decide +kernel
theorem dX6_readUse_29 : decode cX6_readUse 29 = .ok (.invokevirtual 89, 3) := by decide +kernel
theorem dX6_readUse_32 : decode cX6_readUse 32 = .ok (.ifCond .ne 5, 3) := by decide +kernel
theorem dX6_readUse_35 : decode cX6_readUse 35 = .ok (.iconst 0, 1) := by decide +kernel
theorem dX6_readUse_36 : decode cX6_readUse 36 = .ok (.ireturn, 1) := by decide +kernel
theorem dX6_readUse_37 : decode cX6_readUse 37 = .ok (.aload_n 0, 1) := by decide +kernel
theorem dX6_readUse_38 : decode cX6_readUse 38 = .ok (.getfield 12, 3) := by decide +kernel
theorem dX6_readUse_41 : decode cX6_readUse 41 = .ok (.iload_n 1, 1) := by decide +kernel
theorem dX6_readUse_42 : decode cX6_readUse 42 = .ok (.aload_n 0, 1) := by decide +kernel
theorem dX6_readUse_43 : decode cX6_readUse 43 = .ok (.getfield 34, 3) := by decide +kernel
theorem dX6_readUse_46 : decode cX6_readUse 46 = .ok (.invokevirtual 112, 3) := by decide +kernel
theorem dX6_readUse_49 : decode cX6_readUse 49 = .ok (.aload_n 0, 1) := by decide +kernel
theorem dX6_readUse_50 : decode cX6_readUse 50 = .ok (.invokevirtual 79, 3) := by decide +kernel
theorem dX6_readUse_53 : decode cX6_readUse 53 = .ok (.ireturn, 1) := by decide +kernel
set_option maxRecDepth 20000 in
theorem ggX6_readDrop_X6_nextToken : GoodIn wsX6_readDrop wsX6_nextToken := goodIn_ca ((goodIn_ca (goodIn_ca (goodIn_r _ [7, 8, 9, 10, 11, 12, 13, 14, 15, 16, 17, 18, 19, 20, 21, 6, 22] rfl (by decide +kernel)) (goodIn_sub (fun _ h => List.mem_cons_of_mem _ (List.mem_append_left _ (List.mem_append_left _ (List.mem_append_left _ (List.mem_append_left _ (List.mem_append_right _ h)))))) gw_wsX60)) (goodIn_sub (fun _ h => List.mem_cons_of_mem _ (List.mem_append_left _ (List.mem_append_left _ (List.mem_append_right _ h)))) gw_wsX50))) (goodIn_sub (fun _ h => List.mem_cons_of_mem _ (List.mem_append_right _ h)) (all_fg _))
set_option maxRecDepth 20000 in
theorem gX6_readDrop_X6_nextToken : GoodIn wsX6_readDrop (wsV RX6 44 RX6 yX6_nextToken wsX6_nextToken) := goodIn_app (goodIn_m (mem_cA (List.mem_cons_of_mem _ (List.mem_append_left _ (List.mem_append_left _ (List.mem_append_left _ (List.mem_append_left _ (List.mem_append_left _ (List.mem_append_left _ (List.mem_of_getElem? (i := 2) rfl)))))))) (mem_cA (List.mem_cons_of_mem _ (List.mem_append_left _ (List.mem_append_left _ (List.mem_append_left _ (List.mem_append_left _ (List.mem_append_left _ (List.mem_append_left _ (List.mem_of_getElem? (i := 3) rfl)))))))) (mem_cA (List.mem_cons_of_mem _ (List.mem_append_left _ (List.mem_append_left _ (List.mem_append_left _ (List.mem_append_left _ (List.mem_append_left _ (List.mem_append_left _ (List.mem_of_getElem? (i := 4) rfl)))))))) (mem_cA (List.mem_cons_of_mem _ (List.mem_append_left _ (List.mem_append_left _ (List.mem_append_left _ (List.mem_append_left _ (List.mem_append_left _ (List.mem_append_left _ (List.mem_of_getElem? (i := 5) rfl)))))))) mem_cZ)))) (by decide +kernel)) ggX6_readDrop_X6_nextToken
set_option maxRecDepth 20000 in
theorem ggX6_readDrop_X6_wordIn : GoodIn wsX6_readDrop wsX6_wordIn := goodIn_ca ((goodIn_ca (goodIn_ca (goodIn_ca (goodIn_r _ [26, 12, 27, 28, 29, 30, 31, 32, 33, 34, 35, 36, 37, 38, 39, 40, 41, 42, 43, 44, 45, 46, 47, 48, 49, 50, 51, 52, 53, 54, 55, 56, 57, 58, 59, 60, 61, 62, 63, 64, 65, 66, 67, 68, 69, 70, 71, 72, 73, 74, 75, 76, 77, 78, 6, 79, 8, 11, 9, 13, 14, 15, 16, 17, 18, 19] rfl (by decide +kernel)) (goodIn_sub (fun _ h => List.mem_cons_of_mem _ (List.mem_append_left _ (List.mem_append_left _ (List.mem_append_left _ (List.mem_append_left _ (List.mem_append_right _ h)))))) gw_wsX60)) (goodIn_sub (fun _ h => List.mem_cons_of_mem _ (List.mem_append_left _ (List.mem_append_right _ h))) gw_wsJ00)) (goodIn_sub (fun _ h => List.mem_cons_of_mem _ (List.mem_append_left _ (List.mem_append_left _ (List.mem_append_right _ h)))) gw_wsX50))) (goodIn_sub (fun _ h => List.mem_cons_of_mem _ (List.mem_append_right _ h)) (all_fg _))
set_option maxRecDepth 20000 in
theorem gX6_readDrop_X6_wordIn : GoodIn wsX6_readDrop (wsV RX6 59 RX6 yX6_wordIn wsX6_wordIn) := goodIn_app (goodIn_m (mem_cA (List.mem_cons_of_mem _ (List.mem_append_left _ (List.mem_append_left _ (List.mem_append_left _ (List.mem_append_left _ (List.mem_append_left _ (List.mem_append_left _ (List.mem_of_getElem? (i := 22) rfl)))))))) (mem_cA (List.mem_cons_of_mem _ (List.mem_append_left _ (List.mem_append_left _ (List.mem_append_left _ (List.mem_append_left _ (List.mem_append_left _ (List.mem_append_left _ (List.mem_of_getElem? (i := 23) rfl)))))))) (mem_cA (List.mem_cons_of_mem _ (List.mem_append_left _ (List.mem_append_left _ (List.mem_append_left _ (List.mem_append_left _ (List.mem_append_left _ (List.mem_append_right _ (List.mem_append_left _ (List.mem_of_getElem? (i := 0) rfl))))))))) (mem_cA (List.mem_cons_of_mem _ (List.mem_append_left _ (List.mem_append_left _ (List.mem_append_left _ (List.mem_append_left _ (List.mem_append_left _ (List.mem_append_left _ (List.mem_of_getElem? (i := 5) rfl)))))))) mem_cZ)))) (by decide +kernel)) ggX6_readDrop_X6_wordIn
set_option maxRecDepth 20000 in
theorem ggX6_readDrop_X6_fail : GoodIn wsX6_readDrop wsX6_fail := (goodIn_ca (goodIn_r _ [83, 84, 11, 85] rfl (by decide +kernel)) (goodIn_sub (fun _ h => List.mem_cons_of_mem _ (List.mem_append_left _ (List.mem_append_left _ (List.mem_append_left _ (List.mem_append_left _ (List.mem_append_right _ h)))))) gw_wsX60))
set_option maxRecDepth 20000 in
theorem gX6_readDrop_X6_fail : GoodIn wsX6_readDrop (wsV RX6 63 RX6 yX6_fail wsX6_fail) := goodIn_app (goodIn_m (mem_cA (List.mem_cons_of_mem _ (List.mem_append_left _ (List.mem_append_left _ (List.mem_append_left _ (List.mem_append_left _ (List.mem_append_left _ (List.mem_append_right _ (List.mem_append_right _ (List.mem_append_right _ (List.mem_of_getElem? (i := 7) rfl)))))))))) (mem_cA (List.mem_cons_of_mem _ (List.mem_append_left _ (List.mem_append_left _ (List.mem_append_left _ (List.mem_append_left _ (List.mem_append_left _ (List.mem_append_right _ (List.mem_append_right _ (List.mem_append_right _ (List.mem_of_getElem? (i := 8) rfl)))))))))) (mem_cA (List.mem_cons_of_mem _ (List.mem_append_left _ (List.mem_append_left _ (List.mem_append_left _ (List.mem_append_left _ (List.mem_append_left _ (List.mem_append_right _ (List.mem_append_right _ (List.mem_append_right _ (List.mem_of_getElem? (i := 9) rfl)))))))))) (mem_cA (List.mem_cons_of_mem _ (List.mem_append_left _ (List.mem_append_left _ (List.mem_append_left _ (List.mem_append_left _ (List.mem_append_left _ (List.mem_append_left _ (List.mem_of_getElem? (i := 5) rfl)))))))) mem_cZ)))) (by decide +kernel)) ggX6_readDrop_X6_fail
set_option maxRecDepth 20000 in
theorem ggX6_readDrop_X6_readSemicolon : GoodIn wsX6_readDrop wsX6_readSemicolon := goodIn_ca ((goodIn_ca (goodIn_ca (goodIn_r _ [89, 12, 3, 4, 5, 6, 7, 8, 9, 10, 11, 13, 14, 15, 16, 17, 18, 19, 20, 21, 22, 80, 81, 82, 83, 84, 85] rfl (by decide +kernel)) (goodIn_sub (fun _ h => List.mem_cons_of_mem _ (List.mem_append_left _ (List.mem_append_left _ (List.mem_append_left _ (List.mem_append_left _ (List.mem_append_right _ h)))))) gw_wsX60)) (goodIn_sub (fun _ h => List.mem_cons_of_mem _ (List.mem_append_left _ (List.mem_append_left _ (List.mem_append_right _ h)))) gw_wsX50))) (goodIn_sub (fun _ h => List.mem_cons_of_mem _ (List.mem_append_right _ h)) (all_fg _))
set_option maxRecDepth 20000 in
theorem gX6_readDrop_X6_readSemicolon : GoodIn wsX6_readDrop (wsV RX6 79 RX6 yX6_readSemicolon wsX6_readSemicolon) := goodIn_app (goodIn_m (mem_cA (List.mem_cons_of_mem _ (List.mem_append_left _ (List.mem_append_left _ (List.mem_append_left _ (List.mem_append_left _ (List.mem_append_left _ (List.mem_append_right _ (List.mem_append_right _ (List.mem_append_right _ (List.mem_of_getElem? (i := 13) rfl)))))))))) (mem_cA (List.mem_cons_of_mem _ (List.mem_append_left _ (List.mem_append_left _ (List.mem_append_left _ (List.mem_append_left _ (List.mem_append_left _ (List.mem_append_right _ (List.mem_append_right _ (List.mem_append_right _ (List.mem_of_getElem? (i := 14) rfl)))))))))) (mem_cA (List.mem_cons_of_mem _ (List.mem_append_left _ (List.mem_append_left _ (List.mem_append_left _ (List.mem_append_left _ (List.mem_append_left _ (List.mem_append_right _ (List.mem_append_right _ (List.mem_append_right _ (List.mem_of_getElem? (i := 15) rfl)))))))))) (mem_cA (List.mem_cons_of_mem _ (List.mem_append_left _ (List.mem_append_left _ (List.mem_append_left _ (List.mem_append_left _ (List.mem_append_left _ (List.mem_append_left _ (List.mem_of_getElem? (i := 5) rfl)))))))) mem_cZ)))) (by decide +kernel)) ggX6_readDrop_X6_readSemicolon
theorem dX6_readDrop_0 : decode cX6_readDrop 0 = .ok (.aload_n 0, 1) := by decide +kernel
theorem dX6_readDrop_1 : decode cX6_readDrop 1 = .ok (.invokevirtual 44, 3) := by decide +kernel
theorem dX6_readDrop_4 : decode cX6_readDrop 4 = .ok (.aload_n 0, 1) := by decide +kernel
theorem dX6_readDrop_5 : decode cX6_readDrop 5 = .ok (.ldc 101, 2) := by decide +kernel
theorem dX6_readDrop_7 : decode cX6_readDrop 7 = .ok (.invokevirtual 59, 3) := by decide +kernel
theorem dX6_readDrop_10 : decode cX6_readDrop 10 = .ok (.istore_n 1, 1) := by decide +kernel
theorem dX6_readDrop_11 : decode cX6_readDrop 11 = .ok (.iload_n 1, 1) := by decide +kernel
theorem dX6_readDrop_12 : decode cX6_readDrop 12 = .ok (.iconst (-1), 1) := by decide +kernel
theorem dX6_readDrop_13 : decode cX6_readDrop 13 = .ok (.if_icmp .ne 9, 3) := by decide +kernel
theorem dX6_readDrop_16 : decode cX6_readDrop 16 = .ok (.aload_n 0, 1) := by decide +kernel
theorem dX6_readDrop_17 : decode cX6_readDrop 17 = .ok (.iconst 1, 1) := by decide +kernel
theorem dX6_readDrop_18 : decode cX6_readDrop 18 = .ok (.invokevirtual 63, 3) := by decide +kernel
theorem dX6_readDrop_21 : decode cX6_readDrop 21 = .ok (.ireturn, 1) := by decide +kernel
theorem dX6_readDrop_22 : decode cX6_readDrop 22 = .ok (.aload_n 0, 1) := by decide +kernel
theorem dX6_readDrop_23 : decode cX6_readDrop 23 = .ok (.getfield 12, 3) := by decide +kernel
theorem dX6_readDrop_26 : decode cX6_readDrop 26 = .ok (.dup, 1) := by decide +kernel
theorem dX6_readDrop_27 : decode cX6_readDrop 27 = .ok (.getfield 115, 3) := by decide +kernel
theorem dX6_readDrop_30 : decode cX6_readDrop 30 = .ok (.iconst 1, 1) := by decide +kernel
theorem dX6_readDrop_31 : decode cX6_readDrop 31 = .ok (.iload_n 1, 1) := by decide +kernel
theorem dX6_readDrop_32 : decode cX6_readDrop 32 = .ok (.ishl, 1) := by decide +kernel
theorem dX6_readDrop_33 : decode cX6_readDrop 33 = .ok (.iconst (-1), 1) := by decide +kernel
theorem dX6_readDrop_34 : decode cX6_readDrop 34 = .ok (.ixor, 1) := by decide +kernel
theorem dX6_readDrop_35 : decode cX6_readDrop 35 = .ok (.iand, 1) := by decide +kernel
theorem dX6_readDrop_36 : decode cX6_readDrop 36 = .ok (.putfield 115, 3) := by decide +kernel
theorem dX6_readDrop_39 : decode cX6_readDrop 39 = .ok (.aload_n 0, 1) := by decide +kernel
theorem dX6_readDrop_40 : decode cX6_readDrop 40 = .ok (.invokevirtual 79, 3) := by decide +kernel
theorem dX6_readDrop_43 : decode cX6_readDrop 43 = .ok (.ireturn, 1) := by decide +kernel
set_option maxHeartbeats 4000000 in
set_option maxRecDepth 100000 in
theorem s_X6_readUse (G : EnvG) (l : Launch) (Φ : Hm) (sz x ca : Nat) (n : Nat) (f : Nat → Int32) (co : Int32) (po : Int32) (nx : Nat) (ki : Nat) (sa : Nat) (nu : Nat) (t : Nat) (c : Cf) (hx : G.2.2.2 ≤ x) (hI : In G x ca Φ) (hc0 : Φ (x + 1) = some (o_ 7 [.ref (x + 2), .int (nI n)])) (hc1 : Φ (x + 2) = some (ab_ G 700 f)) (hc2 : Φ (x + 24) = some (o_ 8 [.ref (x + 25), .int co, .int po, .ref (x + 1), .int (nI nx), .int (nI ki), .int (nI sa), .int (nI nu)])) (hcf0 : CfP G x 25 t 4 c Φ) (hn : n ≤ 700) (hnx : nx ≤ n) (hsx : sa ≤ nx) (hki : ki ≤ 5) (ht : t ≤ 4) : Ct G l yX6_readUse wsX6_readUse ({ frames := 3, cells := 0, slots := 0, locals := 65 }) 0 0 [.ref (x + 24)] Φ sz (fun v Φ1 sz1 => ((∃ (e8 k8 s8 u8 t8 : Nat) (c8 : Cf), v = some (.int 1) ∧ endA (bA f n) (useA (bA f n) nx c) = (0, e8, c8) ∧ Φ1 (x + 24) = some (o_ 8 [.ref (x + 25), .int co, .int po, .ref (x + 1), .int (nI e8), .int (nI k8), .int (nI s8), .int (nI u8)]) ∧ nx < e8 ∧ s8 ≤ e8 ∧ e8 ≤ n ∧ k8 ≤ 5 ∧ t8 ≤ 4 ∧ CfP G x 25 t8 4 c8 Φ1) ∨ (∃ (er8 s8 e8 k8 u8 : Nat) (c8 : Cf), v = some (.int 0) ∧ endA (bA f n) (useA (bA f n) nx c) = (er8, s8, c8) ∧ ¬ er8 = 0 ∧ Φ1 (x + 24) = some (o_ 8 [.ref (x + 25), .int (nI er8), .int (nI s8), .ref (x + 1), .int (nI e8), .int (nI k8), .int (nI s8), .int (nI u8)]))) ∧ sz1 = sz ∧ In G x (ca) Φ1 ∧ Fr x (fun j9 => 24 ≤ j9 ∧ j9 < 46) Φ Φ1) := by
  refine Ct.of (cc := cX6_readUse) (maxL := 2) (ret := (some .boolean)) (by decide) rfl (Nat.le_of_ble_eq_true rfl) ?_
  intro p9 e9 s9 m9 w9 t9 k9 B
  show Z p9 l e9 _ s9 m9 _ w9 t9 k9 _ G 2 0 [(0, .ref (x + 24))] [] Φ sz 0 0
  have h_1 : Φ (x + 25) = some (o_ 3 [.ref (x + 26), .ref (x + 27), .ref (x + 28), .ref (x + 29), .int (nI t), .int (c 9)]) := CfP.obj hcf0
  refine z_aload_n B dX6_readUse_0 rfl 0 rfl ?_
  refine z_iconst (v := 0) B dX6_readUse_1 rfl ?_
  refine z_sipush (v := 255) B dX6_readUse_2 rfl ?_
  refine z_callV (As := [.int 0, .int 255]) (rest := []) B (s_X6_readNumber G l Φ sz x (ca) n f co po nx ki sa nu 0 255 hx hI hc0 hc1 hc2 (show n ≤ 700 by omega) (show nx ≤ n by omega)) (cwV 2 B.1.2.2.2.2 gX6_readUse_X6_readNumber rfl rfl rfl (by decide +kernel) ⟨Nat.le_of_ble_eq_true rfl, Nat.le_of_ble_eq_true rfl⟩) hc2 rfl rfl rfl rfl (Nat.le_of_ble_eq_true rfl) dX6_readUse_5 ⟨Nat.le_of_ble_eq_true rfl, Nat.le_of_ble_eq_true rfl⟩ (fun r_1 Φ1 sz1 st1 hp1 hs1 => ?_)
  obtain ⟨ha1, hq1, hI1, hF1⟩ := hp1
  subst sz1
  replace hI1 : In G x (ca) Φ1 := hI1
  rcases ha1 with ⟨s_1, e_1, w_1, rfl, hN1, h_2, b_1, b_2, b_3, b_4⟩ | ⟨er_1, s_2, e_2, k_1, u_1, rfl, hN2, he1, h_3⟩
  · replace hN1 : numAt (bA f n) nx (0 : Int32).toInt (255 : Int32).toInt = (0, e_1, w_1) := hN1
    replace b_1 : nx < e_1 := b_1
    replace b_3 : e_1 ≤ n := b_3
    replace hs1 : st1 = [.int 1] := hs1
    subst st1
    refine z_if_ne (tgt := 13) B dX6_readUse_8 rfl (fun c_1 => ?_) (fun h9 => absurd h9 (by decide))
    refine z_aload_n B dX6_readUse_13 rfl 0 rfl ?_
    refine z_get (ref := "FlowExporter$Parser") (C := RX6) (T := TX6) (N := 8) (ci := 8) (v := .int (nI w_1)) B hu_X6_readUse_X6 rfl 7 (Nat.le_of_ble_eq_true rfl) hv_X6_readUse_34 rfl h_2 rfl dX6_readUse_14 ?_
    refine z_istore_n (lv' := [(1, .int (nI w_1)), (0, .ref (x + 24))]) B dX6_readUse_17 rfl (Nat.le_of_ble_eq_true rfl) rfl ?_
    refine z_aload_n B dX6_readUse_18 rfl 1 rfl ?_
    refine z_iconst (v := 0) B dX6_readUse_19 rfl ?_
    refine z_aload_n B dX6_readUse_20 rfl 1 rfl ?_
    refine z_get (ref := "FlowExporter$Parser") (C := RX6) (T := TX6) (N := 8) (ci := 8) (v := .ref (x + 25)) B hu_X6_readUse_X6 rfl 0 (Nat.le_of_ble_eq_true rfl) hv_X6_readUse_12 rfl h_2 rfl dX6_readUse_21 ?_
    have h_4 : Φ1 (x + 25) = some (o_ 3 [.ref (x + 26), .ref (x + 27), .ref (x + 28), .ref (x + 29), .int (nI t), .int (c 9)]) := ((hF1 (x + 25) fq_578).trans h_1)
    refine z_get (ref := "FlowExporter$Config") (C := RX1) (T := TX1) (N := 6) (ci := 3) (v := .int (nI t)) B hu_X6_readUse_X1 rfl 4 (Nat.le_of_ble_eq_true rfl) hv_X6_readUse_47 rfl h_4 rfl dX6_readUse_24 ?_
    refine z_iconst (v := 1) B dX6_readUse_27 rfl ?_
    refine z_isub B dX6_readUse_28 ?_
    have h_5 : Φ1 (x + 1) = some (o_ 7 [.ref (x + 2), .int (nI n)]) := ((hF1 (x + 1) fq_545).trans hc0)
    have h_6 : Φ1 (x + 2) = some (ab_ G 700 f) := ((hF1 (x + 2) fq_549).trans hc1)
    refine z_callV (As := [.int 0, .int (nI t - 1)]) (rest := []) B (s_X6_readNumber G l Φ1 sz x (ca) n f co po e_1 3 s_1 w_1 0 (nI t - 1) hx hI1 h_5 h_6 h_2 (show n ≤ 700 by omega) (show e_1 ≤ n by omega)) (cwV 2 B.1.2.2.2.2 gX6_readUse_X6_readNumber rfl rfl rfl (by decide +kernel) ⟨Nat.le_of_ble_eq_true rfl, Nat.le_of_ble_eq_true rfl⟩) h_2 rfl rfl rfl rfl (Nat.le_of_ble_eq_true rfl) dX6_readUse_29 ⟨Nat.le_of_ble_eq_true rfl, Nat.le_of_ble_eq_true rfl⟩ (fun r_2 Φ2 sz2 st2 hp2 hs2 => ?_)
    obtain ⟨ha2, hq2, hI2, hF2⟩ := hp2
    subst sz2
    replace hI2 : In G x (ca) Φ2 := hI2
    rcases ha2 with ⟨s_3, e_3, w_2, rfl, hN3, h_7, b_5, b_6, b_7, b_8⟩ | ⟨er_2, s_4, e_4, k_2, u_2, rfl, hN4, he2, h_8⟩
    · replace hN3 : numAt (bA f n) e_1 (0 : Int32).toInt (nI t - 1 : Int32).toInt = (0, e_3, w_2) := hN3
      replace b_5 : e_1 < e_3 := b_5
      replace b_7 : e_3 ≤ n := b_7
      replace hs2 : st2 = [.int 1] := hs2
      subst st2
      refine z_if_ne (tgt := 37) B dX6_readUse_32 rfl (fun c_2 => ?_) (fun h9 => absurd h9 (by decide))
      refine z_aload_n B dX6_readUse_37 rfl 1 rfl ?_
      refine z_get (ref := "FlowExporter$Parser") (C := RX6) (T := TX6) (N := 8) (ci := 8) (v := .ref (x + 25)) B hu_X6_readUse_X6 rfl 0 (Nat.le_of_ble_eq_true rfl) hv_X6_readUse_12 rfl h_7 rfl dX6_readUse_38 ?_
      refine z_iload_n B dX6_readUse_41 rfl 0 rfl ?_
      refine z_aload_n B dX6_readUse_42 rfl 1 rfl ?_
      refine z_get (ref := "FlowExporter$Parser") (C := RX6) (T := TX6) (N := 8) (ci := 8) (v := .int (nI w_2)) B hu_X6_readUse_X6 rfl 7 (Nat.le_of_ble_eq_true rfl) hv_X6_readUse_34 rfl h_7 rfl dX6_readUse_43 ?_
      obtain ⟨f_1, h_9⟩ := in5 (k := 27) hI2 rfl
      have h_10 : Φ2 (x + 27) = some (ai_ G 256 f_1) := h_9
      have hcg1 : CfP G x 25 t 4 c Φ2 := (CfP.fr (CfP.fr hcf0 hF1 (fun j9 h7 => by have h6 : j9 = 24 := h7; intros; omega)) hF2 (fun j9 h7 => by have h6 : j9 = 24 := h7; intros; omega))
      have h_11 : Φ2 (x + 25) = some (o_ 3 [.ref (x + 26), .ref (x + 27), .ref (x + 28), .ref (x + 29), .int (nI t), .int (c 9)]) := ((hF2 (x + 25) fq_578).trans h_4)
      refine z_callV (As := [.int (nI w_1), .int (nI w_2)]) (rest := []) B (s_X1_useF G l Φ2 sz x (ca) t 4 c f_1 w_1 (nI w_2) hx hI2 h_10 hcg1 (numAt_255 hN1)) (cwV 2 B.1.2.2.2.2 gX6_readUse_X1_use rfl rfl rfl (by decide +kernel) ⟨Nat.le_of_ble_eq_true rfl, Nat.le_of_ble_eq_true rfl⟩) h_11 rfl rfl rfl rfl (Nat.le_of_ble_eq_true rfl) dX6_readUse_46 ⟨Nat.le_of_ble_eq_true rfl, Nat.le_of_ble_eq_true rfl⟩ (fun r_3 Φ3 sz3 st3 hp3 hs3 => ?_)
      obtain ⟨⟨rfl, hcg2⟩, hq3, hI3, hF3⟩ := hp3
      subst sz3
      replace hs3 : st3 = [] := hs3
      subst st3
      replace hI3 : In G x (ca) Φ3 := hI3
      refine z_aload_n B dX6_readUse_49 rfl 1 rfl ?_
      have h_12 : Φ3 (x + 1) = some (o_ 7 [.ref (x + 2), .int (nI n)]) := ((hF3 (x + 1) fq_584).trans ((hF2 (x + 1) fq_545).trans h_5))
      have h_13 : Φ3 (x + 2) = some (ab_ G 700 f) := ((hF3 (x + 2) fq_585).trans ((hF2 (x + 2) fq_549).trans h_6))
      have h_14 : Φ3 (x + 24) = some (o_ 8 [.ref (x + 25), .int co, .int po, .ref (x + 1), .int (nI e_3), .int (nI 3), .int (nI s_3), .int (nI w_2)]) := ((hF3 (x + 24) fq_586).trans h_7)
      refine z_callV (As := []) (rest := []) B (s_X6_readSemicolon G l Φ3 sz x (ca) n f co po e_3 3 s_3 w_2 hx hI3 h_12 h_13 h_14 (show n ≤ 700 by omega) (show e_3 ≤ n by omega)) (cwV 0 B.1.2.2.2.2 gX6_readUse_X6_readSemicolon rfl rfl rfl (by decide +kernel) ⟨Nat.le_of_ble_eq_true rfl, Nat.le_of_ble_eq_true rfl⟩) h_14 rfl rfl rfl rfl (Nat.le_of_ble_eq_true rfl) dX6_readUse_50 ⟨Nat.le_of_ble_eq_true rfl, Nat.le_of_ble_eq_true rfl⟩ (fun r_4 Φ4 sz4 st4 hp4 hs4 => ?_)
      obtain ⟨ha3, hq4, hI4, hF4⟩ := hp4
      subst sz4
      replace hI4 : In G x (ca) Φ4 := hI4
      rcases ha3 with ⟨s_5, e_5, rfl, hN5, h_15, b_9, b_10, b_11⟩ | ⟨s_6, e_6, k_3, rfl, hN6, h_16⟩
      · replace hN5 : semi (bA f n) e_3 = (0, e_5) := hN5
        replace b_9 : e_3 < e_5 := b_9
        replace b_10 : e_5 ≤ n := b_10
        replace b_11 : s_5 ≤ e_5 := b_11
        replace hs4 : st4 = [.int 1] := hs4
        subst st4
        have hN7 := hN1
        rw [show (0 : Int32).toInt = 0 from by decide, show (255 : Int32).toInt = 255 from by decide] at hN7
        have hN8 := hN3
        rw [show (0 : Int32).toInt = 0 from by decide, use_hi (by omega), ← hcf0.1] at hN8
        have hcg3 : CfP G x 25 t 4 (upd c (51 + w_1) (nI w_2)) Φ4 := (CfP.fr hcg2 hF4 (fun j9 h7 => by have h6 : j9 = 24 := h7; intros; omega))
        exact z_ret_z B dX6_readUse_53 (by decide) ⟨(Or.inl ⟨e_5, 4, s_5, w_2, t, (upd c (51 + w_1) (nI w_2)), rfl, (congrArg (endA (bA f n)) (useA_0 hN7 hN8)).trans (endA_0 hN5), h_15, by omega, by omega, by omega, by omega, by omega, hcg3⟩), rfl, hI4, (fun b9 h9 => ((hF4 b9 (fun j9 h8 h7 => h9 j9 h8 (fq_565 j9 h7))).trans ((hF3 b9 (fun j9 h8 h7 => h9 j9 h8 (fq_587 j9 h7))).trans ((hF2 b9 (fun j9 h8 h7 => h9 j9 h8 (fq_565 j9 h7))).trans ((hF1 b9 (fun j9 h8 h7 => h9 j9 h8 (fq_565 j9 h7))).trans rfl)))))⟩
      · replace hN6 : semi (bA f n) e_3 = (1, s_6) := hN6
        replace hs4 : st4 = [.int 0] := hs4
        subst st4
        have hN9 := hN1
        rw [show (0 : Int32).toInt = 0 from by decide, show (255 : Int32).toInt = 255 from by decide] at hN9
        have hN10 := hN3
        rw [show (0 : Int32).toInt = 0 from by decide, use_hi (by omega), ← hcf0.1] at hN10
        exact z_ret_z B dX6_readUse_53 (by decide) ⟨(Or.inr ⟨1, s_6, e_6, k_3, w_2, upd c (51 + w_1) (nI w_2), rfl, (congrArg (endA (bA f n)) (useA_0 hN9 hN10)).trans (endA_0 hN6), by decide, h_16⟩), rfl, hI4, (fun b9 h9 => ((hF4 b9 (fun j9 h8 h7 => h9 j9 h8 (fq_565 j9 h7))).trans ((hF3 b9 (fun j9 h8 h7 => h9 j9 h8 (fq_587 j9 h7))).trans ((hF2 b9 (fun j9 h8 h7 => h9 j9 h8 (fq_565 j9 h7))).trans ((hF1 b9 (fun j9 h8 h7 => h9 j9 h8 (fq_565 j9 h7))).trans rfl)))))⟩
    · replace hN4 : numAt (bA f n) e_1 (0 : Int32).toInt (nI t - 1 : Int32).toInt = (er_2, s_4, 0) := hN4
      replace hs2 : st2 = [.int 0] := hs2
      subst st2
      refine z_if_ne (tgt := 37) B dX6_readUse_32 rfl (fun h9 => absurd (by decide) h9) (fun c_3 => ?_)
      refine z_iconst (v := 0) B dX6_readUse_35 rfl ?_
      have hN11 := hN1
      rw [show (0 : Int32).toInt = 0 from by decide, show (255 : Int32).toInt = 255 from by decide] at hN11
      have hN12 := hN4
      rw [show (0 : Int32).toInt = 0 from by decide, use_hi (by omega), ← hcf0.1] at hN12
      exact z_ret_z B dX6_readUse_36 (by decide) ⟨(Or.inr ⟨er_2, s_4, e_4, k_2, u_2, c, rfl, (congrArg (endA (bA f n)) (useA_2 hN11 hN12 he2)).trans (endA_e he2), he2, h_8⟩), rfl, hI2, (fun b9 h9 => ((hF2 b9 (fun j9 h8 h7 => h9 j9 h8 (fq_565 j9 h7))).trans ((hF1 b9 (fun j9 h8 h7 => h9 j9 h8 (fq_565 j9 h7))).trans rfl)))⟩
  · replace hN2 : numAt (bA f n) nx (0 : Int32).toInt (255 : Int32).toInt = (er_1, s_2, 0) := hN2
    replace hs1 : st1 = [.int 0] := hs1
    subst st1
    refine z_if_ne (tgt := 13) B dX6_readUse_8 rfl (fun h9 => absurd (by decide) h9) (fun c_4 => ?_)
    refine z_iconst (v := 0) B dX6_readUse_11 rfl ?_
    have hN13 := hN2
    rw [show (0 : Int32).toInt = 0 from by decide, show (255 : Int32).toInt = 255 from by decide] at hN13
    exact z_ret_z B dX6_readUse_12 (by decide) ⟨(Or.inr ⟨er_1, s_2, e_2, k_1, u_1, c, rfl, (congrArg (endA (bA f n)) (useA_1 hN13 he1)).trans (endA_e he1), he1, h_3⟩), rfl, hI1, (fun b9 h9 => ((hF1 b9 (fun j9 h8 h7 => h9 j9 h8 (fq_565 j9 h7))).trans rfl))⟩

theorem hu_X6_readDrop_X6 : ∀ w ∈ u_ws RX6 TX6 8, w ∈ wsX6_readDrop := fun _ h => List.mem_cons_of_mem _ (List.mem_append_left _ (List.mem_append_left _ (List.mem_append_left _ (List.mem_append_left _ (List.mem_append_right _ (h))))))

theorem hv_X6_readDrop_12 : Cond.fieldLink RX6 12 "FlowExporter$Parser" (TX6 0).2.1 (TX6 0).2.2.1 ∈ wsX6_readDrop := List.mem_cons_of_mem _ (List.mem_append_left _ (List.mem_append_left _ (List.mem_append_left _ (List.mem_append_left _ (List.mem_append_left _ (List.mem_append_left _ (List.mem_of_getElem? (i := 0) rfl)))))))

theorem hu_X6_readDrop_X1 : ∀ w ∈ u_ws RX1 TX1 6, w ∈ wsX6_readDrop := fun _ h => List.mem_cons_of_mem _ (List.mem_append_left _ (List.mem_append_left _ (List.mem_append_left _ (List.mem_append_right _ (h)))))

theorem hv_X6_readDrop_115 : Cond.fieldLink RX6 115 "FlowExporter$Config" (TX1 5).2.1 (TX1 5).2.2.1 ∈ wsX6_readDrop := List.mem_cons_of_mem _ (List.mem_append_left _ (List.mem_append_left _ (List.mem_append_left _ (List.mem_append_left _ (List.mem_append_left _ (List.mem_append_left _ (List.mem_of_getElem? (i := 1) rfl)))))))

set_option maxHeartbeats 4000000 in
set_option maxRecDepth 100000 in
theorem s_X6_readDrop (G : EnvG) (l : Launch) (Φ : Hm) (sz x ca : Nat) (n : Nat) (f : Nat → Int32) (co : Int32) (po : Int32) (nx : Nat) (ki : Nat) (sa : Nat) (nu : Nat) (t : Nat) (c : Cf) (hx : G.2.2.2 ≤ x) (hI : In G x ca Φ) (hc0 : Φ (x + 1) = some (o_ 7 [.ref (x + 2), .int (nI n)])) (hc1 : Φ (x + 2) = some (ab_ G 700 f)) (hc2 : Φ (x + 24) = some (o_ 8 [.ref (x + 25), .int co, .int po, .ref (x + 1), .int (nI nx), .int (nI ki), .int (nI sa), .int (nI nu)])) (hcf0 : CfP G x 25 t 4 c Φ) (hn : n ≤ 700) (hnx : nx ≤ n) (hsx : sa ≤ nx) (hki : ki ≤ 5) (ht : t ≤ 4) : Ct G l yX6_readDrop wsX6_readDrop ({ frames := 6, cells := 0, slots := 0, locals := 133 }) 0 0 [.ref (x + 24)] Φ sz (fun v Φ1 sz1 => ((∃ (e8 k8 s8 u8 t8 : Nat) (c8 : Cf), v = some (.int 1) ∧ endA (bA f n) (drpA (bA f n) nx c) = (0, e8, c8) ∧ Φ1 (x + 24) = some (o_ 8 [.ref (x + 25), .int co, .int po, .ref (x + 1), .int (nI e8), .int (nI k8), .int (nI s8), .int (nI u8)]) ∧ nx < e8 ∧ s8 ≤ e8 ∧ e8 ≤ n ∧ k8 ≤ 5 ∧ t8 ≤ 4 ∧ CfP G x 25 t8 4 c8 Φ1) ∨ (∃ (er8 s8 e8 k8 u8 : Nat) (c8 : Cf), v = some (.int 0) ∧ endA (bA f n) (drpA (bA f n) nx c) = (er8, s8, c8) ∧ ¬ er8 = 0 ∧ Φ1 (x + 24) = some (o_ 8 [.ref (x + 25), .int (nI er8), .int (nI s8), .ref (x + 1), .int (nI e8), .int (nI k8), .int (nI s8), .int (nI u8)]))) ∧ sz1 = sz ∧ In G x (ca) Φ1 ∧ Fr x (fun j9 => 24 ≤ j9 ∧ j9 < 46) Φ Φ1) := by
  refine Ct.of (cc := cX6_readDrop) (maxL := 2) (ret := (some .boolean)) (by decide) rfl (Nat.le_of_ble_eq_true rfl) ?_
  intro p9 e9 s9 m9 w9 t9 k9 B
  show Z p9 l e9 _ s9 m9 _ w9 t9 k9 _ G 2 0 [(0, .ref (x + 24))] [] Φ sz 0 0
  have h_1 : Φ (x + 25) = some (o_ 3 [.ref (x + 26), .ref (x + 27), .ref (x + 28), .ref (x + 29), .int (nI t), .int (c 9)]) := CfP.obj hcf0
  refine z_aload_n B dX6_readDrop_0 rfl 0 rfl ?_
  refine z_callV (As := []) (rest := []) B (s_X6_nextToken G l Φ sz x (ca) n f co po nx ki sa nu hx hI hc0 hc1 hc2 (show n ≤ 700 by omega) (show nx ≤ n by omega)) (cwV 0 B.1.2.2.2.2 gX6_readDrop_X6_nextToken rfl rfl rfl (by decide +kernel) ⟨Nat.le_of_ble_eq_true rfl, Nat.le_of_ble_eq_true rfl⟩) hc2 rfl rfl rfl rfl (Nat.le_of_ble_eq_true rfl) dX6_readDrop_1 ⟨Nat.le_of_ble_eq_true rfl, Nat.le_of_ble_eq_true rfl⟩ (fun r_1 Φ1 sz1 st1 hp1 hs1 => ?_)
  obtain ⟨⟨rfl, k_1, s_1, e_1, h_2, hT1⟩, hq1, hI1, hF1⟩ := hp1
  subst sz1
  replace hs1 : st1 = [] := hs1
  subst st1
  replace hI1 : In G x (ca) Φ1 := hI1
  replace hT1 : Tk (bA f n) nx k_1 s_1 e_1 := hT1
  have b_1 : nx ≤ s_1 := (Tk_ok hT1 (by omega)).1
  have b_2 : s_1 ≤ e_1 := (Tk_ok hT1 (by omega)).2.1
  have b_3 : e_1 ≤ n := (Tk_ok hT1 (by omega)).2.2.1
  have b_4 : k_1 ≤ 5 := (Tk_ok hT1 (by omega)).2.2.2.1
  refine z_aload_n B dX6_readDrop_4 rfl 0 rfl ?_
  refine z_ldcS (q := G.2.2.1 (6 + 1)) B B.2.2.2.2.1.2.2.2.2.2.2.2.2.2.2 dX6_readDrop_5 ?_
  have h_3 : Φ1 (x + 1) = some (o_ 7 [.ref (x + 2), .int (nI n)]) := ((hF1 (x + 1) fq_545).trans hc0)
  have h_4 : Φ1 (x + 2) = some (ab_ G 700 f) := ((hF1 (x + 2) fq_549).trans hc1)
  refine z_callV (As := [.ref (G.2.2.1 (6 + 1))]) (rest := []) B (s_X6_wordIn G l Φ1 sz x (ca) n f co po e_1 k_1 s_1 nu 1 hx hI1 h_3 h_4 h_2 (show 1 < 2 by omega) (show k_1 ≤ 5 by omega) (show s_1 ≤ e_1 by omega) (show e_1 ≤ n by omega) (show n ≤ 700 by omega)) (cwV 1 B.1.2.2.2.2 gX6_readDrop_X6_wordIn rfl rfl rfl (by decide +kernel) ⟨Nat.le_of_ble_eq_true rfl, Nat.le_of_ble_eq_true rfl⟩) h_2 rfl rfl rfl rfl (Nat.le_of_ble_eq_true rfl) dX6_readDrop_7 ⟨Nat.le_of_ble_eq_true rfl, Nat.le_of_ble_eq_true rfl⟩ (fun r_2 Φ2 sz2 st2 hp2 hs2 => ?_)
  obtain ⟨rfl, hq2, hI2, hF2⟩ := hp2
  subst sz2
  replace hs2 : st2 = [.int (wd (Lw 1) (bA f n) k_1 s_1 e_1)] := hs2
  subst st2
  replace hI2 : In G x (ca) Φ2 := hI2
  refine z_istore_n (lv' := [(1, .int (wd (Lw 1) (bA f n) k_1 s_1 e_1)), (0, .ref (x + 24))]) B dX6_readDrop_10 rfl (Nat.le_of_ble_eq_true rfl) rfl ?_
  refine z_iload_n B dX6_readDrop_11 rfl 0 rfl ?_
  refine z_iconst (v := (-1)) B dX6_readDrop_12 rfl ?_
  refine z_icmp_ne (tgt := 22) B dX6_readDrop_13 rfl (fun c_1 => ?_) (fun c_1 => ?_)
  · refine z_aload_n B dX6_readDrop_22 rfl 1 rfl ?_
    have h_5 : Φ2 (x + 24) = some (o_ 8 [.ref (x + 25), .int co, .int po, .ref (x + 1), .int (nI e_1), .int (nI k_1), .int (nI s_1), .int (nI nu)]) := ((hF2 (x + 24) (fun j9 h8 h7 => (show False from h7).elim)).trans h_2)
    refine z_get (ref := "FlowExporter$Parser") (C := RX6) (T := TX6) (N := 8) (ci := 8) (v := .ref (x + 25)) B hu_X6_readDrop_X6 rfl 0 (Nat.le_of_ble_eq_true rfl) hv_X6_readDrop_12 rfl h_5 rfl dX6_readDrop_23 ?_
    refine z_dup B dX6_readDrop_26 rfl ?_
    have h_6 : Φ2 (x + 25) = some (o_ 3 [.ref (x + 26), .ref (x + 27), .ref (x + 28), .ref (x + 29), .int (nI t), .int (c 9)]) := ((hF2 (x + 25) (fun j9 h8 h7 => (show False from h7).elim)).trans ((hF1 (x + 25) fq_578).trans h_1))
    refine z_get (ref := "FlowExporter$Config") (C := RX1) (T := TX1) (N := 6) (ci := 3) (v := .int (c 9)) B hu_X6_readDrop_X1 rfl 5 (Nat.le_of_ble_eq_true rfl) hv_X6_readDrop_115 rfl h_6 rfl dX6_readDrop_27 ?_
    refine z_iconst (v := 1) B dX6_readDrop_30 rfl ?_
    refine z_iload_n B dX6_readDrop_31 rfl 0 rfl ?_
    refine z_ishl B dX6_readDrop_32 ?_
    refine z_iconst (v := (-1)) B dX6_readDrop_33 rfl ?_
    refine z_ixor B dX6_readDrop_34 ?_
    refine z_iand B dX6_readDrop_35 ?_
    have hcg1 : CfP G x 25 t 4 c Φ2 := (CfP.fr (CfP.fr hcf0 hF1 (fun j9 h7 => by have h6 : j9 = 24 := h7; intros; omega)) hF2 (fun j9 h7 => (show False from h7).elim))
    refine z_put (ref := "FlowExporter$Config") (C := RX1) (T := TX1) (N := 6) (ci := 3) (v := .int ((c 9) &&& ((1 <<< ((wd (Lw 1) (bA f n) k_1 s_1 e_1) &&& 31)) ^^^ (-1)))) B hu_X6_readDrop_X1 tyX1 tyX1_ok nmX1 rfl 5 (Nat.le_of_ble_eq_true rfl) hv_X6_readDrop_115 rfl (Or.inl rfl) h_6 (Nat.le_trans hx (Nat.le_add_right x 25)) rfl rfl (Nat.le_of_ble_eq_true rfl) dX6_readDrop_36 (fun Φ3 hΦ1 => ?_)
    have h_7 : Φ3 (x + 25) = some (o_ 3 [.ref (x + 26), .ref (x + 27), .ref (x + 28), .ref (x + 29), .int (nI t), .int ((c 9) &&& ((1 <<< ((wd (Lw 1) (bA f n) k_1 s_1 e_1) &&& 31)) ^^^ (-1)))]) := fset_at hΦ1
    have hI3 : In G x (ca) Φ3 := In.put (k := 25) hI2 hΦ1 (ok3 (k := 25) rfl ⟨nI t, (c 9) &&& ((1 <<< ((wd (Lw 1) (bA f n) k_1 s_1 e_1) &&& 31)) ^^^ (-1)), rfl⟩)
    have hcg2 : CfP G x 25 t 4 (upd c 9 ((c 9) &&& ((1 <<< ((wd (Lw 1) (bA f n) k_1 s_1 e_1) &&& 31)) ^^^ (-1)))) Φ3 := CfP.sup (k := 25) hcg1 (drop_s hcg1.2.2.2.2.2.2 (wd_nat c_1)) hΦ1
    refine z_aload_n B dX6_readDrop_39 rfl 1 rfl ?_
    have h_8 : Φ3 (x + 1) = some (o_ 7 [.ref (x + 2), .int (nI n)]) := ((fset_fr hΦ1 (ne_off (x := x) (i := 1) (j := 25) rfl)).trans ((hF2 (x + 1) (fun j9 h8 h7 => (show False from h7).elim)).trans h_3))
    have h_9 : Φ3 (x + 2) = some (ab_ G 700 f) := ((fset_fr hΦ1 (ne_off (x := x) (i := 2) (j := 25) rfl)).trans ((hF2 (x + 2) (fun j9 h8 h7 => (show False from h7).elim)).trans h_4))
    have h_10 : Φ3 (x + 24) = some (o_ 8 [.ref (x + 25), .int co, .int po, .ref (x + 1), .int (nI e_1), .int (nI k_1), .int (nI s_1), .int (nI nu)]) := ((fset_fr hΦ1 (ne_off (x := x) (i := 24) (j := 25) rfl)).trans h_5)
    refine z_callV (As := []) (rest := []) B (s_X6_readSemicolon G l Φ3 sz x (ca) n f co po e_1 k_1 s_1 nu hx hI3 h_8 h_9 h_10 (show n ≤ 700 by omega) (show e_1 ≤ n by omega)) (cwV 0 B.1.2.2.2.2 gX6_readDrop_X6_readSemicolon rfl rfl rfl (by decide +kernel) ⟨Nat.le_of_ble_eq_true rfl, Nat.le_of_ble_eq_true rfl⟩) h_10 rfl rfl rfl rfl (Nat.le_of_ble_eq_true rfl) dX6_readDrop_40 ⟨Nat.le_of_ble_eq_true rfl, Nat.le_of_ble_eq_true rfl⟩ (fun r_3 Φ4 sz3 st3 hp3 hs3 => ?_)
    obtain ⟨ha1, hq3, hI4, hF3⟩ := hp3
    subst sz3
    replace hI4 : In G x (ca) Φ4 := hI4
    rcases ha1 with ⟨s_2, e_2, rfl, hN1, h_11, b_5, b_6, b_7⟩ | ⟨s_3, e_3, k_2, rfl, hN2, h_12⟩
    · replace hN1 : semi (bA f n) e_1 = (0, e_2) := hN1
      replace b_5 : e_1 < e_2 := b_5
      replace b_6 : e_2 ≤ n := b_6
      replace b_7 : s_2 ≤ e_2 := b_7
      replace hs3 : st3 = [.int 1] := hs3
      subst st3
      have hcg3 : CfP G x 25 t 4 (upd c 9 ((c 9) &&& ((1 <<< ((wd (Lw 1) (bA f n) k_1 s_1 e_1) &&& 31)) ^^^ (-1)))) Φ4 := (CfP.fr hcg2 hF3 (fun j9 h7 => by have h6 : j9 = 24 := h7; intros; omega))
      exact z_ret_z B dX6_readDrop_43 (by decide) ⟨(Or.inl ⟨e_2, 4, s_2, nu, t, (upd c 9 ((c 9) &&& ((1 <<< ((wd (Lw 1) (bA f n) k_1 s_1 e_1) &&& 31)) ^^^ (-1)))), rfl, (congrArg (endA (bA f n)) (drpA_0 hT1 rfl c_1)).trans (endA_0 hN1), h_11, by omega, by omega, by omega, by omega, by omega, hcg3⟩), rfl, hI4, (fun b9 h9 => ((hF3 b9 (fun j9 h8 h7 => h9 j9 h8 (fq_565 j9 h7))).trans ((fset_fr hΦ1 (fun h8 => h9 (25) h8 (show 24 ≤ 25 ∧ 25 < 46 by decide))).trans ((hF2 b9 (fun j9 h8 h7 => (show False from h7).elim)).trans ((hF1 b9 (fun j9 h8 h7 => h9 j9 h8 (fq_565 j9 h7))).trans rfl)))))⟩
    · replace hN2 : semi (bA f n) e_1 = (1, s_3) := hN2
      replace hs3 : st3 = [.int 0] := hs3
      subst st3
      exact z_ret_z B dX6_readDrop_43 (by decide) ⟨(Or.inr ⟨1, s_3, e_3, k_2, nu, _, rfl, (congrArg (endA (bA f n)) (drpA_0 hT1 rfl c_1)).trans (endA_0 hN2), by decide, h_12⟩), rfl, hI4, (fun b9 h9 => ((hF3 b9 (fun j9 h8 h7 => h9 j9 h8 (fq_565 j9 h7))).trans ((fset_fr hΦ1 (fun h8 => h9 (25) h8 (show 24 ≤ 25 ∧ 25 < 46 by decide))).trans ((hF2 b9 (fun j9 h8 h7 => (show False from h7).elim)).trans ((hF1 b9 (fun j9 h8 h7 => h9 j9 h8 (fq_565 j9 h7))).trans rfl)))))⟩
  · refine z_aload_n B dX6_readDrop_16 rfl 1 rfl ?_
    refine z_iconst (v := 1) B dX6_readDrop_17 rfl ?_
    have h_13 : Φ2 (x + 24) = some (o_ 8 [.ref (x + 25), .int co, .int po, .ref (x + 1), .int (nI e_1), .int (nI k_1), .int (nI s_1), .int (nI nu)]) := ((hF2 (x + 24) (fun j9 h8 h7 => (show False from h7).elim)).trans h_2)
    refine z_callV (As := [.int 1]) (rest := []) B (s_X6_fail G l Φ2 sz x (ca) co po e_1 k_1 s_1 nu 1 hx hI2 h_13) (cwV 1 B.1.2.2.2.2 gX6_readDrop_X6_fail rfl rfl rfl (by decide +kernel) ⟨Nat.le_of_ble_eq_true rfl, Nat.le_of_ble_eq_true rfl⟩) h_13 rfl rfl rfl rfl (Nat.le_of_ble_eq_true rfl) dX6_readDrop_18 ⟨Nat.le_of_ble_eq_true rfl, Nat.le_of_ble_eq_true rfl⟩ (fun r_4 Φ5 sz4 st4 hp4 hs4 => ?_)
    obtain ⟨⟨rfl, h_14⟩, hq4, hI5, hF4⟩ := hp4
    subst sz4
    replace hs4 : st4 = [.int 0] := hs4
    subst st4
    replace hI5 : In G x (ca) Φ5 := hI5
    exact z_ret_z B dX6_readDrop_21 (by decide) ⟨(Or.inr ⟨1, s_1, e_1, k_1, nu, c, rfl, (congrArg (endA (bA f n)) (drpA_1 hT1 c_1)).trans (endA_e (by decide)), by decide, h_14⟩), rfl, hI5, (fun b9 h9 => ((hF4 b9 (fun j9 h8 h7 => h9 j9 h8 (fq_565 j9 h7))).trans ((hF2 b9 (fun j9 h8 h7 => (show False from h7).elim)).trans ((hF1 b9 (fun j9 h8 h7 => h9 j9 h8 (fq_565 j9 h7))).trans rfl))))⟩

set_option maxHeartbeats 4000000 in
set_option maxRecDepth 100000 in
theorem s_X6_readStatement (G : EnvG) (l : Launch) (Φ : Hm) (sz x ca : Nat) (n : Nat) (f : Nat → Int32) (co : Int32) (po : Int32) (nx : Nat) (ki : Nat) (sa : Nat) (nu : Nat) (t : Nat) (c : Cf) (hx : G.2.2.2 ≤ x) (hI : In G x ca Φ) (hc0 : Φ (x + 1) = some (o_ 7 [.ref (x + 2), .int (nI n)])) (hc1 : Φ (x + 2) = some (ab_ G 700 f)) (hc2 : Φ (x + 24) = some (o_ 8 [.ref (x + 25), .int co, .int po, .ref (x + 1), .int (nI nx), .int (nI ki), .int (nI sa), .int (nI nu)])) (hcf0 : CfP G x 25 t 4 c Φ) (hn : n ≤ 700) (hnx : nx ≤ n) (hsx : sa ≤ nx) (hki : ki ≤ 5) (ht : t ≤ 4) : Ct G l yX6_readStatement wsX6_readStatement ({ frames := 7, cells := 0, slots := 0, locals := 156 }) 0 0 [.ref (x + 24)] Φ sz (fun v Φ1 sz1 => ((∃ (e8 k8 s8 u8 t8 : Nat) (c8 : Cf), v = some (.int 1) ∧ stK (bA f n) ki sa nx c = (0, e8, c8) ∧ Φ1 (x + 24) = some (o_ 8 [.ref (x + 25), .int co, .int po, .ref (x + 1), .int (nI e8), .int (nI k8), .int (nI s8), .int (nI u8)]) ∧ nx < e8 ∧ s8 ≤ e8 ∧ e8 ≤ n ∧ k8 ≤ 5 ∧ t8 ≤ 4 ∧ CfP G x 25 t8 4 c8 Φ1) ∨ (∃ (er8 s8 e8 k8 u8 : Nat) (c8 : Cf), v = some (.int 0) ∧ stK (bA f n) ki sa nx c = (er8, s8, c8) ∧ ¬ er8 = 0 ∧ Φ1 (x + 24) = some (o_ 8 [.ref (x + 25), .int (nI er8), .int (nI s8), .ref (x + 1), .int (nI e8), .int (nI k8), .int (nI s8), .int (nI u8)]))) ∧ sz1 = sz ∧ In G x (ca) Φ1 ∧ Fr x (fun j9 => 24 ≤ j9 ∧ j9 < 46) Φ Φ1) := by
  refine Ct.of (cc := cX6_readStatement) (maxL := 2) (ret := (some .boolean)) (by decide) rfl (Nat.le_of_ble_eq_true rfl) ?_
  intro p9 e9 s9 m9 w9 t9 k9 B
  show Z p9 l e9 _ s9 m9 _ w9 t9 k9 _ G 2 0 [(0, .ref (x + 24))] [] Φ sz 0 0
  refine z_aload_n B dX6_readStatement_0 rfl 0 rfl ?_
  refine z_ldcS (q := G.2.2.1 (6 + 0)) B B.2.2.2.2.1.2.2.2.2.2.2.2.2.2.1 dX6_readStatement_1 ?_
  refine z_callV (As := [.ref (G.2.2.1 (6 + 0))]) (rest := []) B (s_X6_wordIn G l Φ sz x (ca) n f co po nx ki sa nu 0 hx hI hc0 hc1 hc2 (show 0 < 2 by omega) (show ki ≤ 5 by omega) (show sa ≤ nx by omega) (show nx ≤ n by omega) (show n ≤ 700 by omega)) (cwV 1 B.1.2.2.2.2 gX6_readStatement_X6_wordIn rfl rfl rfl (by decide +kernel) ⟨Nat.le_of_ble_eq_true rfl, Nat.le_of_ble_eq_true rfl⟩) hc2 rfl rfl rfl rfl (Nat.le_of_ble_eq_true rfl) dX6_readStatement_3 ⟨Nat.le_of_ble_eq_true rfl, Nat.le_of_ble_eq_true rfl⟩ (fun r_1 Φ1 sz1 st1 hp1 hs1 => ?_)
  obtain ⟨rfl, hq1, hI1, hF1⟩ := hp1
  subst sz1
  replace hs1 : st1 = [.int (wd (Lw 0) (bA f n) ki sa nx)] := hs1
  subst st1
  replace hI1 : In G x (ca) Φ1 := hI1
  refine z_istore_n (lv' := [(1, .int (wd (Lw 0) (bA f n) ki sa nx)), (0, .ref (x + 24))]) B dX6_readStatement_6 rfl (Nat.le_of_ble_eq_true rfl) rfl ?_
  refine z_iload_n B dX6_readStatement_7 rfl 0 rfl ?_
  refine z_iconst (v := (-1)) B dX6_readStatement_8 rfl ?_
  refine z_icmp_ne (tgt := 18) B dX6_readStatement_9 rfl (fun c_1 => ?_) (fun c_1 => ?_)
  · obtain ⟨n_1, b_1, e_1⟩ := wd_nat c_1
    replace b_1 : n_1 < 12 := b_1
    refine z_iload_n B dX6_readStatement_18 rfl 0 rfl ?_
    refine z_top (st1 := [.int (nI n_1)]) (congrArg (fun w9 : Int32 => ([.int w9] : List Value)) (e_1)) ?_
    refine z_bipush (v := 9) B dX6_readStatement_19 rfl ?_
    refine z_icmp_ne (tgt := 29) B dX6_readStatement_21 rfl (fun c_2 => ?_) (fun c_2 => ?_)
    · have e_2 : ¬ (n_1 = 9) := fun h9 => c_2 ((nI_eq (a := n_1) (b := 9) (by omega) (by omega)).mpr h9)
      refine z_iload_n B dX6_readStatement_29 rfl 0 rfl ?_
      refine z_top (st1 := [.int (nI n_1)]) (congrArg (fun w9 : Int32 => ([.int w9] : List Value)) (e_1)) ?_
      refine z_bipush (v := 10) B dX6_readStatement_30 rfl ?_
      refine z_icmp_ne (tgt := 40) B dX6_readStatement_32 rfl (fun c_3 => ?_) (fun c_3 => ?_)
      · have e_3 : ¬ (n_1 = 10) := fun h9 => c_3 ((nI_eq (a := n_1) (b := 10) (by omega) (by omega)).mpr h9)
        refine z_iload_n B dX6_readStatement_40 rfl 0 rfl ?_
        refine z_top (st1 := [.int (nI n_1)]) (congrArg (fun w9 : Int32 => ([.int w9] : List Value)) (e_1)) ?_
        refine z_bipush (v := 11) B dX6_readStatement_41 rfl ?_
        refine z_icmp_ne (tgt := 51) B dX6_readStatement_43 rfl (fun c_4 => ?_) (fun c_4 => ?_)
        · have e_4 : ¬ (n_1 = 11) := fun h9 => c_4 ((nI_eq (a := n_1) (b := 11) (by omega) (by omega)).mpr h9)
          refine z_aload_n B dX6_readStatement_51 rfl 1 rfl ?_
          refine z_iload_n B dX6_readStatement_52 rfl 0 rfl ?_
          refine z_top (st1 := [.int (nI n_1), .ref (x + 24)]) (congrArg (fun w9 : Int32 => ([.int w9, .ref (x + 24)] : List Value)) (e_1)) ?_
          have h_1 : Φ1 (x + 1) = some (o_ 7 [.ref (x + 2), .int (nI n)]) := ((hF1 (x + 1) (fun j9 h8 h7 => (show False from h7).elim)).trans hc0)
          have h_2 : Φ1 (x + 2) = some (ab_ G 700 f) := ((hF1 (x + 2) (fun j9 h8 h7 => (show False from h7).elim)).trans hc1)
          have h_3 : Φ1 (x + 24) = some (o_ 8 [.ref (x + 25), .int co, .int po, .ref (x + 1), .int (nI nx), .int (nI ki), .int (nI sa), .int (nI nu)]) := ((hF1 (x + 24) (fun j9 h8 h7 => (show False from h7).elim)).trans hc2)
          have hcg1 : CfP G x 25 t 4 c Φ1 := (CfP.fr hcf0 hF1 (fun j9 h7 => (show False from h7).elim))
          refine z_callV (As := [.int (nI n_1)]) (rest := []) B (s_X6_readSetting G l Φ1 sz x (ca) n f co po nx ki sa nu t c n_1 hx hI1 h_1 h_2 h_3 hcg1 (show n ≤ 700 by omega) (show nx ≤ n by omega) (show sa ≤ nx by omega) (show ki ≤ 5 by omega) (show t ≤ 4 by omega) (show n_1 < 9 by omega)) (cwV 1 B.1.2.2.2.2 gX6_readStatement_X6_readSetting rfl rfl rfl (by decide +kernel) ⟨Nat.le_of_ble_eq_true rfl, Nat.le_of_ble_eq_true rfl⟩) h_3 rfl rfl rfl rfl (Nat.le_of_ble_eq_true rfl) dX6_readStatement_53 ⟨Nat.le_of_ble_eq_true rfl, Nat.le_of_ble_eq_true rfl⟩ (fun r_2 Φ2 sz2 st2 hp2 hs2 => ?_)
          obtain ⟨ha1, hq2, hI2, hF2⟩ := hp2
          subst sz2
          replace hI2 : In G x (ca) Φ2 := hI2
          rcases ha1 with ⟨e_5, k_1, s_1, u_1, t_1, c_5, rfl, hN1, h_4, b_2, b_3, b_4, b_6, b_5, hp3⟩ | ⟨er_1, s_2, e_6, k_2, u_2, c_6, rfl, hN2, he1, h_5⟩
          · replace hN1 : setA (bA f n) nx n_1 c = (0, e_5, c_5) := hN1
            replace b_2 : nx < e_5 := b_2
            replace b_4 : e_5 ≤ n := b_4
            replace b_3 : s_1 ≤ e_5 := b_3
            replace b_6 : k_1 ≤ 5 := b_6
            replace hs2 : st2 = [.int 1] := hs2
            subst st2
            refine z_if_eq (tgt := 72) B dX6_readStatement_56 rfl (fun h9 => absurd h9 (by decide)) (fun c_7 => ?_)
            refine z_iload_n B dX6_readStatement_59 rfl 0 rfl ?_
            refine z_top (st1 := [.int (nI n_1)]) (congrArg (fun w9 : Int32 => ([.int w9] : List Value)) (e_1)) ?_
            refine z_iconst (v := 4) B dX6_readStatement_60 rfl ?_
            refine z_icmp_ne (tgt := 74) B dX6_readStatement_61 rfl (fun c_8 => ?_) (fun c_8 => ?_)
            · have e_7 : ¬ (n_1 = 4) := fun h9 => c_8 ((nI_eq (a := n_1) (b := 4) (by omega) (by omega)).mpr h9)
              refine z_aload_n B dX6_readStatement_74 rfl 1 rfl ?_
              have h_6 : Φ2 (x + 1) = some (o_ 7 [.ref (x + 2), .int (nI n)]) := ((hF2 (x + 1) fq_575).trans h_1)
              have h_7 : Φ2 (x + 2) = some (ab_ G 700 f) := ((hF2 (x + 2) fq_576).trans h_2)
              refine z_callV (As := []) (rest := []) B (s_X6_readSemicolon G l Φ2 sz x (ca) n f co po e_5 k_1 s_1 u_1 hx hI2 h_6 h_7 h_4 (show n ≤ 700 by omega) (show e_5 ≤ n by omega)) (cwV 0 B.1.2.2.2.2 gX6_readStatement_X6_readSemicolon rfl rfl rfl (by decide +kernel) ⟨Nat.le_of_ble_eq_true rfl, Nat.le_of_ble_eq_true rfl⟩) h_4 rfl rfl rfl rfl (Nat.le_of_ble_eq_true rfl) dX6_readStatement_75 ⟨Nat.le_of_ble_eq_true rfl, Nat.le_of_ble_eq_true rfl⟩ (fun r_3 Φ3 sz3 st3 hp4 hs3 => ?_)
              obtain ⟨ha2, hq3, hI3, hF3⟩ := hp4
              subst sz3
              replace hI3 : In G x (ca) Φ3 := hI3
              rcases ha2 with ⟨s_3, e_8, rfl, hN3, h_8, b_7, b_8, b_9⟩ | ⟨s_4, e_9, k_3, rfl, hN4, h_9⟩
              · replace hN3 : semi (bA f n) e_5 = (0, e_8) := hN3
                replace b_7 : e_5 < e_8 := b_7
                replace b_8 : e_8 ≤ n := b_8
                replace b_9 : s_3 ≤ e_8 := b_9
                replace hs3 : st3 = [.int 1] := hs3
                subst st3
                have hcg2 : CfP G x 25 t_1 4 c_5 Φ3 := (CfP.fr hp3 hF3 (fun j9 h7 => by have h6 : j9 = 24 := h7; intros; omega))
                exact z_ret_z B dX6_readStatement_78 (by decide) ⟨(Or.inl ⟨e_8, 4, s_3, u_1, t_1, c_5, rfl, (stK_s e_1 (by omega) (by omega)).trans ((congrArg (endA (bA f n)) hN1).trans (endA_0 hN3)), h_8, by omega, by omega, by omega, by omega, by omega, hcg2⟩), rfl, hI3, (fun b9 h9 => ((hF3 b9 (fun j9 h8 h7 => h9 j9 h8 (fq_565 j9 h7))).trans ((hF2 b9 h9).trans ((hF1 b9 (fun j9 h8 h7 => (show False from h7).elim)).trans rfl))))⟩
              · replace hN4 : semi (bA f n) e_5 = (1, s_4) := hN4
                replace hs3 : st3 = [.int 0] := hs3
                subst st3
                exact z_ret_z B dX6_readStatement_78 (by decide) ⟨(Or.inr ⟨1, s_4, e_9, k_3, u_1, c_5, rfl, (stK_s e_1 (by omega) (by omega)).trans ((congrArg (endA (bA f n)) hN1).trans (endA_0 hN4)), by decide, h_9⟩), rfl, hI3, (fun b9 h9 => ((hF3 b9 (fun j9 h8 h7 => h9 j9 h8 (fq_565 j9 h7))).trans ((hF2 b9 h9).trans ((hF1 b9 (fun j9 h8 h7 => (show False from h7).elim)).trans rfl))))⟩
            · have e_10 : n_1 = 4 := (nI_eq (a := n_1) (b := 4) (by omega) (by omega)).mp c_8
              refine z_aload_n B dX6_readStatement_64 rfl 1 rfl ?_
              refine z_iconst (v := 5) B dX6_readStatement_65 rfl ?_
              have h_10 : Φ2 (x + 1) = some (o_ 7 [.ref (x + 2), .int (nI n)]) := ((hF2 (x + 1) fq_575).trans h_1)
              have h_11 : Φ2 (x + 2) = some (ab_ G 700 f) := ((hF2 (x + 2) fq_576).trans h_2)
              refine z_callV (As := [.int 5]) (rest := []) B (s_X6_readSetting G l Φ2 sz x (ca) n f co po e_5 k_1 s_1 u_1 t_1 c_5 5 hx hI2 h_10 h_11 h_4 hp3 (show n ≤ 700 by omega) (show e_5 ≤ n by omega) (show s_1 ≤ e_5 by omega) (show k_1 ≤ 5 by omega) (show t_1 ≤ 4 by omega) (show 5 < 9 by omega)) (cwV 1 B.1.2.2.2.2 gX6_readStatement_X6_readSetting rfl rfl rfl (by decide +kernel) ⟨Nat.le_of_ble_eq_true rfl, Nat.le_of_ble_eq_true rfl⟩) h_4 rfl rfl rfl rfl (Nat.le_of_ble_eq_true rfl) dX6_readStatement_66 ⟨Nat.le_of_ble_eq_true rfl, Nat.le_of_ble_eq_true rfl⟩ (fun r_4 Φ4 sz4 st4 hp5 hs4 => ?_)
              obtain ⟨ha3, hq4, hI4, hF4⟩ := hp5
              subst sz4
              replace hI4 : In G x (ca) Φ4 := hI4
              rcases ha3 with ⟨e_11, k_4, s_5, u_3, t_2, c_9, rfl, hN5, h_12, b_10, b_11, b_12, b_14, b_13, hp6⟩ | ⟨er_2, s_6, e_12, k_5, u_4, c_10, rfl, hN6, he2, h_13⟩
              · replace hN5 : setA (bA f n) e_5 5 c_5 = (0, e_11, c_9) := hN5
                replace b_10 : e_5 < e_11 := b_10
                replace b_12 : e_11 ≤ n := b_12
                replace b_11 : s_5 ≤ e_11 := b_11
                replace b_14 : k_4 ≤ 5 := b_14
                replace hs4 : st4 = [.int 1] := hs4
                subst st4
                refine z_if_ne (tgt := 74) B dX6_readStatement_69 rfl (fun c_11 => ?_) (fun h9 => absurd h9 (by decide))
                refine z_aload_n B dX6_readStatement_74 rfl 1 rfl ?_
                have h_14 : Φ4 (x + 1) = some (o_ 7 [.ref (x + 2), .int (nI n)]) := ((hF4 (x + 1) fq_575).trans h_10)
                have h_15 : Φ4 (x + 2) = some (ab_ G 700 f) := ((hF4 (x + 2) fq_576).trans h_11)
                refine z_callV (As := []) (rest := []) B (s_X6_readSemicolon G l Φ4 sz x (ca) n f co po e_11 k_4 s_5 u_3 hx hI4 h_14 h_15 h_12 (show n ≤ 700 by omega) (show e_11 ≤ n by omega)) (cwV 0 B.1.2.2.2.2 gX6_readStatement_X6_readSemicolon rfl rfl rfl (by decide +kernel) ⟨Nat.le_of_ble_eq_true rfl, Nat.le_of_ble_eq_true rfl⟩) h_12 rfl rfl rfl rfl (Nat.le_of_ble_eq_true rfl) dX6_readStatement_75 ⟨Nat.le_of_ble_eq_true rfl, Nat.le_of_ble_eq_true rfl⟩ (fun r_5 Φ5 sz5 st5 hp7 hs5 => ?_)
                obtain ⟨ha4, hq5, hI5, hF5⟩ := hp7
                subst sz5
                replace hI5 : In G x (ca) Φ5 := hI5
                rcases ha4 with ⟨s_7, e_13, rfl, hN7, h_16, b_15, b_16, b_17⟩ | ⟨s_8, e_14, k_6, rfl, hN8, h_17⟩
                · replace hN7 : semi (bA f n) e_11 = (0, e_13) := hN7
                  replace b_15 : e_11 < e_13 := b_15
                  replace b_16 : e_13 ≤ n := b_16
                  replace b_17 : s_7 ≤ e_13 := b_17
                  replace hs5 : st5 = [.int 1] := hs5
                  subst st5
                  have hcg3 : CfP G x 25 t_2 4 c_9 Φ5 := (CfP.fr hp6 hF5 (fun j9 h7 => by have h6 : j9 = 24 := h7; intros; omega))
                  exact z_ret_z B dX6_readStatement_78 (by decide) ⟨(Or.inl ⟨e_13, 4, s_7, u_3, t_2, c_9, rfl, (stK_r (e_1.trans (congrArg nI (show n_1 = 4 by omega)))).trans ((congrArg (endA (bA f n)) (refA_0 ((show n_1 = 4 by omega) ▸ hN1) hN5)).trans (endA_0 hN7)), h_16, by omega, by omega, by omega, by omega, by omega, hcg3⟩), rfl, hI5, (fun b9 h9 => ((hF5 b9 (fun j9 h8 h7 => h9 j9 h8 (fq_565 j9 h7))).trans ((hF4 b9 h9).trans ((hF2 b9 h9).trans ((hF1 b9 (fun j9 h8 h7 => (show False from h7).elim)).trans rfl)))))⟩
                · replace hN8 : semi (bA f n) e_11 = (1, s_8) := hN8
                  replace hs5 : st5 = [.int 0] := hs5
                  subst st5
                  exact z_ret_z B dX6_readStatement_78 (by decide) ⟨(Or.inr ⟨1, s_8, e_14, k_6, u_3, c_9, rfl, (stK_r (e_1.trans (congrArg nI (show n_1 = 4 by omega)))).trans ((congrArg (endA (bA f n)) (refA_0 ((show n_1 = 4 by omega) ▸ hN1) hN5)).trans (endA_0 hN8)), by decide, h_17⟩), rfl, hI5, (fun b9 h9 => ((hF5 b9 (fun j9 h8 h7 => h9 j9 h8 (fq_565 j9 h7))).trans ((hF4 b9 h9).trans ((hF2 b9 h9).trans ((hF1 b9 (fun j9 h8 h7 => (show False from h7).elim)).trans rfl)))))⟩
              · replace hN6 : setA (bA f n) e_5 5 c_5 = (er_2, s_6, c_10) := hN6
                replace hs4 : st4 = [.int 0] := hs4
                subst st4
                refine z_if_ne (tgt := 74) B dX6_readStatement_69 rfl (fun h9 => absurd (by decide) h9) (fun c_12 => ?_)
                refine z_iconst (v := 0) B dX6_readStatement_72 rfl ?_
                exact z_ret_z B dX6_readStatement_73 (by decide) ⟨(Or.inr ⟨er_2, s_6, e_12, k_5, u_4, c_10, rfl, (stK_r (e_1.trans (congrArg nI (show n_1 = 4 by omega)))).trans ((congrArg (endA (bA f n)) (refA_0 ((show n_1 = 4 by omega) ▸ hN1) hN6)).trans (endA_e he2)), he2, h_13⟩), rfl, hI4, (fun b9 h9 => ((hF4 b9 h9).trans ((hF2 b9 h9).trans ((hF1 b9 (fun j9 h8 h7 => (show False from h7).elim)).trans rfl))))⟩
          · replace hN2 : setA (bA f n) nx n_1 c = (er_1, s_2, c_6) := hN2
            replace hs2 : st2 = [.int 0] := hs2
            subst st2
            refine z_if_eq (tgt := 72) B dX6_readStatement_56 rfl (fun c_13 => ?_) (fun h9 => absurd (by decide) h9)
            refine z_iconst (v := 0) B dX6_readStatement_72 rfl ?_
            exact z_ret_z B dX6_readStatement_73 (by decide) ⟨(Or.inr ⟨er_1, s_2, e_6, k_2, u_2, c_6, rfl, stK_f e_1 (by omega) hN2 he1, he1, h_5⟩), rfl, hI2, (fun b9 h9 => ((hF2 b9 h9).trans ((hF1 b9 (fun j9 h8 h7 => (show False from h7).elim)).trans rfl)))⟩
        · have e_15 : n_1 = 11 := (nI_eq (a := n_1) (b := 11) (by omega) (by omega)).mp c_4
          refine z_aload_n B dX6_readStatement_46 rfl 1 rfl ?_
          have h_18 : Φ1 (x + 1) = some (o_ 7 [.ref (x + 2), .int (nI n)]) := ((hF1 (x + 1) (fun j9 h8 h7 => (show False from h7).elim)).trans hc0)
          have h_19 : Φ1 (x + 2) = some (ab_ G 700 f) := ((hF1 (x + 2) (fun j9 h8 h7 => (show False from h7).elim)).trans hc1)
          have h_20 : Φ1 (x + 24) = some (o_ 8 [.ref (x + 25), .int co, .int po, .ref (x + 1), .int (nI nx), .int (nI ki), .int (nI sa), .int (nI nu)]) := ((hF1 (x + 24) (fun j9 h8 h7 => (show False from h7).elim)).trans hc2)
          have hcg4 : CfP G x 25 t 4 c Φ1 := (CfP.fr hcf0 hF1 (fun j9 h7 => (show False from h7).elim))
          refine z_callV (As := []) (rest := []) B (s_X6_readDrop G l Φ1 sz x (ca) n f co po nx ki sa nu t c hx hI1 h_18 h_19 h_20 hcg4 (show n ≤ 700 by omega) (show nx ≤ n by omega) (show sa ≤ nx by omega) (show ki ≤ 5 by omega) (show t ≤ 4 by omega)) (cwV 0 B.1.2.2.2.2 gX6_readStatement_X6_readDrop rfl rfl rfl (by decide +kernel) ⟨Nat.le_of_ble_eq_true rfl, Nat.le_of_ble_eq_true rfl⟩) h_20 rfl rfl rfl rfl (Nat.le_of_ble_eq_true rfl) dX6_readStatement_47 ⟨Nat.le_of_ble_eq_true rfl, Nat.le_of_ble_eq_true rfl⟩ (fun r_6 Φ6 sz6 st6 hp8 hs6 => ?_)
          obtain ⟨ha5, hq6, hI6, hF6⟩ := hp8
          subst sz6
          replace hI6 : In G x (ca) Φ6 := hI6
          rcases ha5 with ⟨e_16, k_7, s_9, u_5, t_3, c_14, rfl, hN9, h_21, b_18, b_19, b_20, b_22, b_21, hp9⟩ | ⟨er_3, s_10, e_17, k_8, u_6, c_15, rfl, hN10, he3, h_22⟩
          · replace hN9 : endA (bA f n) (drpA (bA f n) nx c) = (0, e_16, c_14) := hN9
            replace b_18 : nx < e_16 := b_18
            replace b_20 : e_16 ≤ n := b_20
            replace b_19 : s_9 ≤ e_16 := b_19
            replace b_22 : k_7 ≤ 5 := b_22
            replace hs6 : st6 = [.int 1] := hs6
            subst st6
            exact z_ret_z B dX6_readStatement_50 (by decide) ⟨(Or.inl ⟨e_16, k_7, s_9, u_5, t_3, c_14, rfl, (stK_d (e_1.trans (congrArg nI (show n_1 = 11 by omega)))).trans hN9, h_21, by omega, by omega, by omega, by omega, by omega, hp9⟩), rfl, hI6, (fun b9 h9 => ((hF6 b9 h9).trans ((hF1 b9 (fun j9 h8 h7 => (show False from h7).elim)).trans rfl)))⟩
          · replace hN10 : endA (bA f n) (drpA (bA f n) nx c) = (er_3, s_10, c_15) := hN10
            replace hs6 : st6 = [.int 0] := hs6
            subst st6
            exact z_ret_z B dX6_readStatement_50 (by decide) ⟨(Or.inr ⟨er_3, s_10, e_17, k_8, u_6, c_15, rfl, (stK_d (e_1.trans (congrArg nI (show n_1 = 11 by omega)))).trans hN10, he3, h_22⟩), rfl, hI6, (fun b9 h9 => ((hF6 b9 h9).trans ((hF1 b9 (fun j9 h8 h7 => (show False from h7).elim)).trans rfl)))⟩
      · have e_18 : n_1 = 10 := (nI_eq (a := n_1) (b := 10) (by omega) (by omega)).mp c_3
        refine z_aload_n B dX6_readStatement_35 rfl 1 rfl ?_
        have h_23 : Φ1 (x + 1) = some (o_ 7 [.ref (x + 2), .int (nI n)]) := ((hF1 (x + 1) (fun j9 h8 h7 => (show False from h7).elim)).trans hc0)
        have h_24 : Φ1 (x + 2) = some (ab_ G 700 f) := ((hF1 (x + 2) (fun j9 h8 h7 => (show False from h7).elim)).trans hc1)
        have h_25 : Φ1 (x + 24) = some (o_ 8 [.ref (x + 25), .int co, .int po, .ref (x + 1), .int (nI nx), .int (nI ki), .int (nI sa), .int (nI nu)]) := ((hF1 (x + 24) (fun j9 h8 h7 => (show False from h7).elim)).trans hc2)
        have hcg5 : CfP G x 25 t 4 c Φ1 := (CfP.fr hcf0 hF1 (fun j9 h7 => (show False from h7).elim))
        refine z_callV (As := []) (rest := []) B (s_X6_readUse G l Φ1 sz x (ca) n f co po nx ki sa nu t c hx hI1 h_23 h_24 h_25 hcg5 (show n ≤ 700 by omega) (show nx ≤ n by omega) (show sa ≤ nx by omega) (show ki ≤ 5 by omega) (show t ≤ 4 by omega)) (cwV 0 B.1.2.2.2.2 gX6_readStatement_X6_readUse rfl rfl rfl (by decide +kernel) ⟨Nat.le_of_ble_eq_true rfl, Nat.le_of_ble_eq_true rfl⟩) h_25 rfl rfl rfl rfl (Nat.le_of_ble_eq_true rfl) dX6_readStatement_36 ⟨Nat.le_of_ble_eq_true rfl, Nat.le_of_ble_eq_true rfl⟩ (fun r_7 Φ7 sz7 st7 hp10 hs7 => ?_)
        obtain ⟨ha6, hq7, hI7, hF7⟩ := hp10
        subst sz7
        replace hI7 : In G x (ca) Φ7 := hI7
        rcases ha6 with ⟨e_19, k_9, s_11, u_7, t_4, c_16, rfl, hN11, h_26, b_23, b_24, b_25, b_27, b_26, hp11⟩ | ⟨er_4, s_12, e_20, k_10, u_8, c_17, rfl, hN12, he4, h_27⟩
        · replace hN11 : endA (bA f n) (useA (bA f n) nx c) = (0, e_19, c_16) := hN11
          replace b_23 : nx < e_19 := b_23
          replace b_25 : e_19 ≤ n := b_25
          replace b_24 : s_11 ≤ e_19 := b_24
          replace b_27 : k_9 ≤ 5 := b_27
          replace hs7 : st7 = [.int 1] := hs7
          subst st7
          exact z_ret_z B dX6_readStatement_39 (by decide) ⟨(Or.inl ⟨e_19, k_9, s_11, u_7, t_4, c_16, rfl, (stK_u (e_1.trans (congrArg nI (show n_1 = 10 by omega)))).trans hN11, h_26, by omega, by omega, by omega, by omega, by omega, hp11⟩), rfl, hI7, (fun b9 h9 => ((hF7 b9 h9).trans ((hF1 b9 (fun j9 h8 h7 => (show False from h7).elim)).trans rfl)))⟩
        · replace hN12 : endA (bA f n) (useA (bA f n) nx c) = (er_4, s_12, c_17) := hN12
          replace hs7 : st7 = [.int 0] := hs7
          subst st7
          exact z_ret_z B dX6_readStatement_39 (by decide) ⟨(Or.inr ⟨er_4, s_12, e_20, k_10, u_8, c_17, rfl, (stK_u (e_1.trans (congrArg nI (show n_1 = 10 by omega)))).trans hN12, he4, h_27⟩), rfl, hI7, (fun b9 h9 => ((hF7 b9 h9).trans ((hF1 b9 (fun j9 h8 h7 => (show False from h7).elim)).trans rfl)))⟩
    · have e_21 : n_1 = 9 := (nI_eq (a := n_1) (b := 9) (by omega) (by omega)).mp c_2
      refine z_aload_n B dX6_readStatement_24 rfl 1 rfl ?_
      have h_28 : Φ1 (x + 1) = some (o_ 7 [.ref (x + 2), .int (nI n)]) := ((hF1 (x + 1) (fun j9 h8 h7 => (show False from h7).elim)).trans hc0)
      have h_29 : Φ1 (x + 2) = some (ab_ G 700 f) := ((hF1 (x + 2) (fun j9 h8 h7 => (show False from h7).elim)).trans hc1)
      have h_30 : Φ1 (x + 24) = some (o_ 8 [.ref (x + 25), .int co, .int po, .ref (x + 1), .int (nI nx), .int (nI ki), .int (nI sa), .int (nI nu)]) := ((hF1 (x + 24) (fun j9 h8 h7 => (show False from h7).elim)).trans hc2)
      have hcg6 : CfP G x 25 t 4 c Φ1 := (CfP.fr hcf0 hF1 (fun j9 h7 => (show False from h7).elim))
      refine z_callV (As := []) (rest := []) B (s_X6_readTemplate G l Φ1 sz x (ca) n f co po nx ki sa nu t c hx hI1 h_28 h_29 h_30 hcg6 (show n ≤ 700 by omega) (show nx ≤ n by omega) (show sa ≤ nx by omega) (show ki ≤ 5 by omega) (show t ≤ 4 by omega)) (cwV 0 B.1.2.2.2.2 gX6_readStatement_X6_readTemplate rfl rfl rfl (by decide +kernel) ⟨Nat.le_of_ble_eq_true rfl, Nat.le_of_ble_eq_true rfl⟩) h_30 rfl rfl rfl rfl (Nat.le_of_ble_eq_true rfl) dX6_readStatement_25 ⟨Nat.le_of_ble_eq_true rfl, Nat.le_of_ble_eq_true rfl⟩ (fun r_8 Φ8 sz8 st8 hp12 hs8 => ?_)
      obtain ⟨ha7, hq8, hI8, hF8⟩ := hp12
      subst sz8
      replace hI8 : In G x (ca) Φ8 := hI8
      rcases ha7 with ⟨e_22, k_11, s_13, u_9, t_5, c_18, rfl, hN13, h_31, b_28, b_29, b_30, b_32, b_31, hp13⟩ | ⟨er_5, s_14, e_23, k_12, u_10, c_19, rfl, hN14, he5, h_32⟩
      · replace hN13 : (if c 10 = 4 then (4, sa, c) else tplA (bA f n) 10 nx c 0 0) = (0, e_22, c_18) := hN13
        replace b_28 : nx < e_22 := b_28
        replace b_30 : e_22 ≤ n := b_30
        replace b_29 : s_13 ≤ e_22 := b_29
        replace b_32 : k_11 ≤ 5 := b_32
        replace hs8 : st8 = [.int 1] := hs8
        subst st8
        exact z_ret_z B dX6_readStatement_28 (by decide) ⟨(Or.inl ⟨e_22, k_11, s_13, u_9, t_5, c_18, rfl, stK_t (e_1.trans (congrArg nI (show n_1 = 9 by omega))) hN13, h_31, by omega, by omega, by omega, by omega, by omega, hp13⟩), rfl, hI8, (fun b9 h9 => ((hF8 b9 h9).trans ((hF1 b9 (fun j9 h8 h7 => (show False from h7).elim)).trans rfl)))⟩
      · replace hN14 : (if c 10 = 4 then (4, sa, c) else tplA (bA f n) 10 nx c 0 0) = (er_5, s_14, c_19) := hN14
        replace hs8 : st8 = [.int 0] := hs8
        subst st8
        exact z_ret_z B dX6_readStatement_28 (by decide) ⟨(Or.inr ⟨er_5, s_14, e_23, k_12, u_10, c_19, rfl, stK_t (e_1.trans (congrArg nI (show n_1 = 9 by omega))) hN14, he5, h_32⟩), rfl, hI8, (fun b9 h9 => ((hF8 b9 h9).trans ((hF1 b9 (fun j9 h8 h7 => (show False from h7).elim)).trans rfl)))⟩
  · refine z_aload_n B dX6_readStatement_12 rfl 1 rfl ?_
    refine z_iconst (v := 1) B dX6_readStatement_13 rfl ?_
    have h_33 : Φ1 (x + 24) = some (o_ 8 [.ref (x + 25), .int co, .int po, .ref (x + 1), .int (nI nx), .int (nI ki), .int (nI sa), .int (nI nu)]) := ((hF1 (x + 24) (fun j9 h8 h7 => (show False from h7).elim)).trans hc2)
    refine z_callV (As := [.int 1]) (rest := []) B (s_X6_fail G l Φ1 sz x (ca) co po nx ki sa nu 1 hx hI1 h_33) (cwV 1 B.1.2.2.2.2 gX6_readStatement_X6_fail rfl rfl rfl (by decide +kernel) ⟨Nat.le_of_ble_eq_true rfl, Nat.le_of_ble_eq_true rfl⟩) h_33 rfl rfl rfl rfl (Nat.le_of_ble_eq_true rfl) dX6_readStatement_14 ⟨Nat.le_of_ble_eq_true rfl, Nat.le_of_ble_eq_true rfl⟩ (fun r_9 Φ9 sz9 st9 hp14 hs9 => ?_)
    obtain ⟨⟨rfl, h_34⟩, hq9, hI9, hF9⟩ := hp14
    subst sz9
    replace hs9 : st9 = [.int 0] := hs9
    subst st9
    replace hI9 : In G x (ca) Φ9 := hI9
    exact z_ret_z B dX6_readStatement_17 (by decide) ⟨(Or.inr ⟨1, sa, nx, ki, nu, c, rfl, stK_1 c_1, by decide, h_34⟩), rfl, hI9, (fun b9 h9 => ((hF9 b9 (fun j9 h8 h7 => h9 j9 h8 (fq_565 j9 h7))).trans ((hF1 b9 (fun j9 h8 h7 => (show False from h7).elim)).trans rfl)))⟩

/-! the configuration at its beginning, the usual template, copies -/
noncomputable def usC (c : Cf) : Cf := fun j => if j = 10 then 1 else if j = 11 then 9 else if 15 ≤ j ∧ j < 24 then nI (j - 15) else c j
noncomputable def finC (c : Cf) : Cf := @ite Cf (c 10 = 0) (Classical.propDecidable _) (usC c) c
theorem us_cB : ∀ j, j < 9 → usT j = cB j := by decide
theorem cB_hi {j : Nat} (h : 10 ≤ j) : cB j = 0 := by
  unfold cB
  rw [List.getD_eq_getElem?_getD, List.getElem?_eq_none (show ([1, 100, 1000, 100, 20, 1000, 5000, 512, 1, 511] : List Int32).length ≤ j from h)]
  rfl
theorem dF_0 (f : Nat → Int32) : dF f 0 := fun j hj => absurd hj (Nat.not_lt_zero j)
theorem CfP.beg {G : EnvG} {x : Nat} {f : Nat → Int32} {Φ1 : Hm} (e0 : Φ1 (x + 25) = some (o_ 3 [.ref (x + 26), .ref (x + 27), .ref (x + 28), .ref (x + 29), .int 0, .int 511])) (e1 : Φ1 (x + 26) = some (ai_ G 9 f)) (hf : ∀ j, j < 9 → f j = usT j) (e2 : Φ1 (x + 27) = some (ai_ G 256 (fun _ => 0))) (e3 : ∀ u, u < 4 → Φ1 (x + (30 + 4 * u)) = some (o_ 12 [.ref (x + (30 + 4 * u + 1)), .int (nI 0), .int (nI 0), .int 0])) (e4 : ∀ u, u < 4 → ∃ g, Φ1 (x + (30 + 4 * u + 1)) = some (ai_ G 9 g)) : CfP G x 25 0 4 cB Φ1 := by
  refine ⟨rfl, by decide, e0, ⟨f, e1, fun j hj => (hf j hj).trans (us_cB j hj)⟩, ⟨_, e2, fun j hj => (cB_hi (by omega)).symm⟩, fun u hu _ => ?_, 511, by decide, rfl⟩
  obtain ⟨g, hg⟩ := e4 u hu
  exact ⟨0, g, fun q => absurd q (Nat.not_lt_zero u), fun _ => rfl, by decide, dF_0 g, e3 u hu, hg⟩
theorem CfP.usual {G : EnvG} {x : Nat} {c : Cf} {f : Nat → Int32} {Φ Φ1 : Hm} (h : CfP G x 25 0 4 c Φ) (hk : ∀ k, (k = 26 ∨ k = 27 ∨ (34 ≤ k ∧ k < 46)) → Φ1 (x + k) = Φ (x + k)) (e0 : Φ1 (x + 25) = some (o_ 3 [.ref (x + 26), .ref (x + 27), .ref (x + 28), .ref (x + 29), .int (nI 1), .int (c 9)])) (hT : CfU G x 25 0 9 f Φ1) (hf : ∀ j, j < 9 → f j = nI j) : CfP G x 25 1 4 (usC c) Φ1 := by
  obtain ⟨q1, q2, q3, ⟨g, q4, q5⟩, ⟨g2, q6, q7⟩, q8, s, hs, q9⟩ := h
  have u1 : ∀ j, ¬ j = 10 → ¬ j = 11 → ¬ (15 ≤ j ∧ j < 24) → usC c j = c j := fun j a b d => (if_neg a).trans ((if_neg b).trans (if_neg d))
  refine ⟨rfl, by decide, ?_, ⟨g, (hk 26 (by omega)).trans q4, fun j hj => (q5 j hj).trans (u1 j (by omega) (by omega) (by omega)).symm⟩, ⟨g2, (hk 27 (by omega)).trans q6, fun j hj => (q7 j hj).trans (u1 _ (by omega) (by omega) (by omega)).symm⟩, fun u hu _ => ?_, s, hs, (u1 9 (by decide) (by decide) (by decide)).trans q9⟩
  · rw [u1 9 (by decide) (by decide) (by decide)]
    exact e0
  · by_cases hu0 : u = 0
    · subst hu0
      refine ⟨9, f, fun _ => ⟨by decide, rfl, fun j hj => ?_⟩, fun q => absurd q (by decide), by decide, hT.1, hT.2.1, hT.2.2⟩
      rw [hf j hj]
      have e1 : usC c (15 + 9 * 0 + j) = nI (15 + 9 * 0 + j - 15) := (if_neg (by omega)).trans ((if_neg (by omega)).trans (if_pos (by omega)))
      rw [e1, show 15 + 9 * 0 + j - 15 = j by omega]
    · obtain ⟨m, f2, r1, r2, r3, r4, r5, r6⟩ := (q8 u hu (by omega)).eq (Φ1 := Φ1) (hk _ (by omega)) (hk _ (by omega))
      exact ⟨m, f2, fun q => absurd q (by omega), fun _ => r2 (by omega), r3, r4, r5, r6⟩
theorem us_bit : ∀ i, i < 9 → ¬ (nI (2 ^ i - 1) >>> (nI i &&& 31)) &&& 1 = 1 := by decide +kernel
theorem us_pw : ∀ i, i < 9 → 2 ^ i - 1 < 512 ∧ 2 ^ i - 1 + 2 ^ i = 2 ^ (i + 1) - 1 := by decide +kernel
theorem us_row {f : Nat → Int32} {m : Nat} (hf : ∀ j, j < m → f j = nI j) : ∀ j, j < m + 1 → upd f m (nI m) j = nI j := by
  intro j hj
  by_cases e : j = m
  · subst e
    exact upd_at
  · rw [upd_ne e]
    exact hf j (by omega)
/-- an empty configuration gets the usual template -/
theorem fin_0 {G : EnvG} {x k w : Nat} {c : Cf} {Φ Φ1 : Hm} (h : CfP G x k 0 w c Φ) (h1 : CfP G x 25 1 4 (usC c) Φ1) : CfP G x 25 1 4 (finC c) Φ1 := by
  have e : finC c = usC c := if_pos (h.1.trans (by decide))
  rw [e]
  exact h1
theorem fin_t {G : EnvG} {x k t w : Nat} {c : Cf} {Φ : Hm} (h : CfP G x k t w c Φ) (ht : ¬ t = 0) : CfP G x k t w (finC c) Φ := by
  have h4 := h.2.1
  have e : finC c = c := if_neg (fun q => by
    have h3 := (nI_eq (a := t) (b := 0) (by omega) (by omega)).mp (h.1.symm.trans q)
    omega)
  rw [e]
  exact h

set_option maxHeartbeats 4000000 in
set_option maxRecDepth 100000 in
theorem s_X10_clearE (G : EnvG) (l : Launch) (Φ : Hm) (sz x ca : Nat) (k : Nat) (hx : G.2.2.2 ≤ x) (hI : In G x ca Φ) (hk_k : kd k = 8) : Ct G l yX10_clear wsX10_clear ({ frames := 0, cells := 0, slots := 0, locals := 0 }) 0 0 [.ref (x + (k))] Φ sz (fun v Φ1 sz1 => (v = none ∧ Φ1 (x + (k)) = some (o_ 12 [.ref (x + (k + 1)), .int (nI 0), .int (nI 0), .int 0])) ∧ sz1 = sz ∧ In G x (ca) Φ1 ∧ Fr x (fun j9 => j9 = k) Φ Φ1) := by
  refine Ct.of (cc := cX10_clear) (maxL := 1) (ret := none) (by decide) rfl (Nat.le_of_ble_eq_true rfl) ?_
  intro p9 e9 s9 m9 w9 t9 k9 B
  show Z p9 l e9 _ s9 m9 _ w9 t9 k9 _ G 1 0 [(0, .ref (x + (k)))] [] Φ sz 0 0
  refine z_aload_n B dX10_clear_0 rfl 0 rfl ?_
  refine z_iconst (v := 0) B dX10_clear_1 rfl ?_
  obtain ⟨n_1, v_1, v_2, h_1, b_1⟩ := in8 (k := k) hI hk_k
  have h_2 : Φ (x + (k)) = some (o_ 12 [.ref (x + (k + 1)), .int (nI n_1), .int v_1, .int v_2]) := h_1
  refine z_put (ref := "FlowExporter$Template") (C := RX10) (T := TX10) (N := 4) (ci := 12) (v := .int 0) B hu_X10_clear_X10 tyX10 tyX10_ok nmX10 rfl 1 (Nat.le_of_ble_eq_true rfl) hv_X10_clear_15 rfl (Or.inl rfl) h_2 (by omega) rfl rfl (Nat.le_of_ble_eq_true rfl) dX10_clear_2 (fun Φ1 hΦ1 => ?_)
  have h_3 : Φ1 (x + (k)) = some (o_ 12 [.ref (x + (k + 1)), .int 0, .int v_1, .int v_2]) := fset_at hΦ1
  have hI1 : In G x (ca) Φ1 := In.put (k := k) hI hΦ1 (ok8 (k := k) hk_k ⟨0, v_1, v_2, rfl, (show 0 ≤ 9 by omega)⟩)
  refine z_aload_n B dX10_clear_5 rfl 0 rfl ?_
  refine z_iconst (v := 0) B dX10_clear_6 rfl ?_
  refine z_put (ref := "FlowExporter$Template") (C := RX10) (T := TX10) (N := 4) (ci := 12) (v := .int 0) B hu_X10_clear_X10 tyX10 tyX10_ok nmX10 rfl 2 (Nat.le_of_ble_eq_true rfl) hv_X10_clear_19 rfl (Or.inl rfl) h_3 (by omega) rfl rfl (Nat.le_of_ble_eq_true rfl) dX10_clear_7 (fun Φ2 hΦ2 => ?_)
  have h_4 : Φ2 (x + (k)) = some (o_ 12 [.ref (x + (k + 1)), .int 0, .int 0, .int v_2]) := fset_at hΦ2
  have hI2 : In G x (ca) Φ2 := In.put (k := k) hI1 hΦ2 (ok8 (k := k) hk_k ⟨0, 0, v_2, rfl, (show 0 ≤ 9 by omega)⟩)
  refine z_aload_n B dX10_clear_10 rfl 0 rfl ?_
  refine z_iconst (v := 0) B dX10_clear_11 rfl ?_
  refine z_put (ref := "FlowExporter$Template") (C := RX10) (T := TX10) (N := 4) (ci := 12) (v := .int 0) B hu_X10_clear_X10 tyX10 tyX10_ok nmX10 rfl 3 (Nat.le_of_ble_eq_true rfl) hv_X10_clear_22 rfl (Or.inl rfl) h_4 (by omega) rfl rfl (Nat.le_of_ble_eq_true rfl) dX10_clear_12 (fun Φ3 hΦ3 => ?_)
  have h_5 : Φ3 (x + (k)) = some (o_ 12 [.ref (x + (k + 1)), .int 0, .int 0, .int 0]) := fset_at hΦ3
  have hI3 : In G x (ca) Φ3 := In.put (k := k) hI2 hΦ3 (ok8 (k := k) hk_k ⟨0, 0, 0, rfl, (show 0 ≤ 9 by omega)⟩)
  exact z_ret_v B dX10_clear_15 ⟨⟨rfl, ((h_5.trans (congrArg (fun w9 : Nat => some (o_ 12 [.ref (x + (k + 1)), .int (nI w9), .int 0, .int 0])) (show 0 = 0 by omega))).trans (congrArg (fun w9 : Nat => some (o_ 12 [.ref (x + (k + 1)), .int (nI 0), .int (nI w9), .int 0])) (show 0 = 0 by omega)))⟩, rfl, hI3, (fun b9 h9 => ((fset_fr hΦ3 (fun h8 => h9 (k) h8 (show k = k by omega))).trans ((fset_fr hΦ2 (fun h8 => h9 (k) h8 (show k = k by omega))).trans ((fset_fr hΦ1 (fun h8 => h9 (k) h8 (show k = k by omega))).trans rfl))))⟩

theorem cpy_us (f : Nat → Int32) : ∀ j, j < 9 → va_cpy usT f (0 : Int32).toNatClampNeg (0 : Int32).toNatClampNeg (9 : Int32).toNatClampNeg j = usT j := by
  intro j hj
  unfold va_cpy
  have e0 : (0 : Int32).toNatClampNeg = 0 := by decide
  have e9 : (9 : Int32).toNatClampNeg = 9 := by decide
  rw [e0, e9]
  rw [if_pos (by omega)]
  congr 1
  omega

theorem fq_592 {x : Nat} : ∀ j9 : Nat, x + 25 = x + j9 → (30 ≤ j9 ∧ j9 < 46) → False := by
  intro j9 h1 h2
  omega

theorem fq_593 {x : Nat} : ∀ j9 : Nat, x + 26 = x + j9 → (30 ≤ j9 ∧ j9 < 46) → False := by
  intro j9 h1 h2
  omega

theorem fq_594 {x : Nat} : ∀ j9 : Nat, x + 27 = x + j9 → (30 ≤ j9 ∧ j9 < 46) → False := by
  intro j9 h1 h2
  omega

theorem fq_595 : ∀ j9 : Nat, (30 ≤ j9 ∧ j9 < 46) → (25 ≤ j9 ∧ j9 < 46) := by
  intro j9 h
  omega

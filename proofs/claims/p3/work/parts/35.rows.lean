set_option maxRecDepth 20000 in
theorem ggX6_readText_X1_clear : GoodIn wsX6_readText wsX1_clear := goodIn_r _ [11, 12, 13, 14, 15, 16, 17, 18, 19, 20, 21, 22, 23, 24, 25, 26, 27, 28, 29, 30, 31, 32, 176, 177, 178, 179, 180, 181, 182, 183, 184, 185] rfl (by decide +kernel)
set_option maxRecDepth 20000 in
theorem gX6_readText_X1_clear : GoodIn wsX6_readText (wsV RX6 41 RX1 yX1_clear wsX1_clear) := goodIn_app (goodIn_of _ (by decide +kernel)) ggX6_readText_X1_clear
set_option maxRecDepth 20000 in
theorem ggX6_readText_X6_nextToken : GoodIn wsX6_readText wsX6_nextToken := goodIn_ca (goodIn_r _ [37, 4, 38, 39, 40, 5, 41, 42, 43, 44, 45, 46, 47, 48, 49, 36, 50, 168, 169, 170, 171, 172, 173, 174, 175, 186, 187] rfl (by decide +kernel)) (goodIn_sub (fun _ h => List.mem_cons_of_mem _ (List.mem_append_right _ h)) (by decide +kernel))
set_option maxRecDepth 20000 in
theorem gX6_readText_X6_nextToken : GoodIn wsX6_readText (wsV RX6 44 RX6 yX6_nextToken wsX6_nextToken) := goodIn_app (goodIn_of _ (by decide +kernel)) ggX6_readText_X6_nextToken
set_option maxRecDepth 20000 in
theorem ggX6_readText_X1_addUsualTemplate : GoodIn wsX6_readText wsX1_addUsualTemplate := goodIn_ca (goodIn_r _ [54, 19, 18, 55, 56, 57, 28, 58, 30, 31, 59, 32, 176, 177, 178, 179, 180, 181, 182, 183, 184, 185] rfl (by decide +kernel)) (goodIn_sub (fun _ h => List.mem_cons_of_mem _ (List.mem_append_right _ h)) (by decide +kernel))
set_option maxRecDepth 20000 in
theorem gX6_readText_X1_addUsualTemplate : GoodIn wsX6_readText (wsV RX6 50 RX1 yX1_addUsualTemplate wsX1_addUsualTemplate) := goodIn_app (goodIn_of _ (by decide +kernel)) ggX6_readText_X1_addUsualTemplate
set_option maxRecDepth 20000 in
theorem ggX6_readText_X6_readStatement : GoodIn wsX6_readText wsX6_readStatement := goodIn_ca (goodIn_r _ [63, 64, 65, 66, 36, 67, 5, 68, 69, 70, 71, 72, 73, 74, 75, 76, 77, 78, 79, 80, 81, 82, 83, 84, 85, 86, 87, 88, 89, 90, 91, 92, 93, 94, 95, 96, 97, 98, 99, 100, 101, 102, 103, 104, 105, 106, 107, 108, 109, 110, 111, 112, 113, 114, 115, 116, 117, 118, 119, 120, 4, 40, 38, 41, 42, 43, 44, 45, 46, 47, 121, 122, 123, 124, 2, 3, 125, 126, 127, 128, 1, 6, 129, 130, 131, 10, 132, 18, 33, 34, 35, 37, 39, 48, 49, 50, 133, 134, 135, 28, 136, 31, 137, 56, 57, 58, 30, 59, 32, 138, 139, 140, 141, 142, 143, 144, 145, 146, 147, 148, 149, 150, 17, 151, 152, 153, 154, 155, 156, 157, 158, 159, 160, 161, 162, 163, 164, 165, 166, 167, 12, 168, 169, 170, 171, 172, 173, 174, 175, 188, 189, 186, 187, 176, 177, 178, 179, 180, 181, 182, 183, 184, 185] rfl (by decide +kernel)) (goodIn_sub (fun _ h => List.mem_cons_of_mem _ (List.mem_append_right _ h)) (by decide +kernel))
set_option maxRecDepth 20000 in
theorem gX6_readText_X6_readStatement : GoodIn wsX6_readText (wsV RX6 53 RX6 yX6_readStatement wsX6_readStatement) := goodIn_app (goodIn_of _ (by decide +kernel)) ggX6_readText_X6_readStatement
theorem dX6_readText_0 : decode cX6_readText 0 = .ok (.aload_n 0, 1) := by decide +kernel
theorem dX6_readText_1 : decode cX6_readText 1 = .ok (.getfield 12, 3) := by decide +kernel
theorem dX6_readText_4 : decode cX6_readText 4 = .ok (.invokevirtual 41, 3) := by decide +kernel
theorem dX6_readText_7 : decode cX6_readText 7 = .ok (.aload_n 0, 1) := by decide +kernel
theorem dX6_readText_8 : decode cX6_readText 8 = .ok (.iconst 0, 1) := by decide +kernel
theorem dX6_readText_9 : decode cX6_readText 9 = .ok (.putfield 18, 3) := by decide +kernel
theorem dX6_readText_12 : decode cX6_readText 12 = .ok (.aload_n 0, 1) := by decide +kernel
theorem dX6_readText_13 : decode cX6_readText 13 = .ok (.iconst (-1), 1) := by decide +kernel
theorem dX6_readText_14 : decode cX6_readText 14 = .ok (.putfield 22, 3) := by decide +kernel
theorem dX6_readText_17 : decode cX6_readText 17 = .ok (.aload_n 0, 1) := by decide +kernel
theorem dX6_readText_18 : decode cX6_readText 18 = .ok (.iconst 0, 1) := by decide +kernel
theorem dX6_readText_19 : decode cX6_readText 19 = .ok (.putfield 25, 3) := by decide +kernel
theorem dX6_readText_22 : decode cX6_readText 22 = .ok (.iconst 0, 1) := by decide +kernel
theorem dX6_readText_23 : decode cX6_readText 23 = .ok (.istore_n 1, 1) := by decide +kernel
theorem dX6_readText_24 : decode cX6_readText 24 = .ok (.iload_n 1, 1) := by decide +kernel
theorem dX6_readText_25 : decode cX6_readText 25 = .ok (.sipush 700, 3) := by decide +kernel
theorem dX6_readText_28 : decode cX6_readText 28 = .ok (.if_icmp .gt 49, 3) := by decide +kernel
theorem dX6_readText_31 : decode cX6_readText 31 = .ok (.aload_n 0, 1) := by decide +kernel
theorem dX6_readText_32 : decode cX6_readText 32 = .ok (.invokevirtual 44, 3) := by decide +kernel
theorem dX6_readText_35 : decode cX6_readText 35 = .ok (.aload_n 0, 1) := by decide +kernel
theorem dX6_readText_36 : decode cX6_readText 36 = .ok (.getfield 28, 3) := by decide +kernel
theorem dX6_readText_39 : decode cX6_readText 39 = .ok (.ifCond .ne 22, 3) := by decide +kernel
theorem dX6_readText_42 : decode cX6_readText 42 = .ok (.aload_n 0, 1) := by decide +kernel
theorem dX6_readText_43 : decode cX6_readText 43 = .ok (.getfield 12, 3) := by decide +kernel
theorem dX6_readText_46 : decode cX6_readText 46 = .ok (.getfield 47, 3) := by decide +kernel
theorem dX6_readText_49 : decode cX6_readText 49 = .ok (.ifCond .ne 10, 3) := by decide +kernel
theorem dX6_readText_52 : decode cX6_readText 52 = .ok (.aload_n 0, 1) := by decide +kernel
theorem dX6_readText_53 : decode cX6_readText 53 = .ok (.getfield 12, 3) := by decide +kernel
theorem dX6_readText_56 : decode cX6_readText 56 = .ok (.invokevirtual 50, 3) := by decide +kernel
theorem dX6_readText_59 : decode cX6_readText 59 = .ok (.iload_n 1, 1) := by decide +kernel
theorem dX6_readText_60 : decode cX6_readText 60 = .ok (.ireturn, 1) := by decide +kernel
theorem dX6_readText_61 : decode cX6_readText 61 = .ok (.aload_n 0, 1) := by decide +kernel
theorem dX6_readText_62 : decode cX6_readText 62 = .ok (.invokevirtual 53, 3) := by decide +kernel
theorem dX6_readText_65 : decode cX6_readText 65 = .ok (.ifCond .ne 6, 3) := by decide +kernel
theorem dX6_readText_68 : decode cX6_readText 68 = .ok (.bipush (-2), 2) := by decide +kernel
theorem dX6_readText_70 : decode cX6_readText 70 = .ok (.ireturn, 1) := by decide +kernel
theorem dX6_readText_71 : decode cX6_readText 71 = .ok (.iinc 1 1, 3) := by decide +kernel
theorem dX6_readText_74 : decode cX6_readText 74 = .ok (.goto (-50), 3) := by decide +kernel
theorem dX6_readText_77 : decode cX6_readText 77 = .ok (.bipush (-2), 2) := by decide +kernel
theorem dX6_readText_79 : decode cX6_readText 79 = .ok (.ireturn, 1) := by decide +kernel
set_option maxRecDepth 20000 in
theorem ggX6_readStatement_X6_wordIn : GoodIn wsX6_readStatement wsX6_wordIn := goodIn_ca (goodIn_r _ [5, 6, 7, 8, 9, 10, 11, 12, 13, 14, 15, 16, 17, 18, 19, 20, 21, 22, 23, 24, 25, 26, 27, 28, 29, 30, 31, 32, 33, 34, 35, 36, 37, 38, 39, 40, 41, 42, 43, 44, 45, 46, 47, 48, 49, 50, 51, 52, 53, 54, 55, 56, 57, 58, 4, 59, 60, 61, 62, 63, 64, 65, 66, 67, 68, 69, 141, 142, 143, 144, 145, 146, 147, 148, 149, 150, 151, 152] rfl (by decide +kernel)) (goodIn_sub (fun _ h => List.mem_cons_of_mem _ (List.mem_append_right _ h)) (by decide +kernel))
set_option maxRecDepth 20000 in
theorem gX6_readStatement_X6_wordIn : GoodIn wsX6_readStatement (wsV RX6 59 RX6 yX6_wordIn wsX6_wordIn) := goodIn_app (goodIn_of _ (by decide +kernel)) ggX6_readStatement_X6_wordIn
set_option maxRecDepth 20000 in
theorem ggX6_readStatement_X6_fail : GoodIn wsX6_readStatement wsX6_fail := goodIn_r _ [73, 74, 61, 75, 141, 142, 143, 144, 145, 146, 147, 148] rfl (by decide +kernel)
set_option maxRecDepth 20000 in
theorem gX6_readStatement_X6_fail : GoodIn wsX6_readStatement (wsV RX6 63 RX6 yX6_fail wsX6_fail) := goodIn_app (goodIn_of _ (by decide +kernel)) ggX6_readStatement_X6_fail
set_option maxRecDepth 20000 in
theorem ggX6_readStatement_X6_readTemplate : GoodIn wsX6_readStatement wsX6_readTemplate := goodIn_ca (goodIn_r _ [79, 80, 81, 6, 70, 71, 72, 4, 73, 74, 61, 75, 82, 83, 84, 85, 86, 87, 88, 89, 90, 91, 60, 62, 92, 63, 64, 65, 66, 67, 68, 69, 93, 94, 95, 1, 2, 3, 5, 7, 8, 9, 10, 11, 12, 13, 14, 15, 16, 17, 18, 19, 20, 21, 22, 23, 24, 25, 26, 27, 28, 29, 30, 31, 32, 33, 34, 35, 36, 37, 38, 39, 40, 41, 42, 43, 44, 45, 46, 47, 48, 49, 50, 51, 52, 53, 54, 55, 56, 57, 58, 59, 96, 97, 98, 99, 100, 101, 102, 103, 104, 105, 106, 107, 108, 141, 142, 143, 144, 145, 146, 147, 148, 153, 154, 155, 156, 157, 158, 151, 152, 149, 150, 159, 160, 161, 162] rfl (by decide +kernel)) (goodIn_sub (fun _ h => List.mem_cons_of_mem _ (List.mem_append_right _ h)) (by decide +kernel))
set_option maxRecDepth 20000 in
theorem gX6_readStatement_X6_readTemplate : GoodIn wsX6_readStatement (wsV RX6 67 RX6 yX6_readTemplate wsX6_readTemplate) := goodIn_app (goodIn_of _ (by decide +kernel)) ggX6_readStatement_X6_readTemplate
set_option maxRecDepth 20000 in
theorem ggX6_readStatement_X6_readUse : GoodIn wsX6_readStatement wsX6_readUse := goodIn_ca (goodIn_r _ [112, 113, 80, 81, 114, 115, 116, 4, 117, 6, 61, 60, 62, 88, 89, 90, 91, 92, 63, 64, 65, 66, 67, 68, 69, 93, 94, 95, 70, 71, 72, 73, 74, 75, 118, 119, 120, 85, 121, 122, 123, 124, 125, 126, 141, 142, 143, 144, 145, 146, 147, 148, 153, 154, 155, 156, 157, 158, 151, 152] rfl (by decide +kernel)) (goodIn_sub (fun _ h => List.mem_cons_of_mem _ (List.mem_append_right _ h)) (by decide +kernel))
set_option maxRecDepth 20000 in
theorem gX6_readStatement_X6_readUse : GoodIn wsX6_readStatement (wsV RX6 70 RX6 yX6_readUse wsX6_readUse) := goodIn_app (goodIn_of _ (by decide +kernel)) ggX6_readStatement_X6_readUse
set_option maxRecDepth 20000 in
theorem ggX6_readStatement_X6_readDrop : GoodIn wsX6_readStatement wsX6_readDrop := goodIn_ca (goodIn_r _ [130, 80, 131, 88, 89, 90, 4, 91, 60, 62, 92, 61, 6, 63, 64, 65, 66, 67, 68, 69, 93, 94, 95, 1, 2, 3, 5, 7, 8, 9, 10, 11, 12, 13, 14, 15, 16, 17, 18, 19, 20, 21, 22, 23, 24, 25, 26, 27, 28, 29, 30, 31, 32, 33, 34, 35, 36, 37, 38, 39, 40, 41, 42, 43, 44, 45, 46, 47, 48, 49, 50, 51, 52, 53, 54, 55, 56, 57, 58, 59, 70, 71, 72, 73, 74, 75, 123, 124, 125, 126, 141, 142, 143, 144, 145, 146, 147, 148, 153, 154, 155, 156, 157, 158, 151, 152, 149, 150] rfl (by decide +kernel)) (goodIn_sub (fun _ h => List.mem_cons_of_mem _ (List.mem_append_right _ h)) (by decide +kernel))
set_option maxRecDepth 20000 in
theorem gX6_readStatement_X6_readDrop : GoodIn wsX6_readStatement (wsV RX6 73 RX6 yX6_readDrop wsX6_readDrop) := goodIn_app (goodIn_of _ (by decide +kernel)) ggX6_readStatement_X6_readDrop
set_option maxRecDepth 20000 in
theorem ggX6_readStatement_X6_readSetting : GoodIn wsX6_readStatement wsX6_readSetting := goodIn_ca (goodIn_r _ [135, 80, 113, 70, 71, 72, 4, 73, 74, 61, 75, 114, 115, 116, 117, 6, 60, 62, 88, 89, 90, 91, 92, 63, 64, 65, 66, 67, 68, 69, 93, 94, 95, 136, 137, 138, 85, 139, 140, 141, 142, 143, 144, 145, 146, 147, 148, 151, 152, 153, 154, 155, 156, 157, 158] rfl (by decide +kernel)) (goodIn_sub (fun _ h => List.mem_cons_of_mem _ (List.mem_append_right _ h)) (by decide +kernel))
set_option maxRecDepth 20000 in
theorem gX6_readStatement_X6_readSetting : GoodIn wsX6_readStatement (wsV RX6 76 RX6 yX6_readSetting wsX6_readSetting) := goodIn_app (goodIn_of _ (by decide +kernel)) ggX6_readStatement_X6_readSetting
set_option maxRecDepth 20000 in
theorem ggX6_readStatement_X6_readSemicolon : GoodIn wsX6_readStatement wsX6_readSemicolon := goodIn_ca (goodIn_r _ [126, 6, 88, 89, 90, 4, 91, 60, 62, 92, 61, 63, 64, 65, 66, 67, 68, 69, 93, 94, 95, 70, 71, 72, 73, 74, 75, 141, 142, 143, 144, 145, 146, 147, 148, 151, 152] rfl (by decide +kernel)) (goodIn_sub (fun _ h => List.mem_cons_of_mem _ (List.mem_append_right _ h)) (by decide +kernel))
set_option maxRecDepth 20000 in
theorem gX6_readStatement_X6_readSemicolon : GoodIn wsX6_readStatement (wsV RX6 79 RX6 yX6_readSemicolon wsX6_readSemicolon) := goodIn_app (goodIn_of _ (by decide +kernel)) ggX6_readStatement_X6_readSemicolon
theorem dX6_readStatement_0 : decode cX6_readStatement 0 = .ok (.aload_n 0, 1) := by decide +kernel
theorem dX6_readStatement_1 : decode cX6_readStatement 1 = .ok (.ldc 57, 2) := by decide +kernel
theorem dX6_readStatement_3 : decode cX6_readStatement 3 = .ok (.invokevirtual 59, 3) := by decide +kernel
theorem dX6_readStatement_6 : decode cX6_readStatement 6 = .ok (.istore_n 1, 1) := by decide +kernel
theorem dX6_readStatement_7 : decode cX6_readStatement 7 = .ok (.iload_n 1, 1) := by decide +kernel
theorem dX6_readStatement_8 : decode cX6_readStatement 8 = .ok (.iconst (-1), 1) := by decide +kernel
theorem dX6_readStatement_9 : decode cX6_readStatement 9 = .ok (.if_icmp .ne 9, 3) := by decide +kernel
theorem dX6_readStatement_12 : decode cX6_readStatement 12 = .ok (.aload_n 0, 1) := by decide +kernel
theorem dX6_readStatement_13 : decode cX6_readStatement 13 = .ok (.iconst 1, 1) := by decide +kernel
theorem dX6_readStatement_14 : decode cX6_readStatement 14 = .ok (.invokevirtual 63, 3) := by decide +kernel
theorem dX6_readStatement_17 : decode cX6_readStatement 17 = .ok (.ireturn, 1) := by decide +kernel
theorem dX6_readStatement_18 : decode cX6_readStatement 18 = .ok (.iload_n 1, 1) := by decide +kernel
theorem dX6_readStatement_19 : decode cX6_readStatement 19 = .ok (.bipush 9, 2) := by decide +kernel
theorem dX6_readStatement_21 : decode cX6_readStatement 21 = .ok (.if_icmp .ne 8, 3) := by decide +kernel
theorem dX6_readStatement_24 : decode cX6_readStatement 24 = .ok (.aload_n 0, 1) := by decide +kernel
theorem dX6_readStatement_25 : decode cX6_readStatement 25 = .ok (.invokevirtual 67, 3) := by decide +kernel
theorem dX6_readStatement_28 : decode cX6_readStatement 28 = .ok (.ireturn, 1) := by decide +kernel
theorem dX6_readStatement_29 : decode cX6_readStatement 29 = .ok (.iload_n 1, 1) := by decide +kernel
theorem dX6_readStatement_30 : decode cX6_readStatement 30 = .ok (.bipush 10, 2) := by decide +kernel
theorem dX6_readStatement_32 : decode cX6_readStatement 32 = .ok (.if_icmp .ne 8, 3) := by decide +kernel
theorem dX6_readStatement_35 : decode cX6_readStatement 35 = .ok (.aload_n 0, 1) := by decide +kernel
theorem dX6_readStatement_36 : decode cX6_readStatement 36 = .ok (.invokevirtual 70, 3) := by decide +kernel
theorem dX6_readStatement_39 : decode cX6_readStatement 39 = .ok (.ireturn, 1) := by decide +kernel
theorem dX6_readStatement_40 : decode cX6_readStatement 40 = .ok (.iload_n 1, 1) := by decide +kernel
theorem dX6_readStatement_41 : decode cX6_readStatement 41 = .ok (.bipush 11, 2) := by decide +kernel
theorem dX6_readStatement_43 : decode cX6_readStatement 43 = .ok (.if_icmp .ne 8, 3) := by decide +kernel
theorem dX6_readStatement_46 : decode cX6_readStatement 46 = .ok (.aload_n 0, 1) := by decide +kernel
theorem dX6_readStatement_47 : decode cX6_readStatement 47 = .ok (.invokevirtual 73, 3) := by decide +kernel
theorem dX6_readStatement_50 : decode cX6_readStatement 50 = .ok (.ireturn, 1) := by decide +kernel
theorem dX6_readStatement_51 : decode cX6_readStatement 51 = .ok (.aload_n 0, 1) := by decide +kernel
theorem dX6_readStatement_52 : decode cX6_readStatement 52 = .ok (.iload_n 1, 1) := by decide +kernel
theorem dX6_readStatement_53 : decode cX6_readStatement 53 = .ok (.invokevirtual 76, 3) := by decide +kernel
theorem dX6_readStatement_56 : decode cX6_readStatement 56 = .ok (.ifCond .eq 16, 3) := by decide +kernel
theorem dX6_readStatement_59 : decode cX6_readStatement 59 = .ok (.iload_n 1, 1) := by decide +kernel
theorem dX6_readStatement_60 : decode cX6_readStatement 60 = .ok (.iconst 4, 1) := by decide +kernel
theorem dX6_readStatement_61 : decode cX6_readStatement 61 = .ok (.if_icmp .ne 13, 3) := by decide +kernel
theorem dX6_readStatement_64 : decode cX6_readStatement 64 = .ok (.aload_n 0, 1) := by decide +kernel
theorem dX6_readStatement_65 : decode cX6_readStatement 65 = .ok (.iconst 5, 1) := by decide +kernel
theorem dX6_readStatement_66 : decode cX6_readStatement 66 = .ok (.invokevirtual 76, 3) := by decide +kernel
theorem dX6_readStatement_69 : decode cX6_readStatement 69 = .ok (.ifCond .ne 5, 3) := by decide +kernel
theorem dX6_readStatement_72 : decode cX6_readStatement 72 = .ok (.iconst 0, 1) := by decide +kernel
theorem dX6_readStatement_73 : decode cX6_readStatement 73 = .ok (.ireturn, 1) := by decide +kernel
theorem dX6_readStatement_74 : decode cX6_readStatement 74 = .ok (.aload_n 0, 1) := by decide +kernel
theorem dX6_readStatement_75 : decode cX6_readStatement 75 = .ok (.invokevirtual 79, 3) := by decide +kernel
theorem dX6_readStatement_78 : decode cX6_readStatement 78 = .ok (.ireturn, 1) := by decide +kernel
set_option maxRecDepth 20000 in
theorem ggX6_readSetting_X6_fail : GoodIn wsX6_readSetting wsX6_fail := goodIn_r _ [7, 8, 9, 10, 39, 40, 41, 42, 43, 44, 45, 46] rfl (by decide +kernel)
set_option maxRecDepth 20000 in
theorem gX6_readSetting_X6_fail : GoodIn wsX6_readSetting (wsV RX6 63 RX6 yX6_fail wsX6_fail) := goodIn_app (goodIn_of _ (by decide +kernel)) ggX6_readSetting_X6_fail
set_option maxRecDepth 20000 in
theorem ggX6_readSetting_X6_readNumber : GoodIn wsX6_readSetting wsX6_readNumber := goodIn_ca (goodIn_r _ [14, 15, 2, 9, 16, 17, 18, 19, 20, 6, 21, 22, 23, 24, 25, 26, 27, 28, 29, 30, 31, 32, 3, 4, 5, 7, 8, 10, 39, 40, 41, 42, 43, 44, 45, 46, 47, 48] rfl (by decide +kernel)) (goodIn_sub (fun _ h => List.mem_cons_of_mem _ (List.mem_append_right _ h)) (by decide +kernel))
set_option maxRecDepth 20000 in
theorem gX6_readSetting_X6_readNumber : GoodIn wsX6_readSetting (wsV RX6 89 RX6 yX6_readNumber wsX6_readNumber) := goodIn_app (goodIn_of _ (by decide +kernel)) ggX6_readSetting_X6_readNumber
set_option maxRecDepth 20000 in
theorem ggX6_readSetting_X1_set : GoodIn wsX6_readSetting wsX1_set := goodIn_ca (goodIn_r _ [37, 38, 49, 50, 51, 52, 53, 54] rfl (by decide +kernel)) (goodIn_sub (fun _ h => List.mem_cons_of_mem _ (List.mem_append_right _ h)) (by decide +kernel))
set_option maxRecDepth 20000 in
theorem gX6_readSetting_X1_set : GoodIn wsX6_readSetting (wsV RX6 93 RX1 yX1_set wsX1_set) := goodIn_app (goodIn_of _ (by decide +kernel)) ggX6_readSetting_X1_set
theorem dX6_readSetting_0 : decode cX6_readSetting 0 = .ok (.iload_n 1, 1) := by decide +kernel
theorem dX6_readSetting_1 : decode cX6_readSetting 1 = .ok (.ifCond .lt 19, 3) := by decide +kernel
theorem dX6_readSetting_4 : decode cX6_readSetting 4 = .ok (.iload_n 1, 1) := by decide +kernel
theorem dX6_readSetting_5 : decode cX6_readSetting 5 = .ok (.getstatic 82, 3) := by decide +kernel
theorem dX6_readSetting_8 : decode cX6_readSetting 8 = .ok (.arraylength, 1) := by decide +kernel
theorem dX6_readSetting_9 : decode cX6_readSetting 9 = .ok (.if_icmp .ge 11, 3) := by decide +kernel
theorem dX6_readSetting_12 : decode cX6_readSetting 12 = .ok (.iload_n 1, 1) := by decide +kernel
theorem dX6_readSetting_13 : decode cX6_readSetting 13 = .ok (.getstatic 86, 3) := by decide +kernel
theorem dX6_readSetting_16 : decode cX6_readSetting 16 = .ok (.arraylength, 1) := by decide +kernel
theorem dX6_readSetting_17 : decode cX6_readSetting 17 = .ok (.if_icmp .lt 9, 3) := by decide +kernel
theorem dX6_readSetting_20 : decode cX6_readSetting 20 = .ok (.aload_n 0, 1) := by decide +kernel
theorem dX6_readSetting_21 : decode cX6_readSetting 21 = .ok (.iconst 1, 1) := by decide +kernel
theorem dX6_readSetting_22 : decode cX6_readSetting 22 = .ok (.invokevirtual 63, 3) := by decide +kernel
theorem dX6_readSetting_25 : decode cX6_readSetting 25 = .ok (.ireturn, 1) := by decide +kernel
theorem dX6_readSetting_26 : decode cX6_readSetting 26 = .ok (.aload_n 0, 1) := by decide +kernel
theorem dX6_readSetting_27 : decode cX6_readSetting 27 = .ok (.getstatic 82, 3) := by decide +kernel
theorem dX6_readSetting_30 : decode cX6_readSetting 30 = .ok (.iload_n 1, 1) := by decide +kernel
theorem dX6_readSetting_31 : decode cX6_readSetting 31 = .ok (.iaload, 1) := by decide +kernel
theorem dX6_readSetting_32 : decode cX6_readSetting 32 = .ok (.getstatic 86, 3) := by decide +kernel
theorem dX6_readSetting_35 : decode cX6_readSetting 35 = .ok (.iload_n 1, 1) := by decide +kernel
theorem dX6_readSetting_36 : decode cX6_readSetting 36 = .ok (.iaload, 1) := by decide +kernel
theorem dX6_readSetting_37 : decode cX6_readSetting 37 = .ok (.invokevirtual 89, 3) := by decide +kernel
theorem dX6_readSetting_40 : decode cX6_readSetting 40 = .ok (.ifCond .ne 5, 3) := by decide +kernel
theorem dX6_readSetting_43 : decode cX6_readSetting 43 = .ok (.iconst 0, 1) := by decide +kernel
theorem dX6_readSetting_44 : decode cX6_readSetting 44 = .ok (.ireturn, 1) := by decide +kernel
theorem dX6_readSetting_45 : decode cX6_readSetting 45 = .ok (.aload_n 0, 1) := by decide +kernel
theorem dX6_readSetting_46 : decode cX6_readSetting 46 = .ok (.getfield 12, 3) := by decide +kernel
theorem dX6_readSetting_49 : decode cX6_readSetting 49 = .ok (.iload_n 1, 1) := by decide +kernel
theorem dX6_readSetting_50 : decode cX6_readSetting 50 = .ok (.aload_n 0, 1) := by decide +kernel
theorem dX6_readSetting_51 : decode cX6_readSetting 51 = .ok (.getfield 34, 3) := by decide +kernel
theorem dX6_readSetting_54 : decode cX6_readSetting 54 = .ok (.invokevirtual 93, 3) := by decide +kernel
theorem dX6_readSetting_57 : decode cX6_readSetting 57 = .ok (.iconst 1, 1) := by decide +kernel
theorem dX6_readSetting_58 : decode cX6_readSetting 58 = .ok (.ireturn, 1) := by decide +kernel
set_option maxRecDepth 20000 in
theorem ggX6_readTemplate_X6_fail : GoodIn wsX6_readTemplate wsX6_fail := goodIn_r _ [8, 9, 10, 11, 105, 106, 107, 108, 109, 110, 111, 112] rfl (by decide +kernel)
set_option maxRecDepth 20000 in
theorem gX6_readTemplate_X6_fail : GoodIn wsX6_readTemplate (wsV RX6 63 RX6 yX6_fail wsX6_fail) := goodIn_app (goodIn_of _ (by decide +kernel)) ggX6_readTemplate_X6_fail
set_option maxRecDepth 20000 in
theorem ggX6_readTemplate_X1_template : GoodIn wsX6_readTemplate wsX1_template := goodIn_r _ [16, 17, 113, 114, 115, 116, 117, 118] rfl (by decide +kernel)
set_option maxRecDepth 20000 in
theorem gX6_readTemplate_X1_template : GoodIn wsX6_readTemplate (wsV RX6 97 RX1 yX1_template wsX1_template) := goodIn_app (goodIn_of _ (by decide +kernel)) ggX6_readTemplate_X1_template
set_option maxRecDepth 20000 in
theorem ggX6_readTemplate_X6_nextToken : GoodIn wsX6_readTemplate wsX6_nextToken := goodIn_ca (goodIn_r _ [21, 22, 23, 24, 10, 3, 25, 26, 27, 28, 29, 30, 31, 32, 33, 7, 34, 105, 106, 107, 108, 109, 110, 111, 112, 119, 120] rfl (by decide +kernel)) (goodIn_sub (fun _ h => List.mem_cons_of_mem _ (List.mem_append_right _ h)) (by decide +kernel))
set_option maxRecDepth 20000 in
theorem gX6_readTemplate_X6_nextToken : GoodIn wsX6_readTemplate (wsV RX6 44 RX6 yX6_nextToken wsX6_nextToken) := goodIn_app (goodIn_of _ (by decide +kernel)) ggX6_readTemplate_X6_nextToken
set_option maxRecDepth 20000 in
theorem ggX6_readTemplate_X6_wordIn : GoodIn wsX6_readTemplate wsX6_wordIn := goodIn_ca (goodIn_r _ [38, 3, 39, 40, 41, 42, 43, 44, 45, 46, 47, 48, 49, 50, 51, 52, 53, 54, 55, 56, 57, 58, 59, 60, 61, 62, 63, 64, 65, 66, 67, 68, 69, 70, 71, 72, 73, 74, 75, 76, 77, 78, 79, 80, 81, 82, 83, 84, 85, 86, 87, 88, 89, 90, 7, 91, 22, 10, 23, 25, 26, 27, 28, 29, 30, 31, 105, 106, 107, 108, 109, 110, 111, 112, 121, 122, 119, 120] rfl (by decide +kernel)) (goodIn_sub (fun _ h => List.mem_cons_of_mem _ (List.mem_append_right _ h)) (by decide +kernel))
set_option maxRecDepth 20000 in
theorem gX6_readTemplate_X6_wordIn : GoodIn wsX6_readTemplate (wsV RX6 59 RX6 yX6_wordIn wsX6_wordIn) := goodIn_app (goodIn_of _ (by decide +kernel)) ggX6_readTemplate_X6_wordIn
set_option maxRecDepth 20000 in
theorem ggX6_readTemplate_X10_has : GoodIn wsX6_readTemplate wsX10_has := goodIn_r _ [96, 97, 123, 124, 125, 126] rfl (by decide +kernel)
set_option maxRecDepth 20000 in
theorem gX6_readTemplate_X10_has : GoodIn wsX6_readTemplate (wsV RX6 103 RX10 yX10_has wsX10_has) := goodIn_app (goodIn_of _ (by decide +kernel)) ggX6_readTemplate_X10_has
set_option maxRecDepth 20000 in
theorem ggX6_readTemplate_X10_addField : GoodIn wsX6_readTemplate wsX10_addField := goodIn_ca (goodIn_r _ [101, 102, 97, 103, 104, 123, 124, 125, 126] rfl (by decide +kernel)) (goodIn_sub (fun _ h => List.mem_cons_of_mem _ (List.mem_append_right _ h)) (by decide +kernel))
set_option maxRecDepth 20000 in
theorem gX6_readTemplate_X10_addField : GoodIn wsX6_readTemplate (wsV RX6 108 RX10 yX10_addField wsX10_addField) := goodIn_app (goodIn_of _ (by decide +kernel)) ggX6_readTemplate_X10_addField
theorem dX6_readTemplate_0 : decode cX6_readTemplate 0 = .ok (.aload_n 0, 1) := by decide +kernel
theorem dX6_readTemplate_1 : decode cX6_readTemplate 1 = .ok (.getfield 12, 3) := by decide +kernel
theorem dX6_readTemplate_4 : decode cX6_readTemplate 4 = .ok (.getfield 47, 3) := by decide +kernel
theorem dX6_readTemplate_7 : decode cX6_readTemplate 7 = .ok (.iconst 4, 1) := by decide +kernel
theorem dX6_readTemplate_8 : decode cX6_readTemplate 8 = .ok (.if_icmp .lt 9, 3) := by decide +kernel
theorem dX6_readTemplate_11 : decode cX6_readTemplate 11 = .ok (.aload_n 0, 1) := by decide +kernel
theorem dX6_readTemplate_12 : decode cX6_readTemplate 12 = .ok (.iconst 4, 1) := by decide +kernel
theorem dX6_readTemplate_13 : decode cX6_readTemplate 13 = .ok (.invokevirtual 63, 3) := by decide +kernel
theorem dX6_readTemplate_16 : decode cX6_readTemplate 16 = .ok (.ireturn, 1) := by decide +kernel
theorem dX6_readTemplate_17 : decode cX6_readTemplate 17 = .ok (.aload_n 0, 1) := by decide +kernel
theorem dX6_readTemplate_18 : decode cX6_readTemplate 18 = .ok (.getfield 12, 3) := by decide +kernel
theorem dX6_readTemplate_21 : decode cX6_readTemplate 21 = .ok (.aload_n 0, 1) := by decide +kernel
theorem dX6_readTemplate_22 : decode cX6_readTemplate 22 = .ok (.getfield 12, 3) := by decide +kernel
theorem dX6_readTemplate_25 : decode cX6_readTemplate 25 = .ok (.getfield 47, 3) := by decide +kernel
theorem dX6_readTemplate_28 : decode cX6_readTemplate 28 = .ok (.invokevirtual 97, 3) := by decide +kernel
theorem dX6_readTemplate_31 : decode cX6_readTemplate 31 = .ok (.astore_n 1, 1) := by decide +kernel
theorem dX6_readTemplate_32 : decode cX6_readTemplate 32 = .ok (.iconst 0, 1) := by decide +kernel
theorem dX6_readTemplate_33 : decode cX6_readTemplate 33 = .ok (.istore_n 2, 1) := by decide +kernel
theorem dX6_readTemplate_34 : decode cX6_readTemplate 34 = .ok (.iload_n 2, 1) := by decide +kernel
theorem dX6_readTemplate_35 : decode cX6_readTemplate 35 = .ok (.bipush 9, 2) := by decide +kernel
theorem dX6_readTemplate_37 : decode cX6_readTemplate 37 = .ok (.if_icmp .gt 77, 3) := by decide +kernel
theorem dX6_readTemplate_40 : decode cX6_readTemplate 40 = .ok (.aload_n 0, 1) := by decide +kernel
theorem dX6_readTemplate_41 : decode cX6_readTemplate 41 = .ok (.invokevirtual 44, 3) := by decide +kernel
theorem dX6_readTemplate_44 : decode cX6_readTemplate 44 = .ok (.iload_n 2, 1) := by decide +kernel
theorem dX6_readTemplate_45 : decode cX6_readTemplate 45 = .ok (.ifCond .le 26, 3) := by decide +kernel
theorem dX6_readTemplate_48 : decode cX6_readTemplate 48 = .ok (.aload_n 0, 1) := by decide +kernel
theorem dX6_readTemplate_49 : decode cX6_readTemplate 49 = .ok (.getfield 28, 3) := by decide +kernel
theorem dX6_readTemplate_52 : decode cX6_readTemplate 52 = .ok (.iconst 4, 1) := by decide +kernel
theorem dX6_readTemplate_53 : decode cX6_readTemplate 53 = .ok (.if_icmp .ne 18, 3) := by decide +kernel
theorem dX6_readTemplate_56 : decode cX6_readTemplate 56 = .ok (.aload_n 0, 1) := by decide +kernel
theorem dX6_readTemplate_57 : decode cX6_readTemplate 57 = .ok (.getfield 12, 3) := by decide +kernel
theorem dX6_readTemplate_60 : decode cX6_readTemplate 60 = .ok (.dup, 1) := by decide +kernel
theorem dX6_readTemplate_61 : decode cX6_readTemplate 61 = .ok (.getfield 47, 3) := by decide +kernel
theorem dX6_readTemplate_64 : decode cX6_readTemplate 64 = .ok (.iconst 1, 1) := by decide +kernel
theorem dX6_readTemplate_65 : decode cX6_readTemplate 65 = .ok (.iadd, 1) := by decide +kernel
theorem dX6_readTemplate_66 : decode cX6_readTemplate 66 = .ok (.putfield 47, 3) := by decide +kernel
theorem dX6_readTemplate_69 : decode cX6_readTemplate 69 = .ok (.iconst 1, 1) := by decide +kernel
theorem dX6_readTemplate_70 : decode cX6_readTemplate 70 = .ok (.ireturn, 1) := by decide +kernel
theorem dX6_readTemplate_71 : decode cX6_readTemplate 71 = .ok (.aload_n 0, 1) := by decide +kernel
theorem dX6_readTemplate_72 : decode cX6_readTemplate 72 = .ok (.ldc 101, 2) := by decide +kernel
theorem dX6_readTemplate_74 : decode cX6_readTemplate 74 = .ok (.invokevirtual 59, 3) := by decide +kernel
theorem dX6_readTemplate_77 : decode cX6_readTemplate 77 = .ok (.istore_n 3, 1) := by decide +kernel
theorem dX6_readTemplate_78 : decode cX6_readTemplate 78 = .ok (.iload_n 3, 1) := by decide +kernel
theorem dX6_readTemplate_79 : decode cX6_readTemplate 79 = .ok (.iconst (-1), 1) := by decide +kernel
theorem dX6_readTemplate_80 : decode cX6_readTemplate 80 = .ok (.if_icmp .ne 9, 3) := by decide +kernel
theorem dX6_readTemplate_83 : decode cX6_readTemplate 83 = .ok (.aload_n 0, 1) := by decide +kernel
theorem dX6_readTemplate_84 : decode cX6_readTemplate 84 = .ok (.iconst 1, 1) := by decide +kernel
theorem dX6_readTemplate_85 : decode cX6_readTemplate 85 = .ok (.invokevirtual 63, 3) := by decide +kernel
theorem dX6_readTemplate_88 : decode cX6_readTemplate 88 = .ok (.ireturn, 1) := by decide +kernel
theorem dX6_readTemplate_89 : decode cX6_readTemplate 89 = .ok (.aload_n 1, 1) := by decide +kernel
theorem dX6_readTemplate_90 : decode cX6_readTemplate 90 = .ok (.iload_n 3, 1) := by decide +kernel
theorem dX6_readTemplate_91 : decode cX6_readTemplate 91 = .ok (.invokevirtual 103, 3) := by decide +kernel
theorem dX6_readTemplate_94 : decode cX6_readTemplate 94 = .ok (.ifCond .eq 9, 3) := by decide +kernel
theorem dX6_readTemplate_97 : decode cX6_readTemplate 97 = .ok (.aload_n 0, 1) := by decide +kernel
theorem dX6_readTemplate_98 : decode cX6_readTemplate 98 = .ok (.iconst 3, 1) := by decide +kernel
theorem dX6_readTemplate_99 : decode cX6_readTemplate 99 = .ok (.invokevirtual 63, 3) := by decide +kernel
theorem dX6_readTemplate_102 : decode cX6_readTemplate 102 = .ok (.ireturn, 1) := by decide +kernel
theorem dX6_readTemplate_103 : decode cX6_readTemplate 103 = .ok (.aload_n 1, 1) := by decide +kernel
theorem dX6_readTemplate_104 : decode cX6_readTemplate 104 = .ok (.iload_n 3, 1) := by decide +kernel
theorem dX6_readTemplate_105 : decode cX6_readTemplate 105 = .ok (.invokevirtual 108, 3) := by decide +kernel
theorem dX6_readTemplate_108 : decode cX6_readTemplate 108 = .ok (.iinc 2 1, 3) := by decide +kernel
theorem dX6_readTemplate_111 : decode cX6_readTemplate 111 = .ok (.goto (-77), 3) := by decide +kernel
theorem dX6_readTemplate_114 : decode cX6_readTemplate 114 = .ok (.aload_n 0, 1) := by decide +kernel
theorem dX6_readTemplate_115 : decode cX6_readTemplate 115 = .ok (.iconst 1, 1) := by decide +kernel
theorem dX6_readTemplate_116 : decode cX6_readTemplate 116 = .ok (.invokevirtual 63, 3) := by decide +kernel
theorem dX6_readTemplate_119 : decode cX6_readTemplate 119 = .ok (.ireturn, 1) := by decide +kernel
set_option maxRecDepth 20000 in
theorem ggX6_readUse_X6_readNumber : GoodIn wsX6_readUse wsX6_readNumber := goodIn_ca (goodIn_r _ [8, 9, 1, 10, 11, 12, 13, 14, 15, 7, 16, 17, 18, 19, 20, 21, 22, 23, 24, 25, 26, 27, 28, 29, 30, 31, 32, 33, 44, 45, 46, 47, 48, 49, 50, 51, 58, 59] rfl (by decide +kernel)) (goodIn_sub (fun _ h => List.mem_cons_of_mem _ (List.mem_append_right _ h)) (by decide +kernel))
set_option maxRecDepth 20000 in
theorem gX6_readUse_X6_readNumber : GoodIn wsX6_readUse (wsV RX6 89 RX6 yX6_readNumber wsX6_readNumber) := goodIn_app (goodIn_of _ (by decide +kernel)) ggX6_readUse_X6_readNumber
set_option maxRecDepth 20000 in
theorem ggX6_readUse_X1_use : GoodIn wsX6_readUse wsX1_use := goodIn_ca (goodIn_r _ [38, 39, 52, 53, 54, 55, 56, 57] rfl (by decide +kernel)) (goodIn_sub (fun _ h => List.mem_cons_of_mem _ (List.mem_append_right _ h)) (by decide +kernel))
set_option maxRecDepth 20000 in
theorem gX6_readUse_X1_use : GoodIn wsX6_readUse (wsV RX6 112 RX1 yX1_use wsX1_use) := goodIn_app (goodIn_of _ (by decide +kernel)) ggX6_readUse_X1_use
set_option maxRecDepth 20000 in
theorem ggX6_readUse_X6_readSemicolon : GoodIn wsX6_readUse wsX6_readSemicolon := goodIn_ca (goodIn_r _ [43, 9, 13, 14, 15, 7, 16, 11, 12, 17, 10, 18, 19, 20, 21, 22, 23, 24, 25, 26, 27, 28, 29, 30, 31, 32, 33, 44, 45, 46, 47, 48, 49, 50, 51, 58, 59] rfl (by decide +kernel)) (goodIn_sub (fun _ h => List.mem_cons_of_mem _ (List.mem_append_right _ h)) (by decide +kernel))
set_option maxRecDepth 20000 in
theorem gX6_readUse_X6_readSemicolon : GoodIn wsX6_readUse (wsV RX6 79 RX6 yX6_readSemicolon wsX6_readSemicolon) := goodIn_app (goodIn_of _ (by decide +kernel)) ggX6_readUse_X6_readSemicolon
theorem dX6_readUse_0 : decode cX6_readUse 0 = .ok (.aload_n 0, 1) := by decide +kernel
theorem dX6_readUse_1 : decode cX6_readUse 1 = .ok (.iconst 0, 1) := by decide +kernel
theorem dX6_readUse_2 : decode cX6_readUse 2 = .ok (.sipush 255, 3) := by decide +kernel
theorem dX6_readUse_5 : decode cX6_readUse 5 = .ok (.invokevirtual 89, 3) := by decide +kernel
theorem dX6_readUse_8 : decode cX6_readUse 8 = .ok (.ifCond .ne 5, 3) := by decide +kernel
theorem dX6_readUse_11 : decode cX6_readUse 11 = .ok (.iconst 0, 1) := by decide +kernel
theorem dX6_readUse_12 : decode cX6_readUse 12 = .ok (.ireturn, 1) := by decide +kernel
theorem dX6_readUse_13 : decode cX6_readUse 13 = .ok (.aload_n 0, 1) := by decide +kernel
theorem dX6_readUse_14 : decode cX6_readUse 14 = .ok (.getfield 34, 3) := by decide +kernel
theorem dX6_readUse_17 : decode cX6_readUse 17 = .ok (.istore_n 1, 1) := by decide +kernel
theorem dX6_readUse_18 : decode cX6_readUse 18 = .ok (.aload_n 0, 1) := by decide +kernel
theorem dX6_readUse_19 : decode cX6_readUse 19 = .ok (.iconst 0, 1) := by decide +kernel
theorem dX6_readUse_20 : decode cX6_readUse 20 = .ok (.aload_n 0, 1) := by decide +kernel
theorem dX6_readUse_21 : decode cX6_readUse 21 = .ok (.getfield 12, 3) := by decide +kernel
theorem dX6_readUse_24 : decode cX6_readUse 24 = .ok (.getfield 47, 3) := by decide +kernel
theorem dX6_readUse_27 : decode cX6_readUse 27 = .ok (.iconst 1, 1) := by decide +kernel
theorem dX6_readUse_28 : decode cX6_readUse 28 = .ok (.isub, 1) := by decide +kernel
theorem dX6_readUse_29 : decode cX6_readUse 29 = .ok (.invokevirtual 89, 3) := by decide +kernel
theorem dX6_readUse_32 : decode cX6_readUse 32 = .ok (.ifCond .ne 5, 3) := by decide +kernel
theorem dX6_readUse_35 : decode cX6_readUse 35 = .ok (.iconst 0, 1) := by decide +kernel
theorem dX6_readUse_36 : decode cX6_readUse 36 = .ok (.ireturn, 1) := by decide +kernel
theorem dX6_readUse_37 : decode cX6_readUse 37 = .ok (.aload_n 0, 1) := by decide +kernel
theorem dX6_readUse_38 : decode cX6_readUse 38 = .ok (.getfield 12, 3) := by decide +kernel
theorem dX6_readUse_41 : decode cX6_readUse 41 = .ok (.iload_n 1, 1) := by decide +kernel
theorem dX6_readUse_42 : decode cX6_readUse 42 = .ok (.aload_n 0, 1) := by decide +kernel
theorem dX6_readUse_43 : decode cX6_readUse 43 = .ok (.getfield 34, 3) := by decide +kernel
theorem dX6_readUse_46 : decode cX6_readUse 46 = .ok (.invokevirtual 112, 3) := by decide +kernel
theorem dX6_readUse_49 : decode cX6_readUse 49 = .ok (.aload_n 0, 1) := by decide +kernel
theorem dX6_readUse_50 : decode cX6_readUse 50 = .ok (.invokevirtual 79, 3) := by decide +kernel
theorem dX6_readUse_53 : decode cX6_readUse 53 = .ok (.ireturn, 1) := by decide +kernel
set_option maxRecDepth 20000 in
theorem ggX6_readDrop_X6_nextToken : GoodIn wsX6_readDrop wsX6_nextToken := goodIn_ca (goodIn_r _ [7, 8, 9, 10, 11, 12, 13, 14, 15, 16, 17, 18, 19, 20, 21, 6, 22, 90, 91, 92, 93, 94, 95, 96, 97, 104, 105] rfl (by decide +kernel)) (goodIn_sub (fun _ h => List.mem_cons_of_mem _ (List.mem_append_right _ h)) (by decide +kernel))
set_option maxRecDepth 20000 in
theorem gX6_readDrop_X6_nextToken : GoodIn wsX6_readDrop (wsV RX6 44 RX6 yX6_nextToken wsX6_nextToken) := goodIn_app (goodIn_of _ (by decide +kernel)) ggX6_readDrop_X6_nextToken
set_option maxRecDepth 20000 in
theorem ggX6_readDrop_X6_wordIn : GoodIn wsX6_readDrop wsX6_wordIn := goodIn_ca (goodIn_r _ [26, 12, 27, 28, 29, 30, 31, 32, 33, 34, 35, 36, 37, 38, 39, 40, 41, 42, 43, 44, 45, 46, 47, 48, 49, 50, 51, 52, 53, 54, 55, 56, 57, 58, 59, 60, 61, 62, 63, 64, 65, 66, 67, 68, 69, 70, 71, 72, 73, 74, 75, 76, 77, 78, 6, 79, 8, 11, 9, 13, 14, 15, 16, 17, 18, 19, 90, 91, 92, 93, 94, 95, 96, 97, 106, 107, 104, 105] rfl (by decide +kernel)) (goodIn_sub (fun _ h => List.mem_cons_of_mem _ (List.mem_append_right _ h)) (by decide +kernel))
set_option maxRecDepth 20000 in
theorem gX6_readDrop_X6_wordIn : GoodIn wsX6_readDrop (wsV RX6 59 RX6 yX6_wordIn wsX6_wordIn) := goodIn_app (goodIn_of _ (by decide +kernel)) ggX6_readDrop_X6_wordIn
set_option maxRecDepth 20000 in
theorem ggX6_readDrop_X6_fail : GoodIn wsX6_readDrop wsX6_fail := goodIn_r _ [83, 84, 11, 85, 90, 91, 92, 93, 94, 95, 96, 97] rfl (by decide +kernel)
set_option maxRecDepth 20000 in
theorem gX6_readDrop_X6_fail : GoodIn wsX6_readDrop (wsV RX6 63 RX6 yX6_fail wsX6_fail) := goodIn_app (goodIn_of _ (by decide +kernel)) ggX6_readDrop_X6_fail
set_option maxRecDepth 20000 in
theorem ggX6_readDrop_X6_readSemicolon : GoodIn wsX6_readDrop wsX6_readSemicolon := goodIn_ca (goodIn_r _ [89, 12, 3, 4, 5, 6, 7, 8, 9, 10, 11, 13, 14, 15, 16, 17, 18, 19, 20, 21, 22, 80, 81, 82, 83, 84, 85, 90, 91, 92, 93, 94, 95, 96, 97, 104, 105] rfl (by decide +kernel)) (goodIn_sub (fun _ h => List.mem_cons_of_mem _ (List.mem_append_right _ h)) (by decide +kernel))
set_option maxRecDepth 20000 in
theorem gX6_readDrop_X6_readSemicolon : GoodIn wsX6_readDrop (wsV RX6 79 RX6 yX6_readSemicolon wsX6_readSemicolon) := goodIn_app (goodIn_of _ (by decide +kernel)) ggX6_readDrop_X6_readSemicolon
theorem dX6_readDrop_0 : decode cX6_readDrop 0 = .ok (.aload_n 0, 1) := by decide +kernel
theorem dX6_readDrop_1 : decode cX6_readDrop 1 = .ok (.invokevirtual 44, 3) := by decide +kernel
theorem dX6_readDrop_4 : decode cX6_readDrop 4 = .ok (.aload_n 0, 1) := by decide +kernel
theorem dX6_readDrop_5 : decode cX6_readDrop 5 = .ok (.ldc 101, 2) := by decide +kernel
theorem dX6_readDrop_7 : decode cX6_readDrop 7 = .ok (.invokevirtual 59, 3) := by decide +kernel
theorem dX6_readDrop_10 : decode cX6_readDrop 10 = .ok (.istore_n 1, 1) := by decide +kernel
theorem dX6_readDrop_11 : decode cX6_readDrop 11 = .ok (.iload_n 1, 1) := by decide +kernel
theorem dX6_readDrop_12 : decode cX6_readDrop 12 = .ok (.iconst (-1), 1) := by decide +kernel
theorem dX6_readDrop_13 : decode cX6_readDrop 13 = .ok (.if_icmp .ne 9, 3) := by decide +kernel
theorem dX6_readDrop_16 : decode cX6_readDrop 16 = .ok (.aload_n 0, 1) := by decide +kernel
theorem dX6_readDrop_17 : decode cX6_readDrop 17 = .ok (.iconst 1, 1) := by decide +kernel
theorem dX6_readDrop_18 : decode cX6_readDrop 18 = .ok (.invokevirtual 63, 3) := by decide +kernel
theorem dX6_readDrop_21 : decode cX6_readDrop 21 = .ok (.ireturn, 1) := by decide +kernel
theorem dX6_readDrop_22 : decode cX6_readDrop 22 = .ok (.aload_n 0, 1) := by decide +kernel
theorem dX6_readDrop_23 : decode cX6_readDrop 23 = .ok (.getfield 12, 3) := by decide +kernel
theorem dX6_readDrop_26 : decode cX6_readDrop 26 = .ok (.dup, 1) := by decide +kernel
theorem dX6_readDrop_27 : decode cX6_readDrop 27 = .ok (.getfield 115, 3) := by decide +kernel
theorem dX6_readDrop_30 : decode cX6_readDrop 30 = .ok (.iconst 1, 1) := by decide +kernel
theorem dX6_readDrop_31 : decode cX6_readDrop 31 = .ok (.iload_n 1, 1) := by decide +kernel
theorem dX6_readDrop_32 : decode cX6_readDrop 32 = .ok (.ishl, 1) := by decide +kernel
theorem dX6_readDrop_33 : decode cX6_readDrop 33 = .ok (.iconst (-1), 1) := by decide +kernel
theorem dX6_readDrop_34 : decode cX6_readDrop 34 = .ok (.ixor, 1) := by decide +kernel
theorem dX6_readDrop_35 : decode cX6_readDrop 35 = .ok (.iand, 1) := by decide +kernel
theorem dX6_readDrop_36 : decode cX6_readDrop 36 = .ok (.putfield 115, 3) := by decide +kernel
theorem dX6_readDrop_39 : decode cX6_readDrop 39 = .ok (.aload_n 0, 1) := by decide +kernel
theorem dX6_readDrop_40 : decode cX6_readDrop 40 = .ok (.invokevirtual 79, 3) := by decide +kernel
theorem dX6_readDrop_43 : decode cX6_readDrop 43 = .ok (.ireturn, 1) := by decide +kernel
set_option maxRecDepth 20000 in
theorem ggX6_wordIn_J0_length_8abf5 : GoodIn wsX6_wordIn wsJ0_length_8abf5 := goodIn_r _ [6, 7, 8, 9, 10, 5, 11, 12, 13, 74, 75] rfl (by decide +kernel)
set_option maxRecDepth 20000 in
theorem gX6_wordIn_J0_length_8abf5 : GoodIn wsX6_wordIn (wsV RX6 124 RJ0 yJ0_length_8abf5 wsJ0_length_8abf5) := goodIn_app (goodIn_of _ (by decide +kernel)) ggX6_wordIn_J0_length_8abf5
set_option maxRecDepth 20000 in
theorem ggX6_wordIn_J0_charAt_5068e : GoodIn wsX6_wordIn wsJ0_charAt_5068e := goodIn_r _ [17, 7, 18, 19, 20, 5, 21, 12, 13, 22, 23, 24, 25, 26, 27, 28, 29, 30, 31, 32, 33, 34, 35, 36, 37, 38, 39, 40, 41, 42, 43, 44, 45, 46, 47, 48, 49, 50, 74, 75] rfl (by decide +kernel)
set_option maxRecDepth 20000 in
theorem gX6_wordIn_J0_charAt_5068e : GoodIn wsX6_wordIn (wsV RX6 130 RJ0 yJ0_charAt_5068e wsJ0_charAt_5068e) := goodIn_app (goodIn_of _ (by decide +kernel)) ggX6_wordIn_J0_charAt_5068e
set_option maxRecDepth 20000 in
theorem ggX6_wordIn_X6_isToken : GoodIn wsX6_wordIn wsX6_isToken := goodIn_ca (goodIn_r _ [55, 56, 57, 58, 2, 3, 4, 5, 6, 7, 8, 9, 10, 11, 12, 13, 14, 15, 16, 17, 18, 19, 20, 21, 22, 23, 24, 25, 26, 27, 28, 29, 30, 31, 32, 33, 34, 35, 36, 37, 38, 39, 40, 41, 42, 43, 44, 45, 46, 47, 48, 49, 50, 59, 60, 61, 62, 63, 64, 65, 66, 67, 68, 69, 70, 71, 72, 73, 74, 75, 76, 77] rfl (by decide +kernel)) (goodIn_sub (fun _ h => List.mem_cons_of_mem _ (List.mem_append_right _ h)) (by decide +kernel))
set_option maxRecDepth 20000 in
theorem gX6_wordIn_X6_isToken : GoodIn wsX6_wordIn (wsV RX6 134 RX6 yX6_isToken wsX6_isToken) := goodIn_app (goodIn_of _ (by decide +kernel)) ggX6_wordIn_X6_isToken
theorem dX6_wordIn_0 : decode cX6_wordIn 0 = .ok (.aload_n 0, 1) := by decide +kernel
theorem dX6_wordIn_1 : decode cX6_wordIn 1 = .ok (.getfield 28, 3) := by decide +kernel
theorem dX6_wordIn_4 : decode cX6_wordIn 4 = .ok (.iconst 2, 1) := by decide +kernel
theorem dX6_wordIn_5 : decode cX6_wordIn 5 = .ok (.if_icmp .eq 5, 3) := by decide +kernel
theorem dX6_wordIn_8 : decode cX6_wordIn 8 = .ok (.iconst (-1), 1) := by decide +kernel
theorem dX6_wordIn_9 : decode cX6_wordIn 9 = .ok (.ireturn, 1) := by decide +kernel
theorem dX6_wordIn_10 : decode cX6_wordIn 10 = .ok (.iconst 0, 1) := by decide +kernel
theorem dX6_wordIn_11 : decode cX6_wordIn 11 = .ok (.istore_n 2, 1) := by decide +kernel
theorem dX6_wordIn_12 : decode cX6_wordIn 12 = .ok (.iconst 0, 1) := by decide +kernel
theorem dX6_wordIn_13 : decode cX6_wordIn 13 = .ok (.istore_n 3, 1) := by decide +kernel
theorem dX6_wordIn_14 : decode cX6_wordIn 14 = .ok (.iconst 0, 1) := by decide +kernel
theorem dX6_wordIn_15 : decode cX6_wordIn 15 = .ok (.istore 4, 2) := by decide +kernel
theorem dX6_wordIn_17 : decode cX6_wordIn 17 = .ok (.iload 4, 2) := by decide +kernel
theorem dX6_wordIn_19 : decode cX6_wordIn 19 = .ok (.aload_n 1, 1) := by decide +kernel
theorem dX6_wordIn_20 : decode cX6_wordIn 20 = .ok (.invokevirtual 124, 3) := by decide +kernel
theorem dX6_wordIn_23 : decode cX6_wordIn 23 = .ok (.if_icmp .gt 50, 3) := by decide +kernel
theorem dX6_wordIn_26 : decode cX6_wordIn 26 = .ok (.iload 4, 2) := by decide +kernel
theorem dX6_wordIn_28 : decode cX6_wordIn 28 = .ok (.aload_n 1, 1) := by decide +kernel
theorem dX6_wordIn_29 : decode cX6_wordIn 29 = .ok (.invokevirtual 124, 3) := by decide +kernel
theorem dX6_wordIn_32 : decode cX6_wordIn 32 = .ok (.if_icmp .eq 14, 3) := by decide +kernel
theorem dX6_wordIn_35 : decode cX6_wordIn 35 = .ok (.aload_n 1, 1) := by decide +kernel
theorem dX6_wordIn_36 : decode cX6_wordIn 36 = .ok (.iload 4, 2) := by decide +kernel
theorem dX6_wordIn_38 : decode cX6_wordIn 38 = .ok (.invokevirtual 130, 3) := by decide +kernel
theorem dX6_wordIn_41 : decode cX6_wordIn 41 = .ok (.bipush 32, 2) := by decide +kernel
theorem dX6_wordIn_43 : decode cX6_wordIn 43 = .ok (.if_icmp .ne 24, 3) := by decide +kernel
theorem dX6_wordIn_46 : decode cX6_wordIn 46 = .ok (.aload_n 0, 1) := by decide +kernel
theorem dX6_wordIn_47 : decode cX6_wordIn 47 = .ok (.aload_n 1, 1) := by decide +kernel
theorem dX6_wordIn_48 : decode cX6_wordIn 48 = .ok (.iload_n 3, 1) := by decide +kernel
theorem dX6_wordIn_49 : decode cX6_wordIn 49 = .ok (.iload 4, 2) := by decide +kernel
theorem dX6_wordIn_51 : decode cX6_wordIn 51 = .ok (.invokevirtual 134, 3) := by decide +kernel
theorem dX6_wordIn_54 : decode cX6_wordIn 54 = .ok (.ifCond .eq 5, 3) := by decide +kernel
theorem dX6_wordIn_57 : decode cX6_wordIn 57 = .ok (.iload_n 2, 1) := by decide +kernel
theorem dX6_wordIn_58 : decode cX6_wordIn 58 = .ok (.ireturn, 1) := by decide +kernel
theorem dX6_wordIn_59 : decode cX6_wordIn 59 = .ok (.iinc 2 1, 3) := by decide +kernel
theorem dX6_wordIn_62 : decode cX6_wordIn 62 = .ok (.iload 4, 2) := by decide +kernel
theorem dX6_wordIn_64 : decode cX6_wordIn 64 = .ok (.iconst 1, 1) := by decide +kernel
theorem dX6_wordIn_65 : decode cX6_wordIn 65 = .ok (.iadd, 1) := by decide +kernel
theorem dX6_wordIn_66 : decode cX6_wordIn 66 = .ok (.istore_n 3, 1) := by decide +kernel
theorem dX6_wordIn_67 : decode cX6_wordIn 67 = .ok (.iinc 4 1, 3) := by decide +kernel
theorem dX6_wordIn_70 : decode cX6_wordIn 70 = .ok (.goto (-53), 3) := by decide +kernel
theorem dX6_wordIn_73 : decode cX6_wordIn 73 = .ok (.iconst (-1), 1) := by decide +kernel
theorem dX6_wordIn_74 : decode cX6_wordIn 74 = .ok (.ireturn, 1) := by decide +kernel
set_option maxRecDepth 20000 in
theorem ggX11_load_X6_readText : GoodIn wsX11_load wsX6_readText := goodIn_ca (goodIn_r _ [8, 9, 10, 11, 12, 13, 14, 15, 16, 17, 18, 19, 20, 21, 22, 23, 24, 25, 26, 27, 28, 29, 30, 31, 32, 33, 34, 35, 36, 37, 38, 39, 40, 41, 42, 43, 7, 44, 45, 46, 47, 48, 49, 50, 51, 52, 53, 54, 55, 56, 57, 58, 59, 60, 61, 62, 63, 64, 65, 66, 67, 68, 69, 70, 71, 72, 73, 74, 75, 76, 77, 78, 79, 80, 81, 82, 83, 84, 85, 86, 87, 88, 89, 90, 91, 92, 93, 94, 95, 96, 97, 98, 99, 100, 101, 102, 103, 104, 105, 106, 107, 108, 109, 110, 111, 112, 113, 114, 115, 116, 117, 118, 119, 120, 121, 122, 123, 124, 125, 126, 127, 128, 129, 130, 131, 132, 133, 134, 135, 136, 137, 138, 139, 140, 141, 142, 143, 144, 145, 146, 147, 148, 149, 150, 151, 152, 153, 154, 155, 156, 157, 158, 159, 160, 161, 162, 163, 164, 165, 166, 167, 168, 169, 170, 171, 172, 173, 174, 288, 289, 290, 291, 292, 293, 294, 295, 296, 297, 298, 299, 300, 301, 302, 303, 304, 305, 286, 287, 306, 307] rfl (by decide +kernel)) (goodIn_sub (fun _ h => List.mem_cons_of_mem _ (List.mem_append_right _ h)) (by decide +kernel))
set_option maxRecDepth 20000 in
theorem gX11_load_X6_readText : GoodIn wsX11_load (wsV RX11 75 RX6 yX6_readText wsX6_readText) := goodIn_app (goodIn_of _ (by decide +kernel)) ggX11_load_X6_readText
set_option maxRecDepth 20000 in
theorem ggX11_load_X11_startAnew : GoodIn wsX11_load wsX11_startAnew := goodIn_ca (goodIn_r _ [179, 180, 1, 181, 182, 183, 184, 185, 186, 187, 188, 189, 190, 18, 191, 20, 21, 22, 23, 24, 25, 26, 27, 28, 192, 193, 194, 36, 195, 38, 196, 34, 35, 37, 39, 40, 197, 198, 199, 200, 66, 201, 63, 64, 65, 202, 203, 204, 205, 206, 207, 208, 209, 210, 211, 212, 213, 214, 215, 216, 217, 218, 219, 220, 221, 222, 223, 224, 225, 226, 227, 228, 229, 230, 231, 232, 233, 234, 235, 236, 237, 238, 30, 31, 32, 239, 240, 241, 242, 243, 244, 245, 246, 247, 248, 249, 250, 251, 252, 253, 254, 255, 256, 257, 258, 259, 260, 261, 262, 263, 264, 265, 266, 267, 268, 269, 270, 271, 272, 273, 274, 275, 276, 277, 278, 279, 280, 281, 282, 283, 284, 285, 288, 289, 290, 291, 292, 293, 294, 295, 308, 309, 310, 311, 312, 296, 297, 298, 299, 300, 301, 302, 303, 304, 305, 313, 314, 315, 316, 317, 318, 319, 320, 321, 322, 323, 324, 325, 286, 287, 326, 327, 328, 329, 330, 331, 332, 333, 334, 335, 336, 337, 338, 339, 340, 341, 342, 343, 344, 345, 346, 347, 348, 349, 350, 351, 352] rfl (by decide +kernel)) (goodIn_sub (fun _ h => List.mem_cons_of_mem _ (List.mem_append_right _ h)) (by decide +kernel))
set_option maxRecDepth 20000 in
theorem gX11_load_X11_startAnew : GoodIn wsX11_load (wsV RX11 79 RX11 yX11_startAnew wsX11_startAnew) := goodIn_app (goodIn_of _ (by decide +kernel)) ggX11_load_X11_startAnew
theorem dX11_load_0 : decode cX11_load 0 = .ok (.aload_n 0, 1) := by decide +kernel
theorem dX11_load_1 : decode cX11_load 1 = .ok (.getfield 30, 3) := by decide +kernel
theorem dX11_load_4 : decode cX11_load 4 = .ok (.invokevirtual 75, 3) := by decide +kernel
theorem dX11_load_7 : decode cX11_load 7 = .ok (.istore_n 1, 1) := by decide +kernel
theorem dX11_load_8 : decode cX11_load 8 = .ok (.aload_n 0, 1) := by decide +kernel
theorem dX11_load_9 : decode cX11_load 9 = .ok (.getfield 14, 3) := by decide +kernel
theorem dX11_load_12 : decode cX11_load 12 = .ok (.iconst 0, 1) := by decide +kernel
theorem dX11_load_13 : decode cX11_load 13 = .ok (.putfield 97, 3) := by decide +kernel
theorem dX11_load_16 : decode cX11_load 16 = .ok (.iload_n 1, 1) := by decide +kernel
theorem dX11_load_17 : decode cX11_load 17 = .ok (.ifCond .lt 7, 3) := by decide +kernel
theorem dX11_load_20 : decode cX11_load 20 = .ok (.aload_n 0, 1) := by decide +kernel
theorem dX11_load_21 : decode cX11_load 21 = .ok (.invokevirtual 79, 3) := by decide +kernel
theorem dX11_load_24 : decode cX11_load 24 = .ok (.iload_n 1, 1) := by decide +kernel
theorem dX11_load_25 : decode cX11_load 25 = .ok (.ireturn, 1) := by decide +kernel

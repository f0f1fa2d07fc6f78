set_option maxRecDepth 20000 in
theorem ggX0_take_X5_intAt : GoodIn wsX0_take wsX5_intAt := goodIn_ca (goodIn_r _ [11, 12, 13, 14, 10, 15, 16, 17, 164, 165] rfl (by decide +kernel)) (goodIn_sub (fun _ h => List.mem_cons_of_mem _ (List.mem_append_right _ h)) (by decide +kernel))
set_option maxRecDepth 20000 in
theorem gX0_take_X5_intAt : GoodIn wsX0_take (wsV RX0 92 RX5 yX5_intAt wsX5_intAt) := goodIn_app (goodIn_of _ (by decide +kernel)) ggX0_take_X5_intAt
set_option maxRecDepth 20000 in
theorem ggX0_take_X0_isRecent : GoodIn wsX0_take wsX0_isRecent := goodIn_ca (goodIn_r _ [22, 23, 24, 25, 152, 153, 154, 155, 156, 157, 158, 159, 160, 161, 162, 163] rfl (by decide +kernel)) (goodIn_sub (fun _ h => List.mem_cons_of_mem _ (List.mem_append_right _ h)) (by decide +kernel))
set_option maxRecDepth 20000 in
theorem gX0_take_X0_isRecent : GoodIn wsX0_take (wsV RX0 95 RX0 yX0_isRecent wsX0_isRecent) := goodIn_app (goodIn_of _ (by decide +kernel)) ggX0_take_X0_isRecent
set_option maxRecDepth 20000 in
theorem ggX0_take_X0_account : GoodIn wsX0_take wsX0_account := goodIn_ca (goodIn_r _ [29, 30, 31, 1, 32, 33, 5, 34, 23, 24, 25, 35, 36, 37, 21, 38, 152, 153, 154, 155, 156, 157, 158, 159, 160, 161, 162, 163] rfl (by decide +kernel)) (goodIn_sub (fun _ h => List.mem_cons_of_mem _ (List.mem_append_right _ h)) (by decide +kernel))
set_option maxRecDepth 20000 in
theorem gX0_take_X0_account : GoodIn wsX0_take (wsV RX0 103 RX0 yX0_account wsX0_account) := goodIn_app (goodIn_of _ (by decide +kernel)) ggX0_take_X0_account
set_option maxRecDepth 20000 in
theorem ggX0_take_X0_readSets : GoodIn wsX0_take wsX0_readSets := goodIn_ca (goodIn_r _ [42, 2, 1, 7, 8, 9, 10, 11, 12, 13, 14, 15, 16, 17, 43, 44, 45, 21, 46, 47, 48, 49, 50, 51, 52, 53, 54, 55, 56, 57, 58, 59, 60, 61, 62, 63, 64, 65, 66, 67, 68, 69, 70, 71, 72, 73, 74, 75, 76, 77, 78, 79, 80, 81, 82, 83, 84, 85, 86, 87, 88, 89, 90, 91, 92, 93, 94, 95, 96, 97, 98, 99, 100, 101, 102, 103, 104, 105, 106, 107, 108, 109, 110, 111, 112, 113, 114, 115, 116, 117, 118, 119, 120, 121, 122, 123, 124, 125, 126, 127, 128, 129, 130, 131, 132, 133, 134, 135, 136, 137, 138, 139, 140, 141, 142, 143, 144, 145, 146, 5, 147, 148, 149, 150, 151, 164, 165, 152, 153, 154, 155, 156, 157, 158, 159, 160, 161, 162, 163, 166, 167, 168, 169, 170, 171, 172, 173, 174, 175, 176, 177, 178, 179, 180] rfl (by decide +kernel)) (goodIn_sub (fun _ h => List.mem_cons_of_mem _ (List.mem_append_right _ h)) (by decide +kernel))
set_option maxRecDepth 20000 in
theorem gX0_take_X0_readSets : GoodIn wsX0_take (wsV RX0 107 RX0 yX0_readSets wsX0_readSets) := goodIn_app (goodIn_of _ (by decide +kernel)) ggX0_take_X0_readSets
theorem dX0_take_0 : decode cX0_take 0 = .ok (.aload_n 0, 1) := by decide +kernel
theorem dX0_take_1 : decode cX0_take 1 = .ok (.getfield 32, 3) := by decide +kernel
theorem dX0_take_4 : decode cX0_take 4 = .ok (.bipush 8, 2) := by decide +kernel
theorem dX0_take_6 : decode cX0_take 6 = .ok (.dup2, 1) := by decide +kernel
theorem dX0_take_7 : decode cX0_take 7 = .ok (.laload, 1) := by decide +kernel
theorem dX0_take_8 : decode cX0_take 8 = .ok (.lconst 1, 1) := by decide +kernel
theorem dX0_take_9 : decode cX0_take 9 = .ok (.ladd, 1) := by decide +kernel
theorem dX0_take_10 : decode cX0_take 10 = .ok (.lastore, 1) := by decide +kernel
theorem dX0_take_11 : decode cX0_take 11 = .ok (.aload_n 1, 1) := by decide +kernel
theorem dX0_take_12 : decode cX0_take 12 = .ok (.getfield 87, 3) := by decide +kernel
theorem dX0_take_15 : decode cX0_take 15 = .ok (.bipush 16, 2) := by decide +kernel
theorem dX0_take_17 : decode cX0_take 17 = .ok (.if_icmp .lt 27, 3) := by decide +kernel
theorem dX0_take_20 : decode cX0_take 20 = .ok (.aload_n 1, 1) := by decide +kernel
theorem dX0_take_21 : decode cX0_take 21 = .ok (.iconst 0, 1) := by decide +kernel
theorem dX0_take_22 : decode cX0_take 22 = .ok (.iconst 2, 1) := by decide +kernel
theorem dX0_take_23 : decode cX0_take 23 = .ok (.invokevirtual 92, 3) := by decide +kernel
theorem dX0_take_26 : decode cX0_take 26 = .ok (.bipush 10, 2) := by decide +kernel
theorem dX0_take_28 : decode cX0_take 28 = .ok (.if_icmp .ne 16, 3) := by decide +kernel
theorem dX0_take_31 : decode cX0_take 31 = .ok (.aload_n 1, 1) := by decide +kernel
theorem dX0_take_32 : decode cX0_take 32 = .ok (.iconst 2, 1) := by decide +kernel
theorem dX0_take_33 : decode cX0_take 33 = .ok (.iconst 2, 1) := by decide +kernel
theorem dX0_take_34 : decode cX0_take 34 = .ok (.invokevirtual 92, 3) := by decide +kernel
theorem dX0_take_37 : decode cX0_take 37 = .ok (.aload_n 1, 1) := by decide +kernel
theorem dX0_take_38 : decode cX0_take 38 = .ok (.getfield 87, 3) := by decide +kernel
theorem dX0_take_41 : decode cX0_take 41 = .ok (.if_icmp .eq 15, 3) := by decide +kernel
theorem dX0_take_44 : decode cX0_take 44 = .ok (.aload_n 0, 1) := by decide +kernel
theorem dX0_take_45 : decode cX0_take 45 = .ok (.getfield 32, 3) := by decide +kernel
theorem dX0_take_48 : decode cX0_take 48 = .ok (.iconst 4, 1) := by decide +kernel
theorem dX0_take_49 : decode cX0_take 49 = .ok (.dup2, 1) := by decide +kernel
theorem dX0_take_50 : decode cX0_take 50 = .ok (.laload, 1) := by decide +kernel
theorem dX0_take_51 : decode cX0_take 51 = .ok (.lconst 1, 1) := by decide +kernel
theorem dX0_take_52 : decode cX0_take 52 = .ok (.ladd, 1) := by decide +kernel
theorem dX0_take_53 : decode cX0_take 53 = .ok (.lastore, 1) := by decide +kernel
theorem dX0_take_54 : decode cX0_take 54 = .ok (.iconst 0, 1) := by decide +kernel
theorem dX0_take_55 : decode cX0_take 55 = .ok (.ireturn, 1) := by decide +kernel
theorem dX0_take_56 : decode cX0_take 56 = .ok (.aload_n 1, 1) := by decide +kernel
theorem dX0_take_57 : decode cX0_take 57 = .ok (.iconst 4, 1) := by decide +kernel
theorem dX0_take_58 : decode cX0_take 58 = .ok (.iconst 4, 1) := by decide +kernel
theorem dX0_take_59 : decode cX0_take 59 = .ok (.invokevirtual 92, 3) := by decide +kernel
theorem dX0_take_62 : decode cX0_take 62 = .ok (.istore_n 3, 1) := by decide +kernel
theorem dX0_take_63 : decode cX0_take 63 = .ok (.aload_n 1, 1) := by decide +kernel
theorem dX0_take_64 : decode cX0_take 64 = .ok (.bipush 8, 2) := by decide +kernel
theorem dX0_take_66 : decode cX0_take 66 = .ok (.iconst 4, 1) := by decide +kernel
theorem dX0_take_67 : decode cX0_take 67 = .ok (.invokevirtual 92, 3) := by decide +kernel
theorem dX0_take_70 : decode cX0_take 70 = .ok (.istore 4, 2) := by decide +kernel
theorem dX0_take_72 : decode cX0_take 72 = .ok (.aload_n 0, 1) := by decide +kernel
theorem dX0_take_73 : decode cX0_take 73 = .ok (.iload 4, 2) := by decide +kernel
theorem dX0_take_75 : decode cX0_take 75 = .ok (.iload_n 3, 1) := by decide +kernel
theorem dX0_take_76 : decode cX0_take 76 = .ok (.invokevirtual 95, 3) := by decide +kernel
theorem dX0_take_79 : decode cX0_take 79 = .ok (.ifCond .eq 15, 3) := by decide +kernel
theorem dX0_take_82 : decode cX0_take 82 = .ok (.aload_n 0, 1) := by decide +kernel
theorem dX0_take_83 : decode cX0_take 83 = .ok (.getfield 32, 3) := by decide +kernel
theorem dX0_take_86 : decode cX0_take 86 = .ok (.iconst 2, 1) := by decide +kernel
theorem dX0_take_87 : decode cX0_take 87 = .ok (.dup2, 1) := by decide +kernel
theorem dX0_take_88 : decode cX0_take 88 = .ok (.laload, 1) := by decide +kernel
theorem dX0_take_89 : decode cX0_take 89 = .ok (.lconst 1, 1) := by decide +kernel
theorem dX0_take_90 : decode cX0_take 90 = .ok (.ladd, 1) := by decide +kernel
theorem dX0_take_91 : decode cX0_take 91 = .ok (.lastore, 1) := by decide +kernel
theorem dX0_take_92 : decode cX0_take 92 = .ok (.iconst 0, 1) := by decide +kernel
theorem dX0_take_93 : decode cX0_take 93 = .ok (.ireturn, 1) := by decide +kernel
theorem dX0_take_94 : decode cX0_take 94 = .ok (.aload_n 0, 1) := by decide +kernel
theorem dX0_take_95 : decode cX0_take 95 = .ok (.iload 4, 2) := by decide +kernel
theorem dX0_take_97 : decode cX0_take 97 = .ok (.iload_n 3, 1) := by decide +kernel
theorem dX0_take_98 : decode cX0_take 98 = .ok (.iconst 0, 1) := by decide +kernel
theorem dX0_take_99 : decode cX0_take 99 = .ok (.aload_n 1, 1) := by decide +kernel
theorem dX0_take_100 : decode cX0_take 100 = .ok (.bipush 12, 2) := by decide +kernel
theorem dX0_take_102 : decode cX0_take 102 = .ok (.iconst 4, 1) := by decide +kernel
theorem dX0_take_103 : decode cX0_take 103 = .ok (.invokevirtual 92, 3) := by decide +kernel
theorem dX0_take_106 : decode cX0_take 106 = .ok (.invokestatic 98, 3) := by decide +kernel
theorem dX0_take_109 : decode cX0_take 109 = .ok (.invokevirtual 103, 3) := by decide +kernel
theorem dX0_take_112 : decode cX0_take 112 = .ok (.aload_n 0, 1) := by decide +kernel
theorem dX0_take_113 : decode cX0_take 113 = .ok (.aload_n 1, 1) := by decide +kernel
theorem dX0_take_114 : decode cX0_take 114 = .ok (.iload_n 2, 1) := by decide +kernel
theorem dX0_take_115 : decode cX0_take 115 = .ok (.invokevirtual 107, 3) := by decide +kernel
theorem dX0_take_118 : decode cX0_take 118 = .ok (.ireturn, 1) := by decide +kernel
set_option maxRecDepth 20000 in
theorem ggX11_startAnew_X1_copyFrom : GoodIn wsX11_startAnew wsX1_copyFrom := goodIn_ca (goodIn_r _ [14, 15, 16, 17, 18, 19, 20, 21, 22, 23, 24, 25, 26, 27, 28, 29, 30, 31, 32, 33, 34, 35, 36, 37, 38, 39, 40, 41, 42, 43, 44, 45, 46, 47, 13, 48, 49, 145, 146, 147, 148, 149, 150, 151, 152, 153, 154] rfl (by decide +kernel)) (goodIn_sub (fun _ h => List.mem_cons_of_mem _ (List.mem_append_right _ h)) (by decide +kernel))
set_option maxRecDepth 20000 in
theorem gX11_startAnew_X1_copyFrom : GoodIn wsX11_startAnew (wsV RX11 83 RX1 yX1_copyFrom wsX1_copyFrom) := goodIn_app (goodIn_of _ (by decide +kernel)) ggX11_startAnew_X1_copyFrom
set_option maxRecDepth 20000 in
theorem ggX11_startAnew_X7_clear : GoodIn wsX11_startAnew wsX7_clear := goodIn_r _ [54, 55, 56, 155, 156, 157] rfl (by decide +kernel)
set_option maxRecDepth 20000 in
theorem gX11_startAnew_X7_clear : GoodIn wsX11_startAnew (wsV RX11 87 RX7 yX7_clear wsX7_clear) := goodIn_app (goodIn_of _ (by decide +kernel)) ggX11_startAnew_X7_clear
set_option maxRecDepth 20000 in
theorem ggX11_startAnew_X8_clear : GoodIn wsX11_startAnew wsX8_clear := goodIn_r _ [61, 62, 63, 64, 65, 66, 60, 67, 68, 69, 70, 71, 72, 73, 74, 75, 76, 77, 78, 79, 80, 81, 82, 83, 84, 158, 159, 160, 161, 162, 163, 164, 165, 166, 167, 168, 169] rfl (by decide +kernel)
set_option maxRecDepth 20000 in
theorem gX11_startAnew_X8_clear : GoodIn wsX11_startAnew (wsV RX11 90 RX8 yX8_clear wsX8_clear) := goodIn_app (goodIn_of _ (by decide +kernel)) ggX11_startAnew_X8_clear
set_option maxRecDepth 20000 in
theorem ggX11_startAnew_X2_clear : GoodIn wsX11_startAnew wsX2_clear := goodIn_ca (goodIn_r _ [89, 90, 91, 92, 93, 94, 95, 96, 97, 98, 99, 100, 101, 102, 103, 104, 105, 13, 106, 15, 170, 171, 172, 173, 174, 175, 176, 177, 178, 179, 180, 181, 182, 183, 184, 145, 146, 147, 148, 149, 150] rfl (by decide +kernel)) (goodIn_sub (fun _ h => List.mem_cons_of_mem _ (List.mem_append_right _ h)) (by decide +kernel))
set_option maxRecDepth 20000 in
theorem gX11_startAnew_X2_clear : GoodIn wsX11_startAnew (wsV RX11 91 RX2 yX2_clear wsX2_clear) := goodIn_app (goodIn_of _ (by decide +kernel)) ggX11_startAnew_X2_clear
set_option maxRecDepth 20000 in
theorem ggX11_startAnew_X0_clear : GoodIn wsX11_startAnew wsX0_clear := goodIn_r _ [111, 112, 113, 114, 83, 115, 116, 117, 118, 110, 119, 120, 121, 122, 123, 31, 32, 27, 33, 29, 34, 35, 185, 186, 187, 188, 189, 190, 191, 192, 193, 194, 195, 196, 151, 152, 153, 154] rfl (by decide +kernel)
set_option maxRecDepth 20000 in
theorem gX11_startAnew_X0_clear : GoodIn wsX11_startAnew (wsV RX11 96 RX0 yX0_clear wsX0_clear) := goodIn_app (goodIn_of _ (by decide +kernel)) ggX11_startAnew_X0_clear
theorem dX11_startAnew_0 : decode cX11_startAnew 0 = .ok (.aload_n 0, 1) := by decide +kernel
theorem dX11_startAnew_1 : decode cX11_startAnew 1 = .ok (.getfield 21, 3) := by decide +kernel
theorem dX11_startAnew_4 : decode cX11_startAnew 4 = .ok (.aload_n 0, 1) := by decide +kernel
theorem dX11_startAnew_5 : decode cX11_startAnew 5 = .ok (.getfield 30, 3) := by decide +kernel
theorem dX11_startAnew_8 : decode cX11_startAnew 8 = .ok (.getfield 82, 3) := by decide +kernel
theorem dX11_startAnew_11 : decode cX11_startAnew 11 = .ok (.invokevirtual 83, 3) := by decide +kernel
theorem dX11_startAnew_14 : decode cX11_startAnew 14 = .ok (.aload_n 0, 1) := by decide +kernel
theorem dX11_startAnew_15 : decode cX11_startAnew 15 = .ok (.getfield 37, 3) := by decide +kernel
theorem dX11_startAnew_18 : decode cX11_startAnew 18 = .ok (.invokevirtual 87, 3) := by decide +kernel
theorem dX11_startAnew_21 : decode cX11_startAnew 21 = .ok (.aload_n 0, 1) := by decide +kernel
theorem dX11_startAnew_22 : decode cX11_startAnew 22 = .ok (.getfield 46, 3) := by decide +kernel
theorem dX11_startAnew_25 : decode cX11_startAnew 25 = .ok (.invokevirtual 90, 3) := by decide +kernel
theorem dX11_startAnew_28 : decode cX11_startAnew 28 = .ok (.aload_n 0, 1) := by decide +kernel
theorem dX11_startAnew_29 : decode cX11_startAnew 29 = .ok (.getfield 55, 3) := by decide +kernel
theorem dX11_startAnew_32 : decode cX11_startAnew 32 = .ok (.invokevirtual 91, 3) := by decide +kernel
theorem dX11_startAnew_35 : decode cX11_startAnew 35 = .ok (.aload_n 0, 1) := by decide +kernel
theorem dX11_startAnew_36 : decode cX11_startAnew 36 = .ok (.getfield 62, 3) := by decide +kernel
theorem dX11_startAnew_39 : decode cX11_startAnew 39 = .ok (.iconst 0, 1) := by decide +kernel
theorem dX11_startAnew_40 : decode cX11_startAnew 40 = .ok (.putfield 92, 3) := by decide +kernel
theorem dX11_startAnew_43 : decode cX11_startAnew 43 = .ok (.aload_n 0, 1) := by decide +kernel
theorem dX11_startAnew_44 : decode cX11_startAnew 44 = .ok (.getfield 71, 3) := by decide +kernel
theorem dX11_startAnew_47 : decode cX11_startAnew 47 = .ok (.invokevirtual 96, 3) := by decide +kernel
theorem dX11_startAnew_50 : decode cX11_startAnew 50 = .ok (.return_, 1) := by decide +kernel
set_option maxRecDepth 20000 in
theorem ggX11_appendInput_X5_put : GoodIn wsX11_appendInput wsX5_put := goodIn_ca (goodIn_r _ [7, 8, 9, 18, 19] rfl (by decide +kernel)) (goodIn_sub (fun _ h => List.mem_cons_of_mem _ (List.mem_append_right _ h)) (by decide +kernel))
set_option maxRecDepth 20000 in
theorem gX11_appendInput_X5_put : GoodIn wsX11_appendInput (wsV RX11 100 RX5 yX5_put wsX5_put) := goodIn_app (goodIn_of _ (by decide +kernel)) ggX11_appendInput_X5_put
theorem dX11_appendInput_0 : decode cX11_appendInput 0 = .ok (.aload_n 0, 1) := by decide +kernel
theorem dX11_appendInput_1 : decode cX11_appendInput 1 = .ok (.getfield 14, 3) := by decide +kernel
theorem dX11_appendInput_4 : decode cX11_appendInput 4 = .ok (.getfield 97, 3) := by decide +kernel
theorem dX11_appendInput_7 : decode cX11_appendInput 7 = .ok (.bipush 20, 2) := by decide +kernel
theorem dX11_appendInput_9 : decode cX11_appendInput 9 = .ok (.iadd, 1) := by decide +kernel
theorem dX11_appendInput_10 : decode cX11_appendInput 10 = .ok (.sipush 700, 3) := by decide +kernel
theorem dX11_appendInput_13 : decode cX11_appendInput 13 = .ok (.if_icmp .le 5, 3) := by decide +kernel
theorem dX11_appendInput_16 : decode cX11_appendInput 16 = .ok (.iconst (-1), 1) := by decide +kernel
theorem dX11_appendInput_17 : decode cX11_appendInput 17 = .ok (.ireturn, 1) := by decide +kernel
theorem dX11_appendInput_18 : decode cX11_appendInput 18 = .ok (.aload_n 0, 1) := by decide +kernel
theorem dX11_appendInput_19 : decode cX11_appendInput 19 = .ok (.getfield 14, 3) := by decide +kernel
theorem dX11_appendInput_22 : decode cX11_appendInput 22 = .ok (.iload_n 1, 1) := by decide +kernel
theorem dX11_appendInput_23 : decode cX11_appendInput 23 = .ok (.i2l, 1) := by decide +kernel
theorem dX11_appendInput_24 : decode cX11_appendInput 24 = .ok (.iconst 4, 1) := by decide +kernel
theorem dX11_appendInput_25 : decode cX11_appendInput 25 = .ok (.invokevirtual 100, 3) := by decide +kernel
theorem dX11_appendInput_28 : decode cX11_appendInput 28 = .ok (.aload_n 0, 1) := by decide +kernel
theorem dX11_appendInput_29 : decode cX11_appendInput 29 = .ok (.getfield 14, 3) := by decide +kernel
theorem dX11_appendInput_32 : decode cX11_appendInput 32 = .ok (.iload_n 2, 1) := by decide +kernel
theorem dX11_appendInput_33 : decode cX11_appendInput 33 = .ok (.i2l, 1) := by decide +kernel
theorem dX11_appendInput_34 : decode cX11_appendInput 34 = .ok (.iconst 4, 1) := by decide +kernel
theorem dX11_appendInput_35 : decode cX11_appendInput 35 = .ok (.invokevirtual 100, 3) := by decide +kernel
theorem dX11_appendInput_38 : decode cX11_appendInput 38 = .ok (.aload_n 0, 1) := by decide +kernel
theorem dX11_appendInput_39 : decode cX11_appendInput 39 = .ok (.getfield 14, 3) := by decide +kernel
theorem dX11_appendInput_42 : decode cX11_appendInput 42 = .ok (.iload_n 3, 1) := by decide +kernel
theorem dX11_appendInput_43 : decode cX11_appendInput 43 = .ok (.i2l, 1) := by decide +kernel
theorem dX11_appendInput_44 : decode cX11_appendInput 44 = .ok (.iconst 4, 1) := by decide +kernel
theorem dX11_appendInput_45 : decode cX11_appendInput 45 = .ok (.invokevirtual 100, 3) := by decide +kernel
theorem dX11_appendInput_48 : decode cX11_appendInput 48 = .ok (.aload_n 0, 1) := by decide +kernel
theorem dX11_appendInput_49 : decode cX11_appendInput 49 = .ok (.getfield 14, 3) := by decide +kernel
theorem dX11_appendInput_52 : decode cX11_appendInput 52 = .ok (.iload 4, 2) := by decide +kernel
theorem dX11_appendInput_54 : decode cX11_appendInput 54 = .ok (.i2l, 1) := by decide +kernel
theorem dX11_appendInput_55 : decode cX11_appendInput 55 = .ok (.iconst 4, 1) := by decide +kernel
theorem dX11_appendInput_56 : decode cX11_appendInput 56 = .ok (.invokevirtual 100, 3) := by decide +kernel
theorem dX11_appendInput_59 : decode cX11_appendInput 59 = .ok (.aload_n 0, 1) := by decide +kernel
theorem dX11_appendInput_60 : decode cX11_appendInput 60 = .ok (.getfield 14, 3) := by decide +kernel
theorem dX11_appendInput_63 : decode cX11_appendInput 63 = .ok (.iload 5, 2) := by decide +kernel
theorem dX11_appendInput_65 : decode cX11_appendInput 65 = .ok (.i2l, 1) := by decide +kernel
theorem dX11_appendInput_66 : decode cX11_appendInput 66 = .ok (.iconst 4, 1) := by decide +kernel
theorem dX11_appendInput_67 : decode cX11_appendInput 67 = .ok (.invokevirtual 100, 3) := by decide +kernel
theorem dX11_appendInput_70 : decode cX11_appendInput 70 = .ok (.aload_n 0, 1) := by decide +kernel
theorem dX11_appendInput_71 : decode cX11_appendInput 71 = .ok (.getfield 14, 3) := by decide +kernel
theorem dX11_appendInput_74 : decode cX11_appendInput 74 = .ok (.getfield 97, 3) := by decide +kernel
theorem dX11_appendInput_77 : decode cX11_appendInput 77 = .ok (.ireturn, 1) := by decide +kernel
theorem dX11_truncateInput_0 : decode cX11_truncateInput 0 = .ok (.iload_n 1, 1) := by decide +kernel
theorem dX11_truncateInput_1 : decode cX11_truncateInput 1 = .ok (.ifCond .lt 14, 3) := by decide +kernel
theorem dX11_truncateInput_4 : decode cX11_truncateInput 4 = .ok (.iload_n 1, 1) := by decide +kernel
theorem dX11_truncateInput_5 : decode cX11_truncateInput 5 = .ok (.aload_n 0, 1) := by decide +kernel
theorem dX11_truncateInput_6 : decode cX11_truncateInput 6 = .ok (.getfield 14, 3) := by decide +kernel
theorem dX11_truncateInput_9 : decode cX11_truncateInput 9 = .ok (.getfield 97, 3) := by decide +kernel
theorem dX11_truncateInput_12 : decode cX11_truncateInput 12 = .ok (.if_icmp .le 5, 3) := by decide +kernel
theorem dX11_truncateInput_15 : decode cX11_truncateInput 15 = .ok (.iconst (-1), 1) := by decide +kernel
theorem dX11_truncateInput_16 : decode cX11_truncateInput 16 = .ok (.ireturn, 1) := by decide +kernel
theorem dX11_truncateInput_17 : decode cX11_truncateInput 17 = .ok (.aload_n 0, 1) := by decide +kernel
theorem dX11_truncateInput_18 : decode cX11_truncateInput 18 = .ok (.getfield 14, 3) := by decide +kernel
theorem dX11_truncateInput_21 : decode cX11_truncateInput 21 = .ok (.iload_n 1, 1) := by decide +kernel
theorem dX11_truncateInput_22 : decode cX11_truncateInput 22 = .ok (.putfield 97, 3) := by decide +kernel
theorem dX11_truncateInput_25 : decode cX11_truncateInput 25 = .ok (.iload_n 1, 1) := by decide +kernel
theorem dX11_truncateInput_26 : decode cX11_truncateInput 26 = .ok (.ireturn, 1) := by decide +kernel
theorem dX11_errorCode_0 : decode cX11_errorCode 0 = .ok (.aload_n 0, 1) := by decide +kernel
theorem dX11_errorCode_1 : decode cX11_errorCode 1 = .ok (.getfield 30, 3) := by decide +kernel
theorem dX11_errorCode_4 : decode cX11_errorCode 4 = .ok (.getfield 104, 3) := by decide +kernel
theorem dX11_errorCode_7 : decode cX11_errorCode 7 = .ok (.ireturn, 1) := by decide +kernel
theorem dX11_errorPosition_0 : decode cX11_errorPosition 0 = .ok (.aload_n 0, 1) := by decide +kernel
theorem dX11_errorPosition_1 : decode cX11_errorPosition 1 = .ok (.getfield 30, 3) := by decide +kernel
theorem dX11_errorPosition_4 : decode cX11_errorPosition 4 = .ok (.getfield 107, 3) := by decide +kernel
theorem dX11_errorPosition_7 : decode cX11_errorPosition 7 = .ok (.ireturn, 1) := by decide +kernel
theorem dX11_now_0 : decode cX11_now 0 = .ok (.aload_n 0, 1) := by decide +kernel
theorem dX11_now_1 : decode cX11_now 1 = .ok (.getfield 55, 3) := by decide +kernel
theorem dX11_now_4 : decode cX11_now 4 = .ok (.getfield 110, 3) := by decide +kernel
theorem dX11_now_7 : decode cX11_now 7 = .ok (.ireturn, 1) := by decide +kernel
set_option maxRecDepth 20000 in
theorem ggX11_flush_X2_exportAllAndSend : GoodIn wsX11_flush wsX2_exportAllAndSend := goodIn_ca (goodIn_ca (goodIn_r _ [6, 7, 8, 9, 10, 11, 12, 13, 5, 14, 15, 16, 17, 18, 19, 20, 21, 22, 23, 24, 25, 26, 27, 28, 29, 30, 31, 32, 33, 34, 35, 36, 37, 38, 39, 40, 41, 42, 43, 44, 45, 46, 47, 48, 49, 50, 51, 52, 53, 54, 55, 56, 57, 58, 59, 60, 61, 62, 63, 64, 65, 66, 67, 68, 69, 70, 71, 72, 73, 74, 75, 76, 77, 78, 79, 80, 81, 82, 83, 84, 85, 86, 87, 88, 89, 90, 91, 92, 93, 94, 95, 96, 97, 98, 99, 100, 101, 102, 103, 104, 105, 106, 107, 108, 109, 110, 111, 112, 113, 114, 115, 116, 117, 118, 119, 120, 121, 122, 123, 124, 125, 126, 127, 128, 129, 130, 131, 132, 133, 134, 135, 136, 137, 138, 139, 140, 141, 142, 143, 144, 145, 146, 147, 148, 149, 150, 151, 152, 153, 154, 155, 156, 157, 158, 159, 160, 161, 162, 163, 164, 165, 166, 167, 168, 169, 170, 171, 172, 181, 182, 183, 184, 185, 186, 187, 188, 189, 190, 191, 192, 193, 194, 195, 196, 197, 198, 199, 200, 201, 202, 203, 204, 205, 206, 207, 208, 209, 210, 211, 212, 213, 214, 215, 216, 217, 218, 219, 220, 221, 222, 223, 224, 225] rfl (by decide +kernel)) (goodIn_sub (fun _ h => List.mem_cons_of_mem _ (List.mem_append_left _ (List.mem_append_right _ h))) (by decide +kernel))) (goodIn_sub (fun _ h => List.mem_cons_of_mem _ (List.mem_append_right _ h)) (by decide +kernel))
set_option maxRecDepth 20000 in
theorem gX11_flush_X2_exportAllAndSend : GoodIn wsX11_flush (wsV RX11 143 RX2 yX2_exportAllAndSend wsX2_exportAllAndSend) := goodIn_app (goodIn_of _ (by decide +kernel)) ggX11_flush_X2_exportAllAndSend
theorem dX11_flush_0 : decode cX11_flush 0 = .ok (.aload_n 0, 1) := by decide +kernel
theorem dX11_flush_1 : decode cX11_flush 1 = .ok (.getfield 55, 3) := by decide +kernel
theorem dX11_flush_4 : decode cX11_flush 4 = .ok (.invokevirtual 143, 3) := by decide +kernel
theorem dX11_flush_7 : decode cX11_flush 7 = .ok (.ireturn, 1) := by decide +kernel
theorem dX11_cacheSize_0 : decode cX11_cacheSize 0 = .ok (.aload_n 0, 1) := by decide +kernel
theorem dX11_cacheSize_1 : decode cX11_cacheSize 1 = .ok (.getfield 55, 3) := by decide +kernel
theorem dX11_cacheSize_4 : decode cX11_cacheSize 4 = .ok (.getfield 146, 3) := by decide +kernel
theorem dX11_cacheSize_7 : decode cX11_cacheSize 7 = .ok (.getfield 150, 3) := by decide +kernel
theorem dX11_cacheSize_10 : decode cX11_cacheSize 10 = .ok (.ireturn, 1) := by decide +kernel
theorem dX11_rate_0 : decode cX11_rate 0 = .ok (.aload_n 0, 1) := by decide +kernel
theorem dX11_rate_1 : decode cX11_rate 1 = .ok (.getfield 55, 3) := by decide +kernel
theorem dX11_rate_4 : decode cX11_rate 4 = .ok (.getfield 164, 3) := by decide +kernel
theorem dX11_rate_7 : decode cX11_rate 7 = .ok (.ireturn, 1) := by decide +kernel
set_option maxRecDepth 20000 in
theorem ggX11_rateBits_X2_bitsOfInverse : GoodIn wsX11_rateBits wsX2_bitsOfInverse := goodIn_ca (goodIn_r _ [6, 7] rfl (by decide +kernel)) (goodIn_sub (fun _ h => List.mem_cons_of_mem _ (List.mem_append_right _ h)) (by decide +kernel))
set_option maxRecDepth 20000 in
theorem gX11_rateBits_X2_bitsOfInverse : GoodIn wsX11_rateBits (va_wsS RX11 167 yX2_bitsOfInverse wsX2_bitsOfInverse) := goodIn_app (goodIn_of _ (by decide +kernel)) ggX11_rateBits_X2_bitsOfInverse
theorem dX11_rateBits_0 : decode cX11_rateBits 0 = .ok (.aload_n 0, 1) := by decide +kernel
theorem dX11_rateBits_1 : decode cX11_rateBits 1 = .ok (.getfield 55, 3) := by decide +kernel
theorem dX11_rateBits_4 : decode cX11_rateBits 4 = .ok (.getfield 164, 3) := by decide +kernel
theorem dX11_rateBits_7 : decode cX11_rateBits 7 = .ok (.invokestatic 167, 3) := by decide +kernel
theorem dX11_rateBits_10 : decode cX11_rateBits 10 = .ok (.ireturn, 1) := by decide +kernel
set_option maxRecDepth 20000 in
theorem ggX11_setRate_X2_exportAllAndSend : GoodIn wsX11_setRate wsX2_exportAllAndSend := goodIn_ca (goodIn_ca (goodIn_r _ [7, 8, 9, 10, 11, 12, 13, 14, 6, 15, 16, 17, 18, 19, 20, 21, 22, 23, 24, 25, 26, 27, 28, 29, 30, 31, 32, 33, 34, 35, 36, 37, 38, 39, 40, 41, 42, 43, 44, 45, 46, 47, 48, 49, 50, 51, 52, 53, 54, 55, 56, 57, 58, 59, 60, 61, 62, 63, 64, 65, 66, 67, 68, 69, 70, 71, 72, 73, 74, 75, 76, 77, 78, 79, 80, 81, 82, 83, 84, 85, 86, 87, 88, 89, 90, 91, 92, 93, 94, 95, 96, 97, 98, 99, 100, 101, 102, 103, 104, 105, 106, 107, 108, 109, 110, 111, 112, 113, 114, 115, 116, 117, 118, 119, 120, 121, 122, 123, 124, 125, 126, 127, 128, 129, 130, 131, 132, 133, 134, 135, 136, 137, 138, 139, 140, 141, 142, 143, 144, 145, 146, 147, 148, 149, 150, 151, 152, 153, 154, 155, 156, 157, 158, 159, 160, 161, 162, 163, 164, 165, 166, 167, 168, 169, 170, 171, 172, 173, 182, 183, 184, 185, 186, 187, 188, 189, 190, 191, 192, 193, 194, 195, 196, 197, 198, 199, 200, 201, 202, 203, 204, 205, 206, 207, 208, 209, 210, 211, 212, 213, 214, 215, 216, 217, 218, 219, 220, 221, 222, 223, 224, 225, 226] rfl (by decide +kernel)) (goodIn_sub (fun _ h => List.mem_cons_of_mem _ (List.mem_append_left _ (List.mem_append_right _ h))) (by decide +kernel))) (goodIn_sub (fun _ h => List.mem_cons_of_mem _ (List.mem_append_right _ h)) (by decide +kernel))
set_option maxRecDepth 20000 in
theorem gX11_setRate_X2_exportAllAndSend : GoodIn wsX11_setRate (wsV RX11 143 RX2 yX2_exportAllAndSend wsX2_exportAllAndSend) := goodIn_app (goodIn_of _ (by decide +kernel)) ggX11_setRate_X2_exportAllAndSend
theorem dX11_setRate_0 : decode cX11_setRate 0 = .ok (.iload_n 1, 1) := by decide +kernel
theorem dX11_setRate_1 : decode cX11_setRate 1 = .ok (.iconst 1, 1) := by decide +kernel
theorem dX11_setRate_2 : decode cX11_setRate 2 = .ok (.if_icmp .lt 10, 3) := by decide +kernel
theorem dX11_setRate_5 : decode cX11_setRate 5 = .ok (.iload_n 1, 1) := by decide +kernel
theorem dX11_setRate_6 : decode cX11_setRate 6 = .ok (.sipush 1024, 3) := by decide +kernel
theorem dX11_setRate_9 : decode cX11_setRate 9 = .ok (.if_icmp .le 5, 3) := by decide +kernel
theorem dX11_setRate_12 : decode cX11_setRate 12 = .ok (.iconst (-1), 1) := by decide +kernel
theorem dX11_setRate_13 : decode cX11_setRate 13 = .ok (.ireturn, 1) := by decide +kernel
theorem dX11_setRate_14 : decode cX11_setRate 14 = .ok (.iload_n 1, 1) := by decide +kernel
theorem dX11_setRate_15 : decode cX11_setRate 15 = .ok (.aload_n 0, 1) := by decide +kernel
theorem dX11_setRate_16 : decode cX11_setRate 16 = .ok (.getfield 55, 3) := by decide +kernel
theorem dX11_setRate_19 : decode cX11_setRate 19 = .ok (.getfield 164, 3) := by decide +kernel
theorem dX11_setRate_22 : decode cX11_setRate 22 = .ok (.if_icmp .ne 5, 3) := by decide +kernel
theorem dX11_setRate_25 : decode cX11_setRate 25 = .ok (.iconst 0, 1) := by decide +kernel
theorem dX11_setRate_26 : decode cX11_setRate 26 = .ok (.ireturn, 1) := by decide +kernel
theorem dX11_setRate_27 : decode cX11_setRate 27 = .ok (.aload_n 0, 1) := by decide +kernel
theorem dX11_setRate_28 : decode cX11_setRate 28 = .ok (.getfield 55, 3) := by decide +kernel
theorem dX11_setRate_31 : decode cX11_setRate 31 = .ok (.invokevirtual 143, 3) := by decide +kernel
theorem dX11_setRate_34 : decode cX11_setRate 34 = .ok (.istore_n 2, 1) := by decide +kernel
theorem dX11_setRate_35 : decode cX11_setRate 35 = .ok (.aload_n 0, 1) := by decide +kernel
theorem dX11_setRate_36 : decode cX11_setRate 36 = .ok (.getfield 55, 3) := by decide +kernel
theorem dX11_setRate_39 : decode cX11_setRate 39 = .ok (.iload_n 1, 1) := by decide +kernel
theorem dX11_setRate_40 : decode cX11_setRate 40 = .ok (.putfield 164, 3) := by decide +kernel
theorem dX11_setRate_43 : decode cX11_setRate 43 = .ok (.iload_n 2, 1) := by decide +kernel
theorem dX11_setRate_44 : decode cX11_setRate 44 = .ok (.ireturn, 1) := by decide +kernel
set_option maxRecDepth 20000 in
theorem ggX11_restartExporter_X8_restart : GoodIn wsX11_restartExporter wsX8_restart := goodIn_r _ [9, 10, 11, 12, 13, 8, 14, 15, 16, 17, 18, 19, 20, 21, 22, 23, 24, 25, 26, 50, 51, 52, 53, 54, 55, 56, 57, 58, 59, 60, 61] rfl (by decide +kernel)
set_option maxRecDepth 20000 in
theorem gX11_restartExporter_X8_restart : GoodIn wsX11_restartExporter (wsV RX11 178 RX8 yX8_restart wsX8_restart) := goodIn_app (goodIn_of _ (by decide +kernel)) ggX11_restartExporter_X8_restart
theorem dX11_restartExporter_0 : decode cX11_restartExporter 0 = .ok (.aload_n 0, 1) := by decide +kernel
theorem dX11_restartExporter_1 : decode cX11_restartExporter 1 = .ok (.getfield 55, 3) := by decide +kernel
theorem dX11_restartExporter_4 : decode cX11_restartExporter 4 = .ok (.getfield 146, 3) := by decide +kernel
theorem dX11_restartExporter_7 : decode cX11_restartExporter 7 = .ok (.getfield 150, 3) := by decide +kernel
theorem dX11_restartExporter_10 : decode cX11_restartExporter 10 = .ok (.istore_n 1, 1) := by decide +kernel
theorem dX11_restartExporter_11 : decode cX11_restartExporter 11 = .ok (.aload_n 0, 1) := by decide +kernel
theorem dX11_restartExporter_12 : decode cX11_restartExporter 12 = .ok (.getfield 55, 3) := by decide +kernel
theorem dX11_restartExporter_15 : decode cX11_restartExporter 15 = .ok (.getfield 146, 3) := by decide +kernel
theorem dX11_restartExporter_18 : decode cX11_restartExporter 18 = .ok (.iconst 0, 1) := by decide +kernel
theorem dX11_restartExporter_19 : decode cX11_restartExporter 19 = .ok (.putfield 150, 3) := by decide +kernel
theorem dX11_restartExporter_22 : decode cX11_restartExporter 22 = .ok (.aload_n 0, 1) := by decide +kernel
theorem dX11_restartExporter_23 : decode cX11_restartExporter 23 = .ok (.getfield 46, 3) := by decide +kernel
theorem dX11_restartExporter_26 : decode cX11_restartExporter 26 = .ok (.invokevirtual 178, 3) := by decide +kernel
theorem dX11_restartExporter_29 : decode cX11_restartExporter 29 = .ok (.iload_n 1, 1) := by decide +kernel
theorem dX11_restartExporter_30 : decode cX11_restartExporter 30 = .ok (.ireturn, 1) := by decide +kernel
theorem dX11_observed_0 : decode cX11_observed 0 = .ok (.aload_n 0, 1) := by decide +kernel
theorem dX11_observed_1 : decode cX11_observed 1 = .ok (.getfield 55, 3) := by decide +kernel
theorem dX11_observed_4 : decode cX11_observed 4 = .ok (.getfield 181, 3) := by decide +kernel
theorem dX11_observed_7 : decode cX11_observed 7 = .ok (.lreturn, 1) := by decide +kernel
theorem dX11_sampled_0 : decode cX11_sampled 0 = .ok (.aload_n 0, 1) := by decide +kernel
theorem dX11_sampled_1 : decode cX11_sampled 1 = .ok (.getfield 55, 3) := by decide +kernel
theorem dX11_sampled_4 : decode cX11_sampled 4 = .ok (.getfield 185, 3) := by decide +kernel
theorem dX11_sampled_7 : decode cX11_sampled 7 = .ok (.lreturn, 1) := by decide +kernel
theorem dX11_unsent_0 : decode cX11_unsent 0 = .ok (.aload_n 0, 1) := by decide +kernel
theorem dX11_unsent_1 : decode cX11_unsent 1 = .ok (.getfield 55, 3) := by decide +kernel
theorem dX11_unsent_4 : decode cX11_unsent 4 = .ok (.getfield 188, 3) := by decide +kernel
theorem dX11_unsent_7 : decode cX11_unsent 7 = .ok (.lreturn, 1) := by decide +kernel
theorem dX11_templateCount_0 : decode cX11_templateCount 0 = .ok (.aload_n 0, 1) := by decide +kernel
theorem dX11_templateCount_1 : decode cX11_templateCount 1 = .ok (.getfield 21, 3) := by decide +kernel
theorem dX11_templateCount_4 : decode cX11_templateCount 4 = .ok (.getfield 191, 3) := by decide +kernel
theorem dX11_templateCount_7 : decode cX11_templateCount 7 = .ok (.ireturn, 1) := by decide +kernel
set_option maxRecDepth 20000 in
theorem ggX11_requestTemplates_X8_forgetTemplates : GoodIn wsX11_requestTemplates wsX8_forgetTemplates := goodIn_r _ [6, 7, 8, 9, 10, 11, 20, 21, 22, 23, 24, 25, 26, 27, 28, 29] rfl (by decide +kernel)
set_option maxRecDepth 20000 in
theorem gX11_requestTemplates_X8_forgetTemplates : GoodIn wsX11_requestTemplates (wsV RX11 224 RX8 yX8_forgetTemplates wsX8_forgetTemplates) := goodIn_app (goodIn_of _ (by decide +kernel)) ggX11_requestTemplates_X8_forgetTemplates
theorem dX11_requestTemplates_0 : decode cX11_requestTemplates 0 = .ok (.aload_n 0, 1) := by decide +kernel
theorem dX11_requestTemplates_1 : decode cX11_requestTemplates 1 = .ok (.getfield 46, 3) := by decide +kernel
theorem dX11_requestTemplates_4 : decode cX11_requestTemplates 4 = .ok (.invokevirtual 224, 3) := by decide +kernel
theorem dX11_requestTemplates_7 : decode cX11_requestTemplates 7 = .ok (.return_, 1) := by decide +kernel
theorem dX11_sent_0 : decode cX11_sent 0 = .ok (.aload_n 0, 1) := by decide +kernel
theorem dX11_sent_1 : decode cX11_sent 1 = .ok (.getfield 46, 3) := by decide +kernel
theorem dX11_sent_4 : decode cX11_sent 4 = .ok (.getfield 232, 3) := by decide +kernel
theorem dX11_sent_7 : decode cX11_sent 7 = .ok (.lreturn, 1) := by decide +kernel
theorem dX11_dropped_0 : decode cX11_dropped 0 = .ok (.aload_n 0, 1) := by decide +kernel
theorem dX11_dropped_1 : decode cX11_dropped 1 = .ok (.getfield 37, 3) := by decide +kernel
theorem dX11_dropped_4 : decode cX11_dropped 4 = .ok (.getfield 235, 3) := by decide +kernel
theorem dX11_dropped_7 : decode cX11_dropped 7 = .ok (.ireturn, 1) := by decide +kernel
theorem dX11_sequence_0 : decode cX11_sequence 0 = .ok (.aload_n 0, 1) := by decide +kernel
theorem dX11_sequence_1 : decode cX11_sequence 1 = .ok (.getfield 46, 3) := by decide +kernel
theorem dX11_sequence_4 : decode cX11_sequence 4 = .ok (.getfield 238, 3) := by decide +kernel
theorem dX11_sequence_7 : decode cX11_sequence 7 = .ok (.i2l, 1) := by decide +kernel
theorem dX11_sequence_8 : decode cX11_sequence 8 = .ok (.ldc2_w 241, 3) := by decide +kernel
theorem dX11_sequence_11 : decode cX11_sequence 11 = .ok (.land, 1) := by decide +kernel
theorem dX11_sequence_12 : decode cX11_sequence 12 = .ok (.lreturn, 1) := by decide +kernel
theorem dX11_queueLength_0 : decode cX11_queueLength 0 = .ok (.aload_n 0, 1) := by decide +kernel
theorem dX11_queueLength_1 : decode cX11_queueLength 1 = .ok (.getfield 37, 3) := by decide +kernel
theorem dX11_queueLength_4 : decode cX11_queueLength 4 = .ok (.getfield 231, 3) := by decide +kernel
theorem dX11_queueLength_7 : decode cX11_queueLength 7 = .ok (.ireturn, 1) := by decide +kernel
set_option maxRecDepth 20000 in
theorem ggX11_knownTemplates_X0_usableTemplates : GoodIn wsX11_knownTemplates wsX0_usableTemplates := goodIn_ca (goodIn_r _ [8, 9, 10, 11, 7, 12, 13, 14, 15, 16, 17, 18, 19, 20, 21, 22, 23, 24, 25, 26, 48, 49, 50, 51, 52, 53, 54, 55, 56, 57, 58, 59, 60, 61, 62, 63, 64, 65, 66, 67, 68, 69] rfl (by decide +kernel)) (goodIn_sub (fun _ h => List.mem_cons_of_mem _ (List.mem_append_right _ h)) (by decide +kernel))
set_option maxRecDepth 20000 in
theorem gX11_knownTemplates_X0_usableTemplates : GoodIn wsX11_knownTemplates (wsV RX11 275 RX0 yX0_usableTemplates wsX0_usableTemplates) := goodIn_app (goodIn_of _ (by decide +kernel)) ggX11_knownTemplates_X0_usableTemplates
theorem dX11_knownTemplates_0 : decode cX11_knownTemplates 0 = .ok (.aload_n 0, 1) := by decide +kernel
theorem dX11_knownTemplates_1 : decode cX11_knownTemplates 1 = .ok (.getfield 71, 3) := by decide +kernel
theorem dX11_knownTemplates_4 : decode cX11_knownTemplates 4 = .ok (.aload_n 0, 1) := by decide +kernel
theorem dX11_knownTemplates_5 : decode cX11_knownTemplates 5 = .ok (.getfield 55, 3) := by decide +kernel
theorem dX11_knownTemplates_8 : decode cX11_knownTemplates 8 = .ok (.getfield 110, 3) := by decide +kernel
theorem dX11_knownTemplates_11 : decode cX11_knownTemplates 11 = .ok (.invokevirtual 275, 3) := by decide +kernel
theorem dX11_knownTemplates_14 : decode cX11_knownTemplates 14 = .ok (.ireturn, 1) := by decide +kernel
set_option maxRecDepth 20000 in
theorem ggX11_expected_X0_hasStarted : GoodIn wsX11_expected wsX0_hasStarted := goodIn_r _ [9, 10, 19, 20, 21, 22, 23, 24, 25, 26, 27, 28, 29, 30] rfl (by decide +kernel)
set_option maxRecDepth 20000 in
theorem gX11_expected_X0_hasStarted : GoodIn wsX11_expected (wsV RX11 282 RX0 yX0_hasStarted wsX0_hasStarted) := goodIn_app (goodIn_of _ (by decide +kernel)) ggX11_expected_X0_hasStarted
theorem dX11_expected_0 : decode cX11_expected 0 = .ok (.aload_n 0, 1) := by decide +kernel
theorem dX11_expected_1 : decode cX11_expected 1 = .ok (.getfield 71, 3) := by decide +kernel
theorem dX11_expected_4 : decode cX11_expected 4 = .ok (.invokevirtual 282, 3) := by decide +kernel
theorem dX11_expected_7 : decode cX11_expected 7 = .ok (.ifCond .eq 18, 3) := by decide +kernel
theorem dX11_expected_10 : decode cX11_expected 10 = .ok (.aload_n 0, 1) := by decide +kernel
theorem dX11_expected_11 : decode cX11_expected 11 = .ok (.getfield 71, 3) := by decide +kernel
theorem dX11_expected_14 : decode cX11_expected 14 = .ok (.getfield 286, 3) := by decide +kernel
theorem dX11_expected_17 : decode cX11_expected 17 = .ok (.i2l, 1) := by decide +kernel
theorem dX11_expected_18 : decode cX11_expected 18 = .ok (.ldc2_w 241, 3) := by decide +kernel
theorem dX11_expected_21 : decode cX11_expected 21 = .ok (.land, 1) := by decide +kernel
theorem dX11_expected_22 : decode cX11_expected 22 = .ok (.goto 6, 3) := by decide +kernel
theorem dX11_expected_25 : decode cX11_expected 25 = .ok (.ldc2_w 113, 3) := by decide +kernel
theorem dX11_expected_28 : decode cX11_expected 28 = .ok (.lreturn, 1) := by decide +kernel
set_option maxRecDepth 20000 in
theorem ggX11_restartCollector_X0_restart : GoodIn wsX11_restartCollector wsX0_restart := goodIn_r _ [6, 7, 8, 9, 10, 11, 12, 13, 14, 15, 16, 17, 26, 27, 28, 29, 30, 31, 32, 33, 34, 35, 36, 37, 38, 39, 40, 41] rfl (by decide +kernel)
set_option maxRecDepth 20000 in
theorem gX11_restartCollector_X0_restart : GoodIn wsX11_restartCollector (wsV RX11 296 RX0 yX0_restart wsX0_restart) := goodIn_app (goodIn_of _ (by decide +kernel)) ggX11_restartCollector_X0_restart
theorem dX11_restartCollector_0 : decode cX11_restartCollector 0 = .ok (.aload_n 0, 1) := by decide +kernel
theorem dX11_restartCollector_1 : decode cX11_restartCollector 1 = .ok (.getfield 71, 3) := by decide +kernel
theorem dX11_restartCollector_4 : decode cX11_restartCollector 4 = .ok (.invokevirtual 296, 3) := by decide +kernel
theorem dX11_restartCollector_7 : decode cX11_restartCollector 7 = .ok (.ireturn, 1) := by decide +kernel
theorem dX11_keyCount_0 : decode cX11_keyCount 0 = .ok (.aload_n 0, 1) := by decide +kernel
theorem dX11_keyCount_1 : decode cX11_keyCount 1 = .ok (.getfield 62, 3) := by decide +kernel
theorem dX11_keyCount_4 : decode cX11_keyCount 4 = .ok (.getfield 92, 3) := by decide +kernel
theorem dX11_keyCount_7 : decode cX11_keyCount 7 = .ok (.ireturn, 1) := by decide +kernel

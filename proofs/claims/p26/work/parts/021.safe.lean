set_option maxRecDepth 20000 in
theorem ggX0_take_X5_intAt : GoodIn wsX0_take wsX5_intAt := goodIn_ca ((goodIn_ca (goodIn_r _ [11, 12, 13, 14, 10, 15, 16, 17] rfl (by decide +kernel)) (goodIn_sub (fun _ h => List.mem_cons_of_mem _ (List.mem_append_left _ (List.mem_append_left _ (List.mem_append_left _ (List.mem_append_left _ (List.mem_append_right _ h)))))) gw_wsX50))) (goodIn_sub (fun _ h => List.mem_cons_of_mem _ (List.mem_append_right _ h)) (all_fg _))
set_option maxRecDepth 20000 in
theorem gX0_take_X5_intAt : GoodIn wsX0_take (wsV RX0 92 RX5 yX5_intAt wsX5_intAt) := goodIn_app (goodIn_m (mem_cA (List.mem_cons_of_mem _ (List.mem_append_left _ (List.mem_append_left _ (List.mem_append_left _ (List.mem_append_left _ (List.mem_append_left _ (List.mem_append_left _ (List.mem_append_left _ (List.mem_of_getElem? (i := 6) rfl))))))))) (mem_cA (List.mem_cons_of_mem _ (List.mem_append_left _ (List.mem_append_left _ (List.mem_append_left _ (List.mem_append_left _ (List.mem_append_left _ (List.mem_append_left _ (List.mem_append_left _ (List.mem_of_getElem? (i := 7) rfl))))))))) (mem_cA (List.mem_cons_of_mem _ (List.mem_append_left _ (List.mem_append_left _ (List.mem_append_left _ (List.mem_append_left _ (List.mem_append_left _ (List.mem_append_left _ (List.mem_append_left _ (List.mem_of_getElem? (i := 8) rfl))))))))) (mem_cA (List.mem_cons_of_mem _ (List.mem_append_left _ (List.mem_append_left _ (List.mem_append_left _ (List.mem_append_left _ (List.mem_append_left _ (List.mem_append_left _ (List.mem_append_left _ (List.mem_of_getElem? (i := 9) rfl))))))))) mem_cZ)))) (by decide +kernel)) ggX0_take_X5_intAt
set_option maxRecDepth 20000 in
theorem ggX0_take_X0_isRecent : GoodIn wsX0_take wsX0_isRecent := goodIn_ca ((goodIn_ca (goodIn_r _ [22, 23, 24, 25] rfl (by decide +kernel)) (goodIn_sub (fun _ h => List.mem_cons_of_mem _ (List.mem_append_left _ (List.mem_append_left _ (List.mem_append_left _ (List.mem_append_left _ (List.mem_append_left _ (List.mem_append_right _ h))))))) gw_wsX00))) (goodIn_sub (fun _ h => List.mem_cons_of_mem _ (List.mem_append_right _ h)) (all_fg _))
set_option maxRecDepth 20000 in
theorem gX0_take_X0_isRecent : GoodIn wsX0_take (wsV RX0 95 RX0 yX0_isRecent wsX0_isRecent) := goodIn_app (goodIn_m (mem_cA (List.mem_cons_of_mem _ (List.mem_append_left _ (List.mem_append_left _ (List.mem_append_left _ (List.mem_append_left _ (List.mem_append_left _ (List.mem_append_left _ (List.mem_append_left _ (List.mem_of_getElem? (i := 17) rfl))))))))) (mem_cA (List.mem_cons_of_mem _ (List.mem_append_left _ (List.mem_append_left _ (List.mem_append_left _ (List.mem_append_left _ (List.mem_append_left _ (List.mem_append_left _ (List.mem_append_left _ (List.mem_of_getElem? (i := 18) rfl))))))))) (mem_cA (List.mem_cons_of_mem _ (List.mem_append_left _ (List.mem_append_left _ (List.mem_append_left _ (List.mem_append_left _ (List.mem_append_left _ (List.mem_append_left _ (List.mem_append_left _ (List.mem_of_getElem? (i := 19) rfl))))))))) (mem_cA (List.mem_cons_of_mem _ (List.mem_append_left _ (List.mem_append_left _ (List.mem_append_left _ (List.mem_append_left _ (List.mem_append_left _ (List.mem_append_left _ (List.mem_append_left _ (List.mem_of_getElem? (i := 20) rfl))))))))) mem_cZ)))) (by decide +kernel)) ggX0_take_X0_isRecent
set_option maxRecDepth 20000 in
theorem ggX0_take_X0_account : GoodIn wsX0_take wsX0_account := goodIn_ca ((goodIn_ca (goodIn_r _ [29, 30, 31, 1, 32, 33, 5, 34, 23, 24, 25, 35, 36, 37, 21, 38] rfl (by decide +kernel)) (goodIn_sub (fun _ h => List.mem_cons_of_mem _ (List.mem_append_left _ (List.mem_append_left _ (List.mem_append_left _ (List.mem_append_left _ (List.mem_append_left _ (List.mem_append_right _ h))))))) gw_wsX00))) (goodIn_sub (fun _ h => List.mem_cons_of_mem _ (List.mem_append_right _ h)) (all_fg _))
set_option maxRecDepth 20000 in
theorem gX0_take_X0_account : GoodIn wsX0_take (wsV RX0 103 RX0 yX0_account wsX0_account) := goodIn_app (goodIn_m (mem_cA (List.mem_cons_of_mem _ (List.mem_append_left _ (List.mem_append_left _ (List.mem_append_left _ (List.mem_append_left _ (List.mem_append_left _ (List.mem_append_left _ (List.mem_append_right _ (List.mem_append_left _ (List.mem_of_getElem? (i := 1) rfl)))))))))) (mem_cA (List.mem_cons_of_mem _ (List.mem_append_left _ (List.mem_append_left _ (List.mem_append_left _ (List.mem_append_left _ (List.mem_append_left _ (List.mem_append_left _ (List.mem_append_right _ (List.mem_append_left _ (List.mem_of_getElem? (i := 2) rfl)))))))))) (mem_cA (List.mem_cons_of_mem _ (List.mem_append_left _ (List.mem_append_left _ (List.mem_append_left _ (List.mem_append_left _ (List.mem_append_left _ (List.mem_append_left _ (List.mem_append_right _ (List.mem_append_left _ (List.mem_of_getElem? (i := 3) rfl)))))))))) (mem_cA (List.mem_cons_of_mem _ (List.mem_append_left _ (List.mem_append_left _ (List.mem_append_left _ (List.mem_append_left _ (List.mem_append_left _ (List.mem_append_left _ (List.mem_append_left _ (List.mem_of_getElem? (i := 20) rfl))))))))) mem_cZ)))) (by decide +kernel)) ggX0_take_X0_account
set_option maxRecDepth 20000 in
theorem ggX0_take_X0_readSets : GoodIn wsX0_take wsX0_readSets := goodIn_ca ((goodIn_ca (goodIn_ca (goodIn_ca (goodIn_ca (goodIn_ca (goodIn_r _ [42, 2, 1, 7, 8, 9, 10, 11, 12, 13, 14, 15, 16, 17, 43, 44, 45, 21, 46, 47, 48, 49, 50, 51, 52, 53, 54, 55, 56, 57, 58, 59, 60, 61, 62, 63, 64, 65, 66, 67, 68, 69, 70, 71, 72, 73, 74, 75, 76, 77, 78, 79, 80, 81, 82, 83, 84, 85, 86, 87, 88, 89, 90, 91, 92, 93, 94, 95, 96, 97, 98, 99, 100, 101, 102, 103, 104, 105, 106, 107, 108, 109, 110, 111, 112, 113, 114, 115, 116, 117, 118, 119, 120, 121, 122, 123, 124, 125, 126, 127, 128, 129, 130, 131, 132, 133, 134, 135, 136, 137, 138, 139, 140, 141, 142, 143, 144, 145, 146, 5, 147, 148, 149, 150, 151] rfl (by decide +kernel)) (goodIn_sub (fun _ h => List.mem_cons_of_mem _ (List.mem_append_left _ (List.mem_append_left _ (List.mem_append_left _ (List.mem_append_left _ (List.mem_append_right _ h)))))) gw_wsX50)) (goodIn_sub (fun _ h => List.mem_cons_of_mem _ (List.mem_append_left _ (List.mem_append_left _ (List.mem_append_left _ (List.mem_append_left _ (List.mem_append_left _ (List.mem_append_right _ h))))))) gw_wsX00)) (goodIn_sub (fun _ h => List.mem_cons_of_mem _ (List.mem_append_left _ (List.mem_append_left _ (List.mem_append_left _ (List.mem_append_right _ h))))) gw_wsX100)) (goodIn_sub (fun _ h => List.mem_cons_of_mem _ (List.mem_append_left _ (List.mem_append_left _ (List.mem_append_right _ h)))) gw_wsX10)) (goodIn_sub (fun _ h => List.mem_cons_of_mem _ (List.mem_append_left _ (List.mem_append_right _ h))) gw_wsX90))) (goodIn_sub (fun _ h => List.mem_cons_of_mem _ (List.mem_append_right _ h)) (all_fg _))
set_option maxRecDepth 20000 in
theorem gX0_take_X0_readSets : GoodIn wsX0_take (wsV RX0 107 RX0 yX0_readSets wsX0_readSets) := goodIn_app (goodIn_m (mem_cA (List.mem_cons_of_mem _ (List.mem_append_left _ (List.mem_append_left _ (List.mem_append_left _ (List.mem_append_left _ (List.mem_append_left _ (List.mem_append_left _ (List.mem_append_right _ (List.mem_append_left _ (List.mem_of_getElem? (i := 14) rfl)))))))))) (mem_cA (List.mem_cons_of_mem _ (List.mem_append_left _ (List.mem_append_left _ (List.mem_append_left _ (List.mem_append_left _ (List.mem_append_left _ (List.mem_append_left _ (List.mem_append_right _ (List.mem_append_left _ (List.mem_of_getElem? (i := 15) rfl)))))))))) (mem_cA (List.mem_cons_of_mem _ (List.mem_append_left _ (List.mem_append_left _ (List.mem_append_left _ (List.mem_append_left _ (List.mem_append_left _ (List.mem_append_left _ (List.mem_append_right _ (List.mem_append_left _ (List.mem_of_getElem? (i := 16) rfl)))))))))) (mem_cA (List.mem_cons_of_mem _ (List.mem_append_left _ (List.mem_append_left _ (List.mem_append_left _ (List.mem_append_left _ (List.mem_append_left _ (List.mem_append_left _ (List.mem_append_left _ (List.mem_of_getElem? (i := 20) rfl))))))))) mem_cZ)))) (by decide +kernel)) ggX0_take_X0_readSets
theorem dX0_take_0 : decode cX0_take 0 = .ok (.aload_n 0, 1) := by decide +kernel
theorem dX0_take_1 : decode cX0_take 1 = .ok (.getfield 32, 3) := by decide +kernel
theorem dX0_take_4 : decode cX0_take 4 = .ok (.bipush 8, 2) := by decide +kernel
theorem dX0_take_6 : decode cX0_take 6 = .ok (.dup2, 1) := by decide +kernel
theorem dX0_take_7 : decode cX0_take 7 = .ok (.laload, 1) := by decide +kernel
theorem dX0_take_8 : decode cX0_take 8 = .ok (.lconst 1, 1) := by decide +kernel
theorem dX0_take_9 : decode cX0_take 9 = .ok (.ladd, 1) := by decide +kernel
theorem dX0_take_10 : decode cX0_take 10 = .ok (.lastore, 1) := by decide +kernel
theorem dX0_take_11 : decode cX0_take 11 = .ok (.aload_n 1, 1) := by decide +kernel
theorem dX0_take_12 : decode cX0_take 12 = .ok (.getfield 87, 3) := by decide +kernel
theorem dX0_take_15 : decode cX0_take 15 = .ok (.bipush 16, 2) := by decide +kernel
theorem dX0_take_17 : decode cX0_take 17 = .ok (.if_icmp .lt 27, 3) := by decide +kernel
theorem dX0_take_20 : decode cX0_take 20 = .ok (.aload_n 1, 1) := by decide +kernel
theorem dX0_take_21 : decode cX0_take 21 = .ok (.iconst 0, 1) := by decide +kernel
theorem dX0_take_22 : decode cX0_take 22 = .ok (.iconst 2, 1) := by decide +kernel
theorem dX0_take_23 : decode cX0_take 23 = .ok (.invokevirtual 92, 3) := by decide +kernel
theorem dX0_take_26 : decode cX0_take 26 = .ok (.bipush 10, 2) := by decide +kernel
theorem dX0_take_28 : decode cX0_take 28 = .ok (.if_icmp .ne 16, 3) := by decide +kernel
theorem dX0_take_31 : decode cX0_take 31 = .ok (.aload_n 1, 1) := by decide +kernel
theorem dX0_take_32 : decode cX0_take 32 = .ok (.iconst 2, 1) := by decide +kernel
theorem dX0_take_33 : decode cX0_take 33 = .ok (.iconst 2, 1) := by decide +kernel
theorem dX0_take_34 : decode cX0_take 34 = .ok (.invokevirtual 92, 3) := by decide +kernel
theorem dX0_take_37 : decode cX0_take 37 = .ok (.aload_n 1, 1) := by decide +kernel
theorem dX0_take_38 : decode cX0_take 38 = .ok (.getfield 87, 3) := by decide +kernel
theorem dX0_take_41 : decode cX0_take 41 = .ok (.if_icmp .eq 15, 3) := by decide +kernel
theorem dX0_take_44 : decode cX0_take 44 = .ok (.aload_n 0, 1) := by decide +kernel
theorem dX0_take_45 : decode cX0_take 45 = .ok (.getfield 32, 3) := by decide +kernel
theorem dX0_take_48 : decode cX0_take 48 = .ok (.iconst 4, 1) := by decide +kernel
theorem dX0_take_49 : decode cX0_take 49 = .ok (.dup2, 1) := by decide +kernel
theorem dX0_take_50 : decode cX0_take 50 = .ok (.laload, 1) := by decide +kernel
theorem dX0_take_51 : decode cX0_take 51 = .ok (.lconst 1, 1) := by decide +kernel
theorem dX0_take_52 : decode cX0_take 52 = .ok (.ladd, 1) := by decide +kernel
theorem dX0_take_53 : decode cX0_take 53 = .ok (.lastore, 1) := by decide +kernel
theorem dX0_take_54 : decode cX0_take 54 = .ok (.iconst 0, 1) := by decide +kernel
theorem dX0_take_55 : decode cX0_take 55 = .ok (.ireturn, 1) := by decide +kernel
theorem dX0_take_56 : decode cX0_take 56 = .ok (.aload_n 1, 1) := by decide +kernel
theorem dX0_take_57 : decode cX0_take 57 = .ok (.iconst 4, 1) := by decide +kernel
theorem dX0_take_58 : decode cX0_take 58 = .ok (.iconst 4, 1) := by decide +kernel
theorem dX0_take_59 : decode cX0_take 59 = .ok (.invokevirtual 92, 3) := by decide +kernel
theorem dX0_take_62 : decode cX0_take 62 = .ok (.istore_n 3, 1) := by decide +kernel
theorem dX0_take_63 : decode cX0_take 63 = .ok (.aload_n 1, 1) := by decide +kernel
theorem dX0_take_64 : decode cX0_take 64 = .ok (.bipush 8, 2) := by decide +kernel
theorem dX0_take_66 : decode cX0_take 66 = .ok (.iconst 4, 1) := by decide +kernel
theorem dX0_take_67 : decode cX0_take 67 = .ok (.invokevirtual 92, 3) := by decide +kernel
theorem dX0_take_70 : decode cX0_take 70 = .ok (.istore 4, 2) := by decide +kernel
theorem dX0_take_72 : decode cX0_take 72 = .ok (.aload_n 0, 1) := by decide +kernel
theorem dX0_take_73 : decode cX0_take 73 = .ok (.iload 4, 2) := by decide +kernel
theorem dX0_take_75 : decode cX0_take 75 = .ok (.iload_n 3, 1) := by decide +kernel
theorem dX0_take_76 : decode cX0_take 76 = .ok (.invokevirtual 95, 3) := by decide +kernel
theorem dX0_take_79 : decode cX0_take 79 = .ok (.ifCond .eq 15, 3) := by decide +kernel
theorem dX0_take_82 : decode cX0_take 82 = .ok (.aload_n 0, 1) := by decide +kernel
theorem dX0_take_83 : decode cX0_take 83 = .ok (.getfield 32, 3) := by decide +kernel
theorem dX0_take_86 : decode cX0_take 86 = .ok (.iconst 2, 1) := by decide +kernel
theorem dX0_take_87 : decode cX0_take 87 = .ok (.dup2, 1) := by decide +kernel
theorem dX0_take_88 : decode cX0_take 88 = .ok (.laload, 1) := by decide +kernel
theorem dX0_take_89 : decode cX0_take 89 = .ok (.lconst 1, 1) := by decide +kernel
theorem dX0_take_90 : decode cX0_take 90 = .ok (.ladd, 1) := by decide +kernel
theorem dX0_take_91 : decode cX0_take 91 = .ok (.lastore, 1) := by decide +kernel
theorem dX0_take_92 : decode cX0_take 92 = .ok (.iconst 0, 1) := by decide +kernel
theorem dX0_take_93 : decode cX0_take 93 = .ok (.ireturn, 1) := by decide +kernel
theorem dX0_take_94 : decode cX0_take 94 = .ok (.aload_n 0, 1) := by decide +kernel
theorem dX0_take_95 : decode cX0_take 95 = .ok (.iload 4, 2) := by decide +kernel
theorem dX0_take_97 : decode cX0_take 97 = .ok (.iload_n 3, 1) := by decide +kernel
theorem dX0_take_98 : decode cX0_take 98 = .ok (.iconst 0, 1) := by decide +kernel
theorem dX0_take_99 : decode cX0_take 99 = .ok (.aload_n 1, 1) := by decide +kernel
theorem dX0_take_100 : decode cX0_take 100 = .ok (.bipush 12, 2) := by decide +kernel
theorem dX0_take_102 : decode cX0_take 102 = .ok (.iconst 4, 1) := by decide +kernel
theorem dX0_take_103 : decode cX0_take 103 = .ok (.invokevirtual 92, 3) := by decide +kernel
theorem dX0_take_106 : decode cX0_take 106 = .ok (.invokestatic 98, 3) := by decide +kernel
theorem dX0_take_109 : decode cX0_take 109 = .ok (.invokevirtual 103, 3) := by decide +kernel
theorem dX0_take_112 : decode cX0_take 112 = .ok (.aload_n 0, 1) := by decide +kernel
theorem dX0_take_113 : decode cX0_take 113 = .ok (.aload_n 1, 1) := by decide +kernel
theorem dX0_take_114 : decode cX0_take 114 = .ok (.iload_n 2, 1) := by decide +kernel
theorem dX0_take_115 : decode cX0_take 115 = .ok (.invokevirtual 107, 3) := by decide +kernel
theorem dX0_take_118 : decode cX0_take 118 = .ok (.ireturn, 1) := by decide +kernel
set_option maxRecDepth 20000 in
theorem ggX0_readSets_X5_intAt : GoodIn wsX0_readSets wsX5_intAt := goodIn_ca ((goodIn_ca (goodIn_r _ [7, 8, 9, 10, 6, 11, 12, 13] rfl (by decide +kernel)) (goodIn_sub (fun _ h => List.mem_cons_of_mem _ (List.mem_append_left _ (List.mem_append_left _ (List.mem_append_left _ (List.mem_append_left _ (List.mem_append_left _ (List.mem_append_right _ h))))))) gw_wsX50))) (goodIn_sub (fun _ h => List.mem_cons_of_mem _ (List.mem_append_right _ h)) (all_fg _))
set_option maxRecDepth 20000 in
theorem gX0_readSets_X5_intAt : GoodIn wsX0_readSets (wsV RX0 92 RX5 yX5_intAt wsX5_intAt) := goodIn_app (goodIn_m (mem_cA (List.mem_cons_of_mem _ (List.mem_append_left _ (List.mem_append_left _ (List.mem_append_left _ (List.mem_append_left _ (List.mem_append_left _ (List.mem_append_left _ (List.mem_append_left _ (List.mem_of_getElem? (i := 2) rfl))))))))) (mem_cA (List.mem_cons_of_mem _ (List.mem_append_left _ (List.mem_append_left _ (List.mem_append_left _ (List.mem_append_left _ (List.mem_append_left _ (List.mem_append_left _ (List.mem_append_left _ (List.mem_of_getElem? (i := 3) rfl))))))))) (mem_cA (List.mem_cons_of_mem _ (List.mem_append_left _ (List.mem_append_left _ (List.mem_append_left _ (List.mem_append_left _ (List.mem_append_left _ (List.mem_append_left _ (List.mem_append_left _ (List.mem_of_getElem? (i := 4) rfl))))))))) (mem_cA (List.mem_cons_of_mem _ (List.mem_append_left _ (List.mem_append_left _ (List.mem_append_left _ (List.mem_append_left _ (List.mem_append_left _ (List.mem_append_left _ (List.mem_append_left _ (List.mem_of_getElem? (i := 5) rfl))))))))) mem_cZ)))) (by decide +kernel)) ggX0_readSets_X5_intAt
set_option maxRecDepth 20000 in
theorem ggX0_readSets_X0_readTemplates : GoodIn wsX0_readSets wsX0_readTemplates := goodIn_ca ((goodIn_ca (goodIn_ca (goodIn_ca (goodIn_r _ [18, 19, 20, 21, 3, 4, 5, 6, 7, 8, 9, 10, 11, 12, 13, 22, 23, 24, 17, 25, 26, 27, 28, 29, 30, 31, 32, 33, 34, 35, 36, 37, 38, 39, 40, 41, 42, 43, 44, 45, 46, 47, 48, 49, 50, 51, 52, 53, 54, 55, 56, 57] rfl (by decide +kernel)) (goodIn_sub (fun _ h => List.mem_cons_of_mem _ (List.mem_append_left _ (List.mem_append_left _ (List.mem_append_left _ (List.mem_append_left _ (List.mem_append_right _ h)))))) gw_wsX00)) (goodIn_sub (fun _ h => List.mem_cons_of_mem _ (List.mem_append_left _ (List.mem_append_left _ (List.mem_append_left _ (List.mem_append_left _ (List.mem_append_left _ (List.mem_append_right _ h))))))) gw_wsX50)) (goodIn_sub (fun _ h => List.mem_cons_of_mem _ (List.mem_append_left _ (List.mem_append_left _ (List.mem_append_left _ (List.mem_append_right _ h))))) gw_wsX100))) (goodIn_sub (fun _ h => List.mem_cons_of_mem _ (List.mem_append_right _ h)) (all_fg _))
set_option maxRecDepth 20000 in
theorem gX0_readSets_X0_readTemplates : GoodIn wsX0_readSets (wsV RX0 118 RX0 yX0_readTemplates wsX0_readTemplates) := goodIn_app (goodIn_m (mem_cA (List.mem_cons_of_mem _ (List.mem_append_left _ (List.mem_append_left _ (List.mem_append_left _ (List.mem_append_left _ (List.mem_append_left _ (List.mem_append_left _ (List.mem_append_left _ (List.mem_of_getElem? (i := 13) rfl))))))))) (mem_cA (List.mem_cons_of_mem _ (List.mem_append_left _ (List.mem_append_left _ (List.mem_append_left _ (List.mem_append_left _ (List.mem_append_left _ (List.mem_append_left _ (List.mem_append_left _ (List.mem_of_getElem? (i := 14) rfl))))))))) (mem_cA (List.mem_cons_of_mem _ (List.mem_append_left _ (List.mem_append_left _ (List.mem_append_left _ (List.mem_append_left _ (List.mem_append_left _ (List.mem_append_left _ (List.mem_append_left _ (List.mem_of_getElem? (i := 15) rfl))))))))) (mem_cA (List.mem_cons_of_mem _ (List.mem_append_left _ (List.mem_append_left _ (List.mem_append_left _ (List.mem_append_left _ (List.mem_append_left _ (List.mem_append_left _ (List.mem_append_left _ (List.mem_of_getElem? (i := 16) rfl))))))))) mem_cZ)))) (by decide +kernel)) ggX0_readSets_X0_readTemplates
set_option maxRecDepth 20000 in
theorem ggX0_readSets_X0_readData : GoodIn wsX0_readSets wsX0_readData := goodIn_ca ((goodIn_ca (goodIn_ca (goodIn_ca (goodIn_ca (goodIn_ca (goodIn_r _ [61, 2, 19, 62, 63, 64, 65, 17, 66, 67, 68, 69, 70, 71, 26, 21, 72, 73, 74, 75, 76, 77, 78, 79, 80, 81, 82, 83, 84, 85, 86, 87, 88, 54, 55, 30, 56, 32, 47, 89, 9, 10, 6, 11, 12, 13, 90, 91, 92, 93, 94, 95, 96, 97, 98, 99, 100, 101, 102, 103, 104, 105, 106, 107, 108, 109, 110, 111, 112, 113, 114, 115, 116, 117, 118, 119, 120, 121, 122, 123, 124] rfl (by decide +kernel)) (goodIn_sub (fun _ h => List.mem_cons_of_mem _ (List.mem_append_left _ (List.mem_append_left _ (List.mem_append_left _ (List.mem_append_left _ (List.mem_append_right _ h)))))) gw_wsX00)) (goodIn_sub (fun _ h => List.mem_cons_of_mem _ (List.mem_append_left _ (List.mem_append_left _ (List.mem_append_left _ (List.mem_append_right _ h))))) gw_wsX100)) (goodIn_sub (fun _ h => List.mem_cons_of_mem _ (List.mem_append_left _ (List.mem_append_left _ (List.mem_append_right _ h)))) gw_wsX10)) (goodIn_sub (fun _ h => List.mem_cons_of_mem _ (List.mem_append_left _ (List.mem_append_left _ (List.mem_append_left _ (List.mem_append_left _ (List.mem_append_left _ (List.mem_append_right _ h))))))) gw_wsX50)) (goodIn_sub (fun _ h => List.mem_cons_of_mem _ (List.mem_append_left _ (List.mem_append_right _ h))) gw_wsX90))) (goodIn_sub (fun _ h => List.mem_cons_of_mem _ (List.mem_append_right _ h)) (all_fg _))
set_option maxRecDepth 20000 in
theorem gX0_readSets_X0_readData : GoodIn wsX0_readSets (wsV RX0 122 RX0 yX0_readData wsX0_readData) := goodIn_app (goodIn_m (mem_cA (List.mem_cons_of_mem _ (List.mem_append_left _ (List.mem_append_left _ (List.mem_append_left _ (List.mem_append_left _ (List.mem_append_left _ (List.mem_append_left _ (List.mem_append_right _ (List.mem_append_right _ (List.mem_append_left _ (List.mem_of_getElem? (i := 9) rfl))))))))))) (mem_cA (List.mem_cons_of_mem _ (List.mem_append_left _ (List.mem_append_left _ (List.mem_append_left _ (List.mem_append_left _ (List.mem_append_left _ (List.mem_append_left _ (List.mem_append_right _ (List.mem_append_right _ (List.mem_append_left _ (List.mem_of_getElem? (i := 10) rfl))))))))))) (mem_cA (List.mem_cons_of_mem _ (List.mem_append_left _ (List.mem_append_left _ (List.mem_append_left _ (List.mem_append_left _ (List.mem_append_left _ (List.mem_append_left _ (List.mem_append_right _ (List.mem_append_right _ (List.mem_append_left _ (List.mem_of_getElem? (i := 11) rfl))))))))))) (mem_cA (List.mem_cons_of_mem _ (List.mem_append_left _ (List.mem_append_left _ (List.mem_append_left _ (List.mem_append_left _ (List.mem_append_left _ (List.mem_append_left _ (List.mem_append_left _ (List.mem_of_getElem? (i := 16) rfl))))))))) mem_cZ)))) (by decide +kernel)) ggX0_readSets_X0_readData
theorem dX0_readSets_0 : decode cX0_readSets 0 = .ok (.iconst 0, 1) := by decide +kernel
theorem dX0_readSets_1 : decode cX0_readSets 1 = .ok (.istore_n 3, 1) := by decide +kernel
theorem dX0_readSets_2 : decode cX0_readSets 2 = .ok (.bipush 16, 2) := by decide +kernel
theorem dX0_readSets_4 : decode cX0_readSets 4 = .ok (.istore 4, 2) := by decide +kernel
theorem dX0_readSets_6 : decode cX0_readSets 6 = .ok (.iconst 0, 1) := by decide +kernel
theorem dX0_readSets_7 : decode cX0_readSets 7 = .ok (.istore 5, 2) := by decide +kernel
theorem dX0_readSets_9 : decode cX0_readSets 9 = .ok (.iload 5, 2) := by decide +kernel
theorem dX0_readSets_11 : decode cX0_readSets 11 = .ok (.sipush 700, 3) := by decide +kernel
theorem dX0_readSets_14 : decode cX0_readSets 14 = .ok (.if_icmp .gt 149, 3) := by decide +kernel
theorem dX0_readSets_17 : decode cX0_readSets 17 = .ok (.iload 4, 2) := by decide +kernel
theorem dX0_readSets_19 : decode cX0_readSets 19 = .ok (.aload_n 1, 1) := by decide +kernel
theorem dX0_readSets_20 : decode cX0_readSets 20 = .ok (.getfield 87, 3) := by decide +kernel
theorem dX0_readSets_23 : decode cX0_readSets 23 = .ok (.if_icmp .ge 140, 3) := by decide +kernel
theorem dX0_readSets_26 : decode cX0_readSets 26 = .ok (.aload_n 1, 1) := by decide +kernel
theorem dX0_readSets_27 : decode cX0_readSets 27 = .ok (.getfield 87, 3) := by decide +kernel
theorem dX0_readSets_30 : decode cX0_readSets 30 = .ok (.iload 4, 2) := by decide +kernel
theorem dX0_readSets_32 : decode cX0_readSets 32 = .ok (.isub, 1) := by decide +kernel
theorem dX0_readSets_33 : decode cX0_readSets 33 = .ok (.istore 6, 2) := by decide +kernel
theorem dX0_readSets_35 : decode cX0_readSets 35 = .ok (.iload 6, 2) := by decide +kernel
theorem dX0_readSets_37 : decode cX0_readSets 37 = .ok (.iconst 4, 1) := by decide +kernel
theorem dX0_readSets_38 : decode cX0_readSets 38 = .ok (.if_icmp .ge 7, 3) := by decide +kernel
theorem dX0_readSets_41 : decode cX0_readSets 41 = .ok (.iconst 0, 1) := by decide +kernel
theorem dX0_readSets_42 : decode cX0_readSets 42 = .ok (.goto 12, 3) := by decide +kernel
theorem dX0_readSets_45 : decode cX0_readSets 45 = .ok (.aload_n 1, 1) := by decide +kernel
theorem dX0_readSets_46 : decode cX0_readSets 46 = .ok (.iload 4, 2) := by decide +kernel
theorem dX0_readSets_48 : decode cX0_readSets 48 = .ok (.iconst 2, 1) := by decide +kernel
theorem dX0_readSets_49 : decode cX0_readSets 49 = .ok (.iadd, 1) := by decide +kernel
theorem dX0_readSets_50 : decode cX0_readSets 50 = .ok (.iconst 2, 1) := by decide +kernel
theorem dX0_readSets_51 : decode cX0_readSets 51 = .ok (.invokevirtual 92, 3) := by decide +kernel
theorem dX0_readSets_54 : decode cX0_readSets 54 = .ok (.istore 7, 2) := by decide +kernel
theorem dX0_readSets_56 : decode cX0_readSets 56 = .ok (.iload 7, 2) := by decide +kernel
theorem dX0_readSets_58 : decode cX0_readSets 58 = .ok (.iconst 4, 1) := by decide +kernel
theorem dX0_readSets_59 : decode cX0_readSets 59 = .ok (.if_icmp .lt 10, 3) := by decide +kernel
theorem dX0_readSets_62 : decode cX0_readSets 62 = .ok (.iload 7, 2) := by decide +kernel
theorem dX0_readSets_64 : decode cX0_readSets 64 = .ok (.iload 6, 2) := by decide +kernel
theorem dX0_readSets_66 : decode cX0_readSets 66 = .ok (.if_icmp .le 15, 3) := by decide +kernel
theorem dX0_readSets_69 : decode cX0_readSets 69 = .ok (.aload_n 0, 1) := by decide +kernel
theorem dX0_readSets_70 : decode cX0_readSets 70 = .ok (.getfield 32, 3) := by decide +kernel
theorem dX0_readSets_73 : decode cX0_readSets 73 = .ok (.iconst 4, 1) := by decide +kernel
theorem dX0_readSets_74 : decode cX0_readSets 74 = .ok (.dup2, 1) := by decide +kernel
theorem dX0_readSets_75 : decode cX0_readSets 75 = .ok (.laload, 1) := by decide +kernel
theorem dX0_readSets_76 : decode cX0_readSets 76 = .ok (.lconst 1, 1) := by decide +kernel
theorem dX0_readSets_77 : decode cX0_readSets 77 = .ok (.ladd, 1) := by decide +kernel
theorem dX0_readSets_78 : decode cX0_readSets 78 = .ok (.lastore, 1) := by decide +kernel
theorem dX0_readSets_79 : decode cX0_readSets 79 = .ok (.iload_n 3, 1) := by decide +kernel
theorem dX0_readSets_80 : decode cX0_readSets 80 = .ok (.ireturn, 1) := by decide +kernel
theorem dX0_readSets_81 : decode cX0_readSets 81 = .ok (.aload_n 1, 1) := by decide +kernel
theorem dX0_readSets_82 : decode cX0_readSets 82 = .ok (.iload 4, 2) := by decide +kernel
theorem dX0_readSets_84 : decode cX0_readSets 84 = .ok (.iconst 2, 1) := by decide +kernel
theorem dX0_readSets_85 : decode cX0_readSets 85 = .ok (.invokevirtual 92, 3) := by decide +kernel
theorem dX0_readSets_88 : decode cX0_readSets 88 = .ok (.istore 8, 2) := by decide +kernel
theorem dX0_readSets_90 : decode cX0_readSets 90 = .ok (.iload 4, 2) := by decide +kernel
theorem dX0_readSets_92 : decode cX0_readSets 92 = .ok (.iconst 4, 1) := by decide +kernel
theorem dX0_readSets_93 : decode cX0_readSets 93 = .ok (.iadd, 1) := by decide +kernel
theorem dX0_readSets_94 : decode cX0_readSets 94 = .ok (.istore 9, 2) := by decide +kernel
theorem dX0_readSets_96 : decode cX0_readSets 96 = .ok (.iload 4, 2) := by decide +kernel
theorem dX0_readSets_98 : decode cX0_readSets 98 = .ok (.iload 7, 2) := by decide +kernel
theorem dX0_readSets_100 : decode cX0_readSets 100 = .ok (.iadd, 1) := by decide +kernel
theorem dX0_readSets_101 : decode cX0_readSets 101 = .ok (.istore 4, 2) := by decide +kernel
theorem dX0_readSets_103 : decode cX0_readSets 103 = .ok (.iload 8, 2) := by decide +kernel
theorem dX0_readSets_105 : decode cX0_readSets 105 = .ok (.iconst 2, 1) := by decide +kernel
theorem dX0_readSets_106 : decode cX0_readSets 106 = .ok (.if_icmp .ne 16, 3) := by decide +kernel
theorem dX0_readSets_109 : decode cX0_readSets 109 = .ok (.aload_n 0, 1) := by decide +kernel
theorem dX0_readSets_110 : decode cX0_readSets 110 = .ok (.aload_n 1, 1) := by decide +kernel
theorem dX0_readSets_111 : decode cX0_readSets 111 = .ok (.iload 9, 2) := by decide +kernel
theorem dX0_readSets_113 : decode cX0_readSets 113 = .ok (.iload 4, 2) := by decide +kernel
theorem dX0_readSets_115 : decode cX0_readSets 115 = .ok (.iload_n 2, 1) := by decide +kernel
theorem dX0_readSets_116 : decode cX0_readSets 116 = .ok (.invokevirtual 118, 3) := by decide +kernel
theorem dX0_readSets_119 : decode cX0_readSets 119 = .ok (.goto 38, 3) := by decide +kernel
theorem dX0_readSets_122 : decode cX0_readSets 122 = .ok (.iload 8, 2) := by decide +kernel
theorem dX0_readSets_124 : decode cX0_readSets 124 = .ok (.sipush 256, 3) := by decide +kernel
theorem dX0_readSets_127 : decode cX0_readSets 127 = .ok (.if_icmp .lt 30, 3) := by decide +kernel
theorem dX0_readSets_130 : decode cX0_readSets 130 = .ok (.iload 8, 2) := by decide +kernel
theorem dX0_readSets_132 : decode cX0_readSets 132 = .ok (.sipush 260, 3) := by decide +kernel
theorem dX0_readSets_135 : decode cX0_readSets 135 = .ok (.if_icmp .ge 22, 3) := by decide +kernel
theorem dX0_readSets_138 : decode cX0_readSets 138 = .ok (.iload_n 3, 1) := by decide +kernel
theorem dX0_readSets_139 : decode cX0_readSets 139 = .ok (.aload_n 0, 1) := by decide +kernel
theorem dX0_readSets_140 : decode cX0_readSets 140 = .ok (.aload_n 1, 1) := by decide +kernel
theorem dX0_readSets_141 : decode cX0_readSets 141 = .ok (.iload 9, 2) := by decide +kernel
theorem dX0_readSets_143 : decode cX0_readSets 143 = .ok (.iload 4, 2) := by decide +kernel
theorem dX0_readSets_145 : decode cX0_readSets 145 = .ok (.iload 8, 2) := by decide +kernel
theorem dX0_readSets_147 : decode cX0_readSets 147 = .ok (.sipush 256, 3) := by decide +kernel
theorem dX0_readSets_150 : decode cX0_readSets 150 = .ok (.isub, 1) := by decide +kernel
theorem dX0_readSets_151 : decode cX0_readSets 151 = .ok (.iload_n 2, 1) := by decide +kernel
theorem dX0_readSets_152 : decode cX0_readSets 152 = .ok (.invokevirtual 122, 3) := by decide +kernel
theorem dX0_readSets_155 : decode cX0_readSets 155 = .ok (.iadd, 1) := by decide +kernel
theorem dX0_readSets_156 : decode cX0_readSets 156 = .ok (.istore_n 3, 1) := by decide +kernel
theorem dX0_readSets_157 : decode cX0_readSets 157 = .ok (.iinc 5 1, 3) := by decide +kernel
theorem dX0_readSets_160 : decode cX0_readSets 160 = .ok (.goto (-151), 3) := by decide +kernel
theorem dX0_readSets_163 : decode cX0_readSets 163 = .ok (.iload_n 3, 1) := by decide +kernel
theorem dX0_readSets_164 : decode cX0_readSets 164 = .ok (.ireturn, 1) := by decide +kernel
set_option maxRecDepth 20000 in
theorem ggX0_readData_X0_isUsable : GoodIn wsX0_readData wsX0_isUsable := goodIn_ca ((goodIn_ca (goodIn_ca (goodIn_ca (goodIn_r _ [8, 9, 10, 11, 12, 7, 13, 2, 14, 15, 16, 17, 18, 19, 20, 21] rfl (by decide +kernel)) (goodIn_sub (fun _ h => List.mem_cons_of_mem _ (List.mem_append_left _ (List.mem_append_left _ (List.mem_append_left _ (List.mem_append_left _ (List.mem_append_left _ (List.mem_append_right _ h))))))) gw_wsX00)) (goodIn_sub (fun _ h => List.mem_cons_of_mem _ (List.mem_append_left _ (List.mem_append_left _ (List.mem_append_left _ (List.mem_append_left _ (List.mem_append_right _ h)))))) gw_wsX100)) (goodIn_sub (fun _ h => List.mem_cons_of_mem _ (List.mem_append_left _ (List.mem_append_left _ (List.mem_append_left _ (List.mem_append_right _ h))))) gw_wsX10))) (goodIn_sub (fun _ h => List.mem_cons_of_mem _ (List.mem_append_right _ h)) (all_fg _))
set_option maxRecDepth 20000 in
theorem gX0_readData_X0_isUsable : GoodIn wsX0_readData (wsV RX0 83 RX0 yX0_isUsable wsX0_isUsable) := goodIn_app (goodIn_m (mem_cA (List.mem_cons_of_mem _ (List.mem_append_left _ (List.mem_append_left _ (List.mem_append_left _ (List.mem_append_left _ (List.mem_append_left _ (List.mem_append_left _ (List.mem_append_left _ (List.mem_of_getElem? (i := 3) rfl))))))))) (mem_cA (List.mem_cons_of_mem _ (List.mem_append_left _ (List.mem_append_left _ (List.mem_append_left _ (List.mem_append_left _ (List.mem_append_left _ (List.mem_append_left _ (List.mem_append_left _ (List.mem_of_getElem? (i := 4) rfl))))))))) (mem_cA (List.mem_cons_of_mem _ (List.mem_append_left _ (List.mem_append_left _ (List.mem_append_left _ (List.mem_append_left _ (List.mem_append_left _ (List.mem_append_left _ (List.mem_append_left _ (List.mem_of_getElem? (i := 5) rfl))))))))) (mem_cA (List.mem_cons_of_mem _ (List.mem_append_left _ (List.mem_append_left _ (List.mem_append_left _ (List.mem_append_left _ (List.mem_append_left _ (List.mem_append_left _ (List.mem_append_left _ (List.mem_of_getElem? (i := 6) rfl))))))))) mem_cZ)))) (by decide +kernel)) ggX0_readData_X0_isUsable
set_option maxRecDepth 20000 in
theorem ggX0_readData_X0_decode : GoodIn wsX0_readData wsX0_decode := goodIn_ca ((goodIn_ca (goodIn_ca (goodIn_ca (goodIn_ca (goodIn_ca (goodIn_r _ [25, 26, 14, 27, 1, 9, 28, 29, 30, 31, 32, 33, 34, 35, 36, 37, 38, 39, 40, 41, 42, 43, 44, 45, 46, 47, 48, 49, 50, 51, 52, 53, 54, 55, 56, 57, 58, 59, 60, 61, 62, 63, 64, 65, 16, 17, 18, 19, 20, 21, 66, 67, 7, 68, 69, 70, 71, 72, 73, 74, 75, 76, 77, 78, 79, 80] rfl (by decide +kernel)) (goodIn_sub (fun _ h => List.mem_cons_of_mem _ (List.mem_append_left _ (List.mem_append_left _ (List.mem_append_left _ (List.mem_append_left _ (List.mem_append_left _ (List.mem_append_right _ h))))))) gw_wsX00)) (goodIn_sub (fun _ h => List.mem_cons_of_mem _ (List.mem_append_left _ (List.mem_append_left _ (List.mem_append_left _ (List.mem_append_left _ (List.mem_append_right _ h)))))) gw_wsX100)) (goodIn_sub (fun _ h => List.mem_cons_of_mem _ (List.mem_append_left _ (List.mem_append_left _ (List.mem_append_right _ h)))) gw_wsX50)) (goodIn_sub (fun _ h => List.mem_cons_of_mem _ (List.mem_append_left _ (List.mem_append_right _ h))) gw_wsX90)) (goodIn_sub (fun _ h => List.mem_cons_of_mem _ (List.mem_append_left _ (List.mem_append_left _ (List.mem_append_left _ (List.mem_append_right _ h))))) gw_wsX10))) (goodIn_sub (fun _ h => List.mem_cons_of_mem _ (List.mem_append_right _ h)) (all_fg _))
set_option maxRecDepth 20000 in
theorem gX0_readData_X0_decode : GoodIn wsX0_readData (wsV RX0 148 RX0 yX0_decode wsX0_decode) := goodIn_app (goodIn_m (mem_cA (List.mem_cons_of_mem _ (List.mem_append_left _ (List.mem_append_left _ (List.mem_append_left _ (List.mem_append_left _ (List.mem_append_left _ (List.mem_append_left _ (List.mem_append_left _ (List.mem_of_getElem? (i := 21) rfl))))))))) (mem_cA (List.mem_cons_of_mem _ (List.mem_append_left _ (List.mem_append_left _ (List.mem_append_left _ (List.mem_append_left _ (List.mem_append_left _ (List.mem_append_left _ (List.mem_append_left _ (List.mem_of_getElem? (i := 22) rfl))))))))) (mem_cA (List.mem_cons_of_mem _ (List.mem_append_left _ (List.mem_append_left _ (List.mem_append_left _ (List.mem_append_left _ (List.mem_append_left _ (List.mem_append_left _ (List.mem_append_left _ (List.mem_of_getElem? (i := 23) rfl))))))))) (mem_cA (List.mem_cons_of_mem _ (List.mem_append_left _ (List.mem_append_left _ (List.mem_append_left _ (List.mem_append_left _ (List.mem_append_left _ (List.mem_append_left _ (List.mem_append_left _ (List.mem_of_getElem? (i := 6) rfl))))))))) mem_cZ)))) (by decide +kernel)) ggX0_readData_X0_decode
theorem dX0_readData_0 : decode cX0_readData 0 = .ok (.iload 4, 2) := by decide +kernel
theorem dX0_readData_2 : decode cX0_readData 2 = .ok (.ifCond .lt 20, 3) := by decide +kernel
theorem dX0_readData_5 : decode cX0_readData 5 = .ok (.iload 4, 2) := by decide +kernel
theorem dX0_readData_7 : decode cX0_readData 7 = .ok (.iconst 4, 1) := by decide +kernel
theorem dX0_readData_8 : decode cX0_readData 8 = .ok (.if_icmp .ge 14, 3) := by decide +kernel
theorem dX0_readData_11 : decode cX0_readData 11 = .ok (.aload_n 0, 1) := by decide +kernel
theorem dX0_readData_12 : decode cX0_readData 12 = .ok (.iload 4, 2) := by decide +kernel
theorem dX0_readData_14 : decode cX0_readData 14 = .ok (.iload 5, 2) := by decide +kernel
theorem dX0_readData_16 : decode cX0_readData 16 = .ok (.invokevirtual 83, 3) := by decide +kernel
theorem dX0_readData_19 : decode cX0_readData 19 = .ok (.ifCond .ne 15, 3) := by decide +kernel
theorem dX0_readData_22 : decode cX0_readData 22 = .ok (.aload_n 0, 1) := by decide +kernel
theorem dX0_readData_23 : decode cX0_readData 23 = .ok (.getfield 32, 3) := by decide +kernel
theorem dX0_readData_26 : decode cX0_readData 26 = .ok (.iconst 3, 1) := by decide +kernel
theorem dX0_readData_27 : decode cX0_readData 27 = .ok (.dup2, 1) := by decide +kernel
theorem dX0_readData_28 : decode cX0_readData 28 = .ok (.laload, 1) := by decide +kernel
theorem dX0_readData_29 : decode cX0_readData 29 = .ok (.lconst 1, 1) := by decide +kernel
theorem dX0_readData_30 : decode cX0_readData 30 = .ok (.ladd, 1) := by decide +kernel
theorem dX0_readData_31 : decode cX0_readData 31 = .ok (.lastore, 1) := by decide +kernel
theorem dX0_readData_32 : decode cX0_readData 32 = .ok (.iconst 0, 1) := by decide +kernel
theorem dX0_readData_33 : decode cX0_readData 33 = .ok (.ireturn, 1) := by decide +kernel
theorem dX0_readData_34 : decode cX0_readData 34 = .ok (.aload_n 0, 1) := by decide +kernel
theorem dX0_readData_35 : decode cX0_readData 35 = .ok (.getfield 11, 3) := by decide +kernel
theorem dX0_readData_38 : decode cX0_readData 38 = .ok (.iload 4, 2) := by decide +kernel
theorem dX0_readData_40 : decode cX0_readData 40 = .ok (.aaload, 1) := by decide +kernel
theorem dX0_readData_41 : decode cX0_readData 41 = .ok (.astore 6, 2) := by decide +kernel
theorem dX0_readData_43 : decode cX0_readData 43 = .ok (.iconst 0, 1) := by decide +kernel
theorem dX0_readData_44 : decode cX0_readData 44 = .ok (.istore 7, 2) := by decide +kernel
theorem dX0_readData_46 : decode cX0_readData 46 = .ok (.iload_n 2, 1) := by decide +kernel
theorem dX0_readData_47 : decode cX0_readData 47 = .ok (.istore 8, 2) := by decide +kernel
theorem dX0_readData_49 : decode cX0_readData 49 = .ok (.aload 6, 2) := by decide +kernel
theorem dX0_readData_51 : decode cX0_readData 51 = .ok (.getfield 145, 3) := by decide +kernel
theorem dX0_readData_54 : decode cX0_readData 54 = .ok (.ifCond .le 40, 3) := by decide +kernel
theorem dX0_readData_57 : decode cX0_readData 57 = .ok (.iload_n 3, 1) := by decide +kernel
theorem dX0_readData_58 : decode cX0_readData 58 = .ok (.iload 8, 2) := by decide +kernel
theorem dX0_readData_60 : decode cX0_readData 60 = .ok (.isub, 1) := by decide +kernel
theorem dX0_readData_61 : decode cX0_readData 61 = .ok (.aload 6, 2) := by decide +kernel
theorem dX0_readData_63 : decode cX0_readData 63 = .ok (.getfield 145, 3) := by decide +kernel
theorem dX0_readData_66 : decode cX0_readData 66 = .ok (.if_icmp .lt 28, 3) := by decide +kernel
theorem dX0_readData_69 : decode cX0_readData 69 = .ok (.aload_n 0, 1) := by decide +kernel
theorem dX0_readData_70 : decode cX0_readData 70 = .ok (.aload_n 1, 1) := by decide +kernel
theorem dX0_readData_71 : decode cX0_readData 71 = .ok (.iload 8, 2) := by decide +kernel
theorem dX0_readData_73 : decode cX0_readData 73 = .ok (.aload 6, 2) := by decide +kernel
theorem dX0_readData_75 : decode cX0_readData 75 = .ok (.invokevirtual 148, 3) := by decide +kernel
theorem dX0_readData_78 : decode cX0_readData 78 = .ok (.iinc 7 1, 3) := by decide +kernel
theorem dX0_readData_81 : decode cX0_readData 81 = .ok (.iload 8, 2) := by decide +kernel
theorem dX0_readData_83 : decode cX0_readData 83 = .ok (.aload 6, 2) := by decide +kernel
theorem dX0_readData_85 : decode cX0_readData 85 = .ok (.getfield 145, 3) := by decide +kernel
theorem dX0_readData_88 : decode cX0_readData 88 = .ok (.iadd, 1) := by decide +kernel
theorem dX0_readData_89 : decode cX0_readData 89 = .ok (.istore 8, 2) := by decide +kernel
theorem dX0_readData_91 : decode cX0_readData 91 = .ok (.goto (-42), 3) := by decide +kernel
theorem dX0_readData_94 : decode cX0_readData 94 = .ok (.aload_n 0, 1) := by decide +kernel
theorem dX0_readData_95 : decode cX0_readData 95 = .ok (.getfield 32, 3) := by decide +kernel
theorem dX0_readData_98 : decode cX0_readData 98 = .ok (.bipush 7, 2) := by decide +kernel
theorem dX0_readData_100 : decode cX0_readData 100 = .ok (.dup2, 1) := by decide +kernel
theorem dX0_readData_101 : decode cX0_readData 101 = .ok (.laload, 1) := by decide +kernel
theorem dX0_readData_102 : decode cX0_readData 102 = .ok (.iload 7, 2) := by decide +kernel
theorem dX0_readData_104 : decode cX0_readData 104 = .ok (.i2l, 1) := by decide +kernel
theorem dX0_readData_105 : decode cX0_readData 105 = .ok (.ladd, 1) := by decide +kernel
theorem dX0_readData_106 : decode cX0_readData 106 = .ok (.lastore, 1) := by decide +kernel
theorem dX0_readData_107 : decode cX0_readData 107 = .ok (.iload 7, 2) := by decide +kernel
theorem dX0_readData_109 : decode cX0_readData 109 = .ok (.ireturn, 1) := by decide +kernel
set_option maxRecDepth 20000 in
theorem ggX0_decode_J7_fill_d0a16 : GoodIn wsX0_decode wsJ7_fill_d0a16 := (goodIn_r _ [9] rfl (by decide +kernel))
set_option maxRecDepth 20000 in
theorem gX0_decode_J7_fill_d0a16 : GoodIn wsX0_decode (va_wsS RX0 57 yJ7_fill_d0a16 wsJ7_fill_d0a16) := goodIn_app (goodIn_m (mem_cA (List.mem_cons_of_mem _ (List.mem_append_left _ (List.mem_append_left _ (List.mem_append_left _ (List.mem_append_left _ (List.mem_append_left _ (List.mem_append_left _ (List.mem_append_left _ (List.mem_of_getElem? (i := 5) rfl))))))))) (mem_cA (List.mem_cons_of_mem _ (List.mem_append_left _ (List.mem_append_left _ (List.mem_append_left _ (List.mem_append_left _ (List.mem_append_left _ (List.mem_append_left _ (List.mem_append_left _ (List.mem_of_getElem? (i := 6) rfl))))))))) (mem_cA (List.mem_cons_of_mem _ (List.mem_append_left _ (List.mem_append_left _ (List.mem_append_left _ (List.mem_append_left _ (List.mem_append_left _ (List.mem_append_left _ (List.mem_append_left _ (List.mem_of_getElem? (i := 7) rfl))))))))) mem_cZ))) (by decide +kernel)) ggX0_decode_J7_fill_d0a16
set_option maxRecDepth 20000 in
theorem ggX0_decode_X10_field : GoodIn wsX0_decode wsX10_field := goodIn_ca ((goodIn_ca (goodIn_r _ [14, 15, 16] rfl (by decide +kernel)) (goodIn_sub (fun _ h => List.mem_cons_of_mem _ (List.mem_append_left _ (List.mem_append_left _ (List.mem_append_left _ (List.mem_append_left _ (List.mem_append_right _ h)))))) gw_wsX100))) (goodIn_sub (fun _ h => List.mem_cons_of_mem _ (List.mem_append_right _ h)) (all_fg _))
set_option maxRecDepth 20000 in
theorem gX0_decode_X10_field : GoodIn wsX0_decode (wsV RX0 152 RX10 yX10_field wsX10_field) := goodIn_app (goodIn_m (mem_cA (List.mem_cons_of_mem _ (List.mem_append_left _ (List.mem_append_left _ (List.mem_append_left _ (List.mem_append_left _ (List.mem_append_left _ (List.mem_append_left _ (List.mem_append_left _ (List.mem_of_getElem? (i := 9) rfl))))))))) (mem_cA (List.mem_cons_of_mem _ (List.mem_append_left _ (List.mem_append_left _ (List.mem_append_left _ (List.mem_append_left _ (List.mem_append_left _ (List.mem_append_left _ (List.mem_append_left _ (List.mem_of_getElem? (i := 10) rfl))))))))) (mem_cA (List.mem_cons_of_mem _ (List.mem_append_left _ (List.mem_append_left _ (List.mem_append_left _ (List.mem_append_left _ (List.mem_append_left _ (List.mem_append_left _ (List.mem_append_left _ (List.mem_of_getElem? (i := 11) rfl))))))))) (mem_cA (List.mem_cons_of_mem _ (List.mem_append_left _ (List.mem_append_left _ (List.mem_append_left _ (List.mem_append_left _ (List.mem_append_left _ (List.mem_append_left _ (List.mem_append_left _ (List.mem_of_getElem? (i := 12) rfl))))))))) mem_cZ)))) (by decide +kernel)) ggX0_decode_X10_field
set_option maxRecDepth 20000 in
theorem ggX0_decode_X5_numberAt : GoodIn wsX0_decode wsX5_numberAt := goodIn_ca ((goodIn_ca (goodIn_r _ [21, 22, 23] rfl (by decide +kernel)) (goodIn_sub (fun _ h => List.mem_cons_of_mem _ (List.mem_append_left _ (List.mem_append_left _ (List.mem_append_left _ (List.mem_append_right _ h))))) gw_wsX50))) (goodIn_sub (fun _ h => List.mem_cons_of_mem _ (List.mem_append_right _ h)) (all_fg _))
set_option maxRecDepth 20000 in
theorem gX0_decode_X5_numberAt : GoodIn wsX0_decode (wsV RX0 158 RX5 yX5_numberAt wsX5_numberAt) := goodIn_app (goodIn_m (mem_cA (List.mem_cons_of_mem _ (List.mem_append_left _ (List.mem_append_left _ (List.mem_append_left _ (List.mem_append_left _ (List.mem_append_left _ (List.mem_append_left _ (List.mem_append_left _ (List.mem_of_getElem? (i := 16) rfl))))))))) (mem_cA (List.mem_cons_of_mem _ (List.mem_append_left _ (List.mem_append_left _ (List.mem_append_left _ (List.mem_append_left _ (List.mem_append_left _ (List.mem_append_left _ (List.mem_append_left _ (List.mem_of_getElem? (i := 17) rfl))))))))) (mem_cA (List.mem_cons_of_mem _ (List.mem_append_left _ (List.mem_append_left _ (List.mem_append_left _ (List.mem_append_left _ (List.mem_append_left _ (List.mem_append_left _ (List.mem_append_left _ (List.mem_of_getElem? (i := 18) rfl))))))))) (mem_cA (List.mem_cons_of_mem _ (List.mem_append_left _ (List.mem_append_left _ (List.mem_append_left _ (List.mem_append_left _ (List.mem_append_left _ (List.mem_append_left _ (List.mem_append_left _ (List.mem_of_getElem? (i := 19) rfl))))))))) mem_cZ)))) (by decide +kernel)) ggX0_decode_X5_numberAt
set_option maxRecDepth 20000 in
theorem ggX0_decode_X3_keyOf : GoodIn wsX0_decode wsX3_keyOf := (goodIn_r _ [27, 28, 29] rfl (by decide +kernel))
set_option maxRecDepth 20000 in
theorem gX0_decode_X3_keyOf : GoodIn wsX0_decode (va_wsS RX0 162 yX3_keyOf wsX3_keyOf) := goodIn_app (goodIn_m (mem_cA (List.mem_cons_of_mem _ (List.mem_append_left _ (List.mem_append_left _ (List.mem_append_left _ (List.mem_append_left _ (List.mem_append_left _ (List.mem_append_left _ (List.mem_append_left _ (List.mem_of_getElem? (i := 23) rfl))))))))) (mem_cA (List.mem_cons_of_mem _ (List.mem_append_left _ (List.mem_append_left _ (List.mem_append_left _ (List.mem_append_left _ (List.mem_append_left _ (List.mem_append_left _ (List.mem_append_right _ (List.mem_append_left _ (List.mem_of_getElem? (i := 0) rfl)))))))))) (mem_cA (List.mem_cons_of_mem _ (List.mem_append_left _ (List.mem_append_left _ (List.mem_append_left _ (List.mem_append_left _ (List.mem_append_left _ (List.mem_append_left _ (List.mem_append_right _ (List.mem_append_left _ (List.mem_of_getElem? (i := 1) rfl)))))))))) mem_cZ))) (by decide +kernel)) ggX0_decode_X3_keyOf
set_option maxRecDepth 20000 in
theorem ggX0_decode_X9_indexOrNew : GoodIn wsX0_decode wsX9_indexOrNew := goodIn_ca ((goodIn_ca (goodIn_r _ [34, 35, 36, 37, 38, 39, 40, 41, 42, 33, 43] rfl (by decide +kernel)) (goodIn_sub (fun _ h => List.mem_cons_of_mem _ (List.mem_append_left _ (List.mem_append_left _ (List.mem_append_right _ h)))) gw_wsX90))) (goodIn_sub (fun _ h => List.mem_cons_of_mem _ (List.mem_append_right _ h)) (all_fg _))
set_option maxRecDepth 20000 in
theorem gX0_decode_X9_indexOrNew : GoodIn wsX0_decode (wsV RX0 168 RX9 yX9_indexOrNew wsX9_indexOrNew) := goodIn_app (goodIn_m (mem_cA (List.mem_cons_of_mem _ (List.mem_append_left _ (List.mem_append_left _ (List.mem_append_left _ (List.mem_append_left _ (List.mem_append_left _ (List.mem_append_left _ (List.mem_append_right _ (List.mem_append_left _ (List.mem_of_getElem? (i := 5) rfl)))))))))) (mem_cA (List.mem_cons_of_mem _ (List.mem_append_left _ (List.mem_append_left _ (List.mem_append_left _ (List.mem_append_left _ (List.mem_append_left _ (List.mem_append_left _ (List.mem_append_right _ (List.mem_append_left _ (List.mem_of_getElem? (i := 6) rfl)))))))))) (mem_cA (List.mem_cons_of_mem _ (List.mem_append_left _ (List.mem_append_left _ (List.mem_append_left _ (List.mem_append_left _ (List.mem_append_left _ (List.mem_append_left _ (List.mem_append_right _ (List.mem_append_left _ (List.mem_of_getElem? (i := 7) rfl)))))))))) (mem_cA (List.mem_cons_of_mem _ (List.mem_append_left _ (List.mem_append_left _ (List.mem_append_left _ (List.mem_append_left _ (List.mem_append_left _ (List.mem_append_left _ (List.mem_append_right _ (List.mem_append_left _ (List.mem_of_getElem? (i := 8) rfl)))))))))) mem_cZ)))) (by decide +kernel)) ggX0_decode_X9_indexOrNew
set_option maxRecDepth 20000 in
theorem ggX0_decode_X1_get : GoodIn wsX0_decode wsX1_get := goodIn_ca ((goodIn_ca (goodIn_r _ [48, 49] rfl (by decide +kernel)) (goodIn_sub (fun _ h => List.mem_cons_of_mem _ (List.mem_append_left _ (List.mem_append_right _ h))) gw_wsX10))) (goodIn_sub (fun _ h => List.mem_cons_of_mem _ (List.mem_append_right _ h)) (all_fg _))
set_option maxRecDepth 20000 in
theorem gX0_decode_X1_get : GoodIn wsX0_decode (wsV RX0 77 RX1 yX1_get wsX1_get) := goodIn_app (goodIn_m (mem_cA (List.mem_cons_of_mem _ (List.mem_append_left _ (List.mem_append_left _ (List.mem_append_left _ (List.mem_append_left _ (List.mem_append_left _ (List.mem_append_left _ (List.mem_append_right _ (List.mem_append_left _ (List.mem_of_getElem? (i := 19) rfl)))))))))) (mem_cA (List.mem_cons_of_mem _ (List.mem_append_left _ (List.mem_append_left _ (List.mem_append_left _ (List.mem_append_left _ (List.mem_append_left _ (List.mem_append_left _ (List.mem_append_right _ (List.mem_append_left _ (List.mem_of_getElem? (i := 20) rfl)))))))))) (mem_cA (List.mem_cons_of_mem _ (List.mem_append_left _ (List.mem_append_left _ (List.mem_append_left _ (List.mem_append_left _ (List.mem_append_left _ (List.mem_append_left _ (List.mem_append_right _ (List.mem_append_left _ (List.mem_of_getElem? (i := 21) rfl)))))))))) (mem_cA (List.mem_cons_of_mem _ (List.mem_append_left _ (List.mem_append_left _ (List.mem_append_left _ (List.mem_append_left _ (List.mem_append_left _ (List.mem_append_left _ (List.mem_append_right _ (List.mem_append_left _ (List.mem_of_getElem? (i := 22) rfl)))))))))) mem_cZ)))) (by decide +kernel)) ggX0_decode_X1_get
set_option maxRecDepth 20000 in
theorem ggX0_decode_X0_rateOfBits : GoodIn wsX0_decode wsX0_rateOfBits := (goodIn_r _ [53, 54, 55, 56, 57, 58, 59, 60, 61] rfl (by decide +kernel))
set_option maxRecDepth 20000 in
theorem gX0_decode_X0_rateOfBits : GoodIn wsX0_decode (va_wsS RX0 174 yX0_rateOfBits wsX0_rateOfBits) := goodIn_app (goodIn_m (mem_cA (List.mem_cons_of_mem _ (List.mem_append_left _ (List.mem_append_left _ (List.mem_append_left _ (List.mem_append_left _ (List.mem_append_left _ (List.mem_append_left _ (List.mem_append_right _ (List.mem_append_right _ (List.mem_of_getElem? (i := 1) rfl)))))))))) (mem_cA (List.mem_cons_of_mem _ (List.mem_append_left _ (List.mem_append_left _ (List.mem_append_left _ (List.mem_append_left _ (List.mem_append_left _ (List.mem_append_left _ (List.mem_append_right _ (List.mem_append_right _ (List.mem_of_getElem? (i := 2) rfl)))))))))) (mem_cA (List.mem_cons_of_mem _ (List.mem_append_left _ (List.mem_append_left _ (List.mem_append_left _ (List.mem_append_left _ (List.mem_append_left _ (List.mem_append_left _ (List.mem_append_right _ (List.mem_append_right _ (List.mem_of_getElem? (i := 3) rfl)))))))))) mem_cZ))) (by decide +kernel)) ggX0_decode_X0_rateOfBits
set_option maxRecDepth 20000 in
theorem ggX0_decode_X9_add : GoodIn wsX0_decode wsX9_add := goodIn_ca ((goodIn_ca (goodIn_r _ [65, 35, 37, 38, 39] rfl (by decide +kernel)) (goodIn_sub (fun _ h => List.mem_cons_of_mem _ (List.mem_append_left _ (List.mem_append_left _ (List.mem_append_right _ h)))) gw_wsX90))) (goodIn_sub (fun _ h => List.mem_cons_of_mem _ (List.mem_append_right _ h)) (all_fg _))
set_option maxRecDepth 20000 in
theorem gX0_decode_X9_add : GoodIn wsX0_decode (wsV RX0 177 RX9 yX9_add wsX9_add) := goodIn_app (goodIn_m (mem_cA (List.mem_cons_of_mem _ (List.mem_append_left _ (List.mem_append_left _ (List.mem_append_left _ (List.mem_append_left _ (List.mem_append_left _ (List.mem_append_left _ (List.mem_append_right _ (List.mem_append_right _ (List.mem_of_getElem? (i := 13) rfl)))))))))) (mem_cA (List.mem_cons_of_mem _ (List.mem_append_left _ (List.mem_append_left _ (List.mem_append_left _ (List.mem_append_left _ (List.mem_append_left _ (List.mem_append_left _ (List.mem_append_right _ (List.mem_append_right _ (List.mem_of_getElem? (i := 14) rfl)))))))))) (mem_cA (List.mem_cons_of_mem _ (List.mem_append_left _ (List.mem_append_left _ (List.mem_append_left _ (List.mem_append_left _ (List.mem_append_left _ (List.mem_append_left _ (List.mem_append_right _ (List.mem_append_right _ (List.mem_of_getElem? (i := 15) rfl)))))))))) (mem_cA (List.mem_cons_of_mem _ (List.mem_append_left _ (List.mem_append_left _ (List.mem_append_left _ (List.mem_append_left _ (List.mem_append_left _ (List.mem_append_left _ (List.mem_append_right _ (List.mem_append_left _ (List.mem_of_getElem? (i := 8) rfl)))))))))) mem_cZ)))) (by decide +kernel)) ggX0_decode_X9_add
theorem dX0_decode_0 : decode cX0_decode 0 = .ok (.aload_n 0, 1) := by decide +kernel
theorem dX0_decode_1 : decode cX0_decode 1 = .ok (.getfield 36, 3) := by decide +kernel
theorem dX0_decode_4 : decode cX0_decode 4 = .ok (.lconst 0, 1) := by decide +kernel
theorem dX0_decode_5 : decode cX0_decode 5 = .ok (.invokestatic 57, 3) := by decide +kernel
theorem dX0_decode_8 : decode cX0_decode 8 = .ok (.iload_n 2, 1) := by decide +kernel
theorem dX0_decode_9 : decode cX0_decode 9 = .ok (.istore 4, 2) := by decide +kernel
theorem dX0_decode_11 : decode cX0_decode 11 = .ok (.iconst 0, 1) := by decide +kernel
theorem dX0_decode_12 : decode cX0_decode 12 = .ok (.istore 5, 2) := by decide +kernel
theorem dX0_decode_14 : decode cX0_decode 14 = .ok (.iload 5, 2) := by decide +kernel
theorem dX0_decode_16 : decode cX0_decode 16 = .ok (.aload_n 3, 1) := by decide +kernel
theorem dX0_decode_17 : decode cX0_decode 17 = .ok (.getfield 67, 3) := by decide +kernel
theorem dX0_decode_20 : decode cX0_decode 20 = .ok (.if_icmp .ge 59, 3) := by decide +kernel
theorem dX0_decode_23 : decode cX0_decode 23 = .ok (.aload_n 3, 1) := by decide +kernel
theorem dX0_decode_24 : decode cX0_decode 24 = .ok (.iload 5, 2) := by decide +kernel
theorem dX0_decode_26 : decode cX0_decode 26 = .ok (.invokevirtual 152, 3) := by decide +kernel
theorem dX0_decode_29 : decode cX0_decode 29 = .ok (.istore 6, 2) := by decide +kernel
theorem dX0_decode_31 : decode cX0_decode 31 = .ok (.iload 6, 2) := by decide +kernel
theorem dX0_decode_33 : decode cX0_decode 33 = .ok (.ifCond .lt 40, 3) := by decide +kernel
theorem dX0_decode_36 : decode cX0_decode 36 = .ok (.iload 6, 2) := by decide +kernel
theorem dX0_decode_38 : decode cX0_decode 38 = .ok (.bipush 9, 2) := by decide +kernel
theorem dX0_decode_40 : decode cX0_decode 40 = .ok (.if_icmp .ge 33, 3) := by decide +kernel
theorem dX0_decode_43 : decode cX0_decode 43 = .ok (.aload_n 0, 1) := by decide +kernel
theorem dX0_decode_44 : decode cX0_decode 44 = .ok (.getfield 36, 3) := by decide +kernel
theorem dX0_decode_47 : decode cX0_decode 47 = .ok (.iload 6, 2) := by decide +kernel
theorem dX0_decode_49 : decode cX0_decode 49 = .ok (.aload_n 1, 1) := by decide +kernel
theorem dX0_decode_50 : decode cX0_decode 50 = .ok (.iload 4, 2) := by decide +kernel
theorem dX0_decode_52 : decode cX0_decode 52 = .ok (.getstatic 155, 3) := by decide +kernel
theorem dX0_decode_55 : decode cX0_decode 55 = .ok (.iload 6, 2) := by decide +kernel
theorem dX0_decode_57 : decode cX0_decode 57 = .ok (.iaload, 1) := by decide +kernel
theorem dX0_decode_58 : decode cX0_decode 58 = .ok (.invokevirtual 158, 3) := by decide +kernel
theorem dX0_decode_61 : decode cX0_decode 61 = .ok (.lastore, 1) := by decide +kernel
theorem dX0_decode_62 : decode cX0_decode 62 = .ok (.iload 4, 2) := by decide +kernel
theorem dX0_decode_64 : decode cX0_decode 64 = .ok (.getstatic 155, 3) := by decide +kernel
theorem dX0_decode_67 : decode cX0_decode 67 = .ok (.iload 6, 2) := by decide +kernel
theorem dX0_decode_69 : decode cX0_decode 69 = .ok (.iaload, 1) := by decide +kernel
theorem dX0_decode_70 : decode cX0_decode 70 = .ok (.iadd, 1) := by decide +kernel
theorem dX0_decode_71 : decode cX0_decode 71 = .ok (.istore 4, 2) := by decide +kernel
theorem dX0_decode_73 : decode cX0_decode 73 = .ok (.iinc 5 1, 3) := by decide +kernel
theorem dX0_decode_76 : decode cX0_decode 76 = .ok (.goto (-62), 3) := by decide +kernel
theorem dX0_decode_79 : decode cX0_decode 79 = .ok (.aload_n 0, 1) := by decide +kernel
theorem dX0_decode_80 : decode cX0_decode 80 = .ok (.getfield 36, 3) := by decide +kernel
theorem dX0_decode_83 : decode cX0_decode 83 = .ok (.iconst 0, 1) := by decide +kernel
theorem dX0_decode_84 : decode cX0_decode 84 = .ok (.laload, 1) := by decide +kernel
theorem dX0_decode_85 : decode cX0_decode 85 = .ok (.l2i, 1) := by decide +kernel
theorem dX0_decode_86 : decode cX0_decode 86 = .ok (.aload_n 0, 1) := by decide +kernel
theorem dX0_decode_87 : decode cX0_decode 87 = .ok (.getfield 36, 3) := by decide +kernel
theorem dX0_decode_90 : decode cX0_decode 90 = .ok (.iconst 1, 1) := by decide +kernel
theorem dX0_decode_91 : decode cX0_decode 91 = .ok (.laload, 1) := by decide +kernel
theorem dX0_decode_92 : decode cX0_decode 92 = .ok (.l2i, 1) := by decide +kernel
theorem dX0_decode_93 : decode cX0_decode 93 = .ok (.aload_n 0, 1) := by decide +kernel
theorem dX0_decode_94 : decode cX0_decode 94 = .ok (.getfield 36, 3) := by decide +kernel
theorem dX0_decode_97 : decode cX0_decode 97 = .ok (.iconst 2, 1) := by decide +kernel
theorem dX0_decode_98 : decode cX0_decode 98 = .ok (.laload, 1) := by decide +kernel
theorem dX0_decode_99 : decode cX0_decode 99 = .ok (.l2i, 1) := by decide +kernel
theorem dX0_decode_100 : decode cX0_decode 100 = .ok (.aload_n 0, 1) := by decide +kernel
theorem dX0_decode_101 : decode cX0_decode 101 = .ok (.getfield 36, 3) := by decide +kernel
theorem dX0_decode_104 : decode cX0_decode 104 = .ok (.iconst 3, 1) := by decide +kernel
theorem dX0_decode_105 : decode cX0_decode 105 = .ok (.laload, 1) := by decide +kernel
theorem dX0_decode_106 : decode cX0_decode 106 = .ok (.l2i, 1) := by decide +kernel
theorem dX0_decode_107 : decode cX0_decode 107 = .ok (.invokestatic 162, 3) := by decide +kernel
theorem dX0_decode_110 : decode cX0_decode 110 = .ok (.lstore 5, 2) := by decide +kernel
theorem dX0_decode_112 : decode cX0_decode 112 = .ok (.aload_n 0, 1) := by decide +kernel
theorem dX0_decode_113 : decode cX0_decode 113 = .ok (.getfield 53, 3) := by decide +kernel
theorem dX0_decode_116 : decode cX0_decode 116 = .ok (.lload 5, 2) := by decide +kernel
theorem dX0_decode_118 : decode cX0_decode 118 = .ok (.invokevirtual 168, 3) := by decide +kernel
theorem dX0_decode_121 : decode cX0_decode 121 = .ok (.istore 7, 2) := by decide +kernel
theorem dX0_decode_123 : decode cX0_decode 123 = .ok (.iload 7, 2) := by decide +kernel
theorem dX0_decode_125 : decode cX0_decode 125 = .ok (.iconst (-1), 1) := by decide +kernel
theorem dX0_decode_126 : decode cX0_decode 126 = .ok (.if_icmp .ne 15, 3) := by decide +kernel
theorem dX0_decode_129 : decode cX0_decode 129 = .ok (.aload_n 0, 1) := by decide +kernel
theorem dX0_decode_130 : decode cX0_decode 130 = .ok (.getfield 32, 3) := by decide +kernel
theorem dX0_decode_133 : decode cX0_decode 133 = .ok (.bipush 6, 2) := by decide +kernel
theorem dX0_decode_135 : decode cX0_decode 135 = .ok (.dup2, 1) := by decide +kernel
theorem dX0_decode_136 : decode cX0_decode 136 = .ok (.laload, 1) := by decide +kernel
theorem dX0_decode_137 : decode cX0_decode 137 = .ok (.lconst 1, 1) := by decide +kernel
theorem dX0_decode_138 : decode cX0_decode 138 = .ok (.ladd, 1) := by decide +kernel
theorem dX0_decode_139 : decode cX0_decode 139 = .ok (.lastore, 1) := by decide +kernel
theorem dX0_decode_140 : decode cX0_decode 140 = .ok (.return_, 1) := by decide +kernel
theorem dX0_decode_141 : decode cX0_decode 141 = .ok (.aload_n 0, 1) := by decide +kernel
theorem dX0_decode_142 : decode cX0_decode 142 = .ok (.getfield 36, 3) := by decide +kernel
theorem dX0_decode_145 : decode cX0_decode 145 = .ok (.bipush 8, 2) := by decide +kernel
theorem dX0_decode_147 : decode cX0_decode 147 = .ok (.laload, 1) := by decide +kernel
theorem dX0_decode_148 : decode cX0_decode 148 = .ok (.l2i, 1) := by decide +kernel
theorem dX0_decode_149 : decode cX0_decode 149 = .ok (.aload_n 0, 1) := by decide +kernel
theorem dX0_decode_150 : decode cX0_decode 150 = .ok (.getfield 49, 3) := by decide +kernel
theorem dX0_decode_153 : decode cX0_decode 153 = .ok (.bipush 8, 2) := by decide +kernel
theorem dX0_decode_155 : decode cX0_decode 155 = .ok (.invokevirtual 77, 3) := by decide +kernel
theorem dX0_decode_158 : decode cX0_decode 158 = .ok (.invokestatic 174, 3) := by decide +kernel
theorem dX0_decode_161 : decode cX0_decode 161 = .ok (.istore 8, 2) := by decide +kernel
theorem dX0_decode_163 : decode cX0_decode 163 = .ok (.aload_n 0, 1) := by decide +kernel
theorem dX0_decode_164 : decode cX0_decode 164 = .ok (.getfield 53, 3) := by decide +kernel
theorem dX0_decode_167 : decode cX0_decode 167 = .ok (.iload 7, 2) := by decide +kernel
theorem dX0_decode_169 : decode cX0_decode 169 = .ok (.aload_n 0, 1) := by decide +kernel
theorem dX0_decode_170 : decode cX0_decode 170 = .ok (.getfield 36, 3) := by decide +kernel
theorem dX0_decode_173 : decode cX0_decode 173 = .ok (.iconst 4, 1) := by decide +kernel
theorem dX0_decode_174 : decode cX0_decode 174 = .ok (.laload, 1) := by decide +kernel
theorem dX0_decode_175 : decode cX0_decode 175 = .ok (.aload_n 0, 1) := by decide +kernel
theorem dX0_decode_176 : decode cX0_decode 176 = .ok (.getfield 36, 3) := by decide +kernel
theorem dX0_decode_179 : decode cX0_decode 179 = .ok (.iconst 5, 1) := by decide +kernel
theorem dX0_decode_180 : decode cX0_decode 180 = .ok (.laload, 1) := by decide +kernel
theorem dX0_decode_181 : decode cX0_decode 181 = .ok (.iload 8, 2) := by decide +kernel
theorem dX0_decode_183 : decode cX0_decode 183 = .ok (.invokevirtual 177, 3) := by decide +kernel
theorem dX0_decode_186 : decode cX0_decode 186 = .ok (.return_, 1) := by decide +kernel
set_option maxHeartbeats 4000000 in
set_option maxRecDepth 100000 in
theorem s_X0_decode (G : EnvG) (l : Launch) (Φ : Hm) (sz x ca : Nat) (k : Nat) (a : Int32) (q : Nat) (hx : G.2.2.2 ≤ x) (hI : In G x ca Φ) (hk_k : kd k = 1) (hk_q : kd q = 8) (hq : 141 ≤ q) : Ct G l yX0_decode wsX0_decode ({ frames := 2, cells := 0, slots := 0, locals := 47 }) 0 0 [.ref (x + 132), .ref (x + (k)), .int a, .ref (x + (q))] Φ sz (fun v Φ1 sz1 => (v = none) ∧ sz1 = sz ∧ In G x (ca) Φ1 ∧ Fr x (fun j9 => (121 ≤ j9 ∧ j9 < 133) ∨ (139 ≤ j9 ∧ j9 < 141)) Φ Φ1) := by
  refine Ct.of (cc := cX0_decode) (maxL := 9) (ret := none) (by decide) rfl (Nat.le_of_ble_eq_true rfl) ?_
  intro p9 e9 s9 m9 w9 t9 k9 B
  show Z p9 l e9 _ s9 m9 _ w9 t9 k9 _ G 9 0 [(0, .ref (x + 132)), (1, .ref (x + (k))), (2, .int a), (3, .ref (x + (q)))] [] Φ sz 0 0
  refine z_aload_n B dX0_decode_0 rfl 0 rfl ?_
  obtain ⟨n_1, v_1, v_2, h_1, b_1⟩ := in25 (k := 132) hI rfl
  have h_2 : Φ (x + 132) = some (o_ 2 [.ref (x + 3), .ref (x + 121), .ref (x + 133), .ref (x + 134), .ref (x + 135), .ref (x + 137), .ref (x + 138), .ref (x + 139), .ref (x + 140), .int (nI n_1), .int v_1, .int v_2]) := h_1
  refine z_get (ref := "FlowExporter$Collector") (C := RX0) (T := TX0) (N := 12) (ci := 2) (v := .ref (x + 140)) B hu_X0_decode_X0 rfl 8 (Nat.le_of_ble_eq_true rfl) hv_X0_decode_36 rfl h_2 rfl dX0_decode_1 ?_
  refine z_lconst (v := 0) B dX0_decode_4 rfl ?_
  obtain ⟨f_1, h_3, r_1⟩ := in29 (k := 140) hI rfl
  have h_4 : Φ (x + 140) = some (al_ G 9 f_1) := h_3
  refine z_callS (As := [.ref (x + 140), .long 0]) (rest := []) B (c_J7_fill_d0a16 G l Φ sz (x + 140) 9 f_1 0 h_4 (Nat.le_trans hx (Nat.le_add_right x 140)) (by decide)) (va_cwS 2 B.1.2.2.2.2 gX0_decode_J7_fill_d0a16 rfl rfl rfl (by decide +kernel) ⟨Nat.le_of_ble_eq_true rfl, Nat.le_of_ble_eq_true rfl⟩) rfl rfl (Nat.le_of_ble_eq_true rfl) dX0_decode_5 ⟨Nat.le_of_ble_eq_true rfl, Nat.le_of_ble_eq_true rfl⟩ (fun r_2 Φ1 sz1 st1 hp1 hs1 => ?_)
  obtain ⟨rfl, hq1, fr1, h_5⟩ := hp1
  subst sz1
  replace hs1 : st1 = [] := hs1
  subst st1
  have hΦ1 : Φ1 = fset Φ (x + 140) (al_ G 9 (fun _ => 0)) := fset_of fr1 h_5
  have h_6 : Φ1 (x + 140) = some (al_ G 9 (fun _ => 0)) := fset_at hΦ1
  have hI1 : In G x (ca) Φ1 := In.put (k := 140) hI hΦ1 (ok29 (k := 140) rfl ⟨_, rfl, by decide⟩)
  refine z_iload_n B dX0_decode_8 rfl 2 rfl ?_
  refine z_istore (lv' := [(4, .int a), (0, .ref (x + 132)), (1, .ref (x + (k))), (2, .int a), (3, .ref (x + (q)))]) B dX0_decode_9 (Nat.le_of_ble_eq_true rfl) rfl ?_
  refine z_iconst (v := 0) B dX0_decode_11 rfl ?_
  refine z_istore (lv' := [(5, .int 0), (4, .int a), (0, .ref (x + 132)), (1, .ref (x + (k))), (2, .int a), (3, .ref (x + (q)))]) B dX0_decode_12 (Nat.le_of_ble_eq_true rfl) rfl ?_
  refine z_lv [0, 1, 2, 3, 4, 5] rfl ?_
  refine z_loop (α := Nat × Int32) (fun (a9 : Nat × Int32) Φi => In G x (ca) Φi ∧ Fr x (fun j9 => j9 = 140) Φ1 Φi ∧ (a9.1 ≤ 9) ∧ True) (fun a9 => [(5, .int (nI (a9.1))), (4, .int a9.2), (0, .ref (x + 132)), (1, .ref (x + (k))), (2, .int a), (3, .ref (x + (q)))]) (fun a9 => 9 - a9.1) ?_ (0, a) ⟨hI1, fun _ _ => rfl, (show 0 ≤ 9 by omega), trivial⟩
  rintro ⟨i_1, i_2⟩ Φl1 ⟨hI2, hF1, b_2, -⟩ ih1
  replace hI2 : In G x (ca) Φl1 := hI2
  replace b_2 : i_1 ≤ 9 := b_2
  show Z p9 l e9 _ s9 m9 _ w9 t9 k9 _ G 9 14 [(5, .int (nI i_1)), (4, .int i_2), (0, .ref (x + 132)), (1, .ref (x + (k))), (2, .int a), (3, .ref (x + (q)))] [] Φl1 _ _ _
  refine z_iload B dX0_decode_14 0 rfl ?_
  refine z_aload_n B dX0_decode_16 rfl 5 rfl ?_
  obtain ⟨n_2, v_3, v_4, h_7, b_3⟩ := in8 (k := q) hI2 hk_q
  have h_8 : Φl1 (x + (q)) = some (o_ 12 [.ref (x + (q + 1)), .int (nI n_2), .int v_3, .int v_4]) := h_7
  refine z_get (ref := "FlowExporter$Template") (C := RX10) (T := TX10) (N := 4) (ci := 12) (v := .int (nI n_2)) B hu_X0_decode_X10 rfl 1 (Nat.le_of_ble_eq_true rfl) hv_X0_decode_67 rfl h_8 rfl dX0_decode_17 ?_
  refine z_icmp_ge (tgt := 79) B dX0_decode_20 rfl (fun c_1 => ?_) (fun c_1 => ?_)
  · have e_1 : n_2 ≤ i_1 := (nI_leI (a := n_2) (b := i_1) (by omega) (by omega)).mp c_1
    refine z_aload_n B dX0_decode_79 rfl 2 rfl ?_
    have h_9 : Φl1 (x + 132) = some (o_ 2 [.ref (x + 3), .ref (x + 121), .ref (x + 133), .ref (x + 134), .ref (x + 135), .ref (x + 137), .ref (x + 138), .ref (x + 139), .ref (x + 140), .int (nI n_1), .int v_1, .int v_2]) := ((hF1 (x + 132) fq_356).trans ((fset_fr hΦ1 (ne_off (x := x) (i := 132) (j := 140) rfl)).trans h_2))
    refine z_get (ref := "FlowExporter$Collector") (C := RX0) (T := TX0) (N := 12) (ci := 2) (v := .ref (x + 140)) B hu_X0_decode_X0 rfl 8 (Nat.le_of_ble_eq_true rfl) hv_X0_decode_36 rfl h_9 rfl dX0_decode_80 ?_
    refine z_iconst (v := 0) B dX0_decode_83 rfl ?_
    obtain ⟨f_2, h_10, r_3⟩ := in29 (k := 140) hI2 rfl
    have h_11 : Φl1 (x + 140) = some (al_ G 9 f_2) := h_10
    refine z_lald B h_11 (vin rfl) dX0_decode_84 ?_
    refine z_fl (fun v_5 => ?_)
    refine z_l2i (v := v_5.toInt32) B dX0_decode_85 rfl ?_
    refine z_fi (fun v_6 => ?_)
    refine z_aload_n B dX0_decode_86 rfl 2 rfl ?_
    refine z_get (ref := "FlowExporter$Collector") (C := RX0) (T := TX0) (N := 12) (ci := 2) (v := .ref (x + 140)) B hu_X0_decode_X0 rfl 8 (Nat.le_of_ble_eq_true rfl) hv_X0_decode_36 rfl h_9 rfl dX0_decode_87 ?_
    refine z_iconst (v := 1) B dX0_decode_90 rfl ?_
    refine z_lald B h_11 (vin rfl) dX0_decode_91 ?_
    refine z_fl (fun v_7 => ?_)
    refine z_l2i (v := v_7.toInt32) B dX0_decode_92 rfl ?_
    refine z_fi (fun v_8 => ?_)
    refine z_aload_n B dX0_decode_93 rfl 2 rfl ?_
    refine z_get (ref := "FlowExporter$Collector") (C := RX0) (T := TX0) (N := 12) (ci := 2) (v := .ref (x + 140)) B hu_X0_decode_X0 rfl 8 (Nat.le_of_ble_eq_true rfl) hv_X0_decode_36 rfl h_9 rfl dX0_decode_94 ?_
    refine z_iconst (v := 2) B dX0_decode_97 rfl ?_
    refine z_lald B h_11 (vin rfl) dX0_decode_98 ?_
    refine z_fl (fun v_9 => ?_)
    refine z_l2i (v := v_9.toInt32) B dX0_decode_99 rfl ?_
    refine z_fi (fun v_10 => ?_)
    refine z_aload_n B dX0_decode_100 rfl 2 rfl ?_
    refine z_get (ref := "FlowExporter$Collector") (C := RX0) (T := TX0) (N := 12) (ci := 2) (v := .ref (x + 140)) B hu_X0_decode_X0 rfl 8 (Nat.le_of_ble_eq_true rfl) hv_X0_decode_36 rfl h_9 rfl dX0_decode_101 ?_
    refine z_iconst (v := 3) B dX0_decode_104 rfl ?_
    refine z_lald B h_11 (vin rfl) dX0_decode_105 ?_
    refine z_fl (fun v_11 => ?_)
    refine z_l2i (v := v_11.toInt32) B dX0_decode_106 rfl ?_
    refine z_fi (fun v_12 => ?_)
    refine z_callS (As := [.int v_6, .int v_8, .int v_10, .int v_12]) (rest := []) B (s_X3_keyOf G l Φl1 sz x (ca) v_6 v_8 v_10 v_12 hx hI2 ) (va_cwS 4 B.1.2.2.2.2 gX0_decode_X3_keyOf rfl rfl rfl (by decide +kernel) ⟨Nat.le_of_ble_eq_true rfl, Nat.le_of_ble_eq_true rfl⟩) rfl rfl (Nat.le_of_ble_eq_true rfl) dX0_decode_107 ⟨Nat.le_of_ble_eq_true rfl, Nat.le_of_ble_eq_true rfl⟩ (fun r_4 Φ2 sz2 st2 hp2 hs2 => ?_)
    obtain ⟨rfl, hq2, hI3, hF2⟩ := hp2
    subst sz2
    replace hs2 : st2 = [.long (keyF v_6 v_8 v_10 v_12)] := hs2
    subst st2
    replace hI3 : In G x (ca) Φ2 := hI3
    refine z_lstore (lv' := [(5, .long (keyF v_6 v_8 v_10 v_12)), (4, .int i_2), (0, .ref (x + 132)), (1, .ref (x + (k))), (2, .int a), (3, .ref (x + (q)))]) B dX0_decode_110 (Nat.le_of_ble_eq_true rfl) rfl ?_
    refine z_aload_n B dX0_decode_112 rfl 2 rfl ?_
    have h_12 : Φ2 (x + 132) = some (o_ 2 [.ref (x + 3), .ref (x + 121), .ref (x + 133), .ref (x + 134), .ref (x + 135), .ref (x + 137), .ref (x + 138), .ref (x + 139), .ref (x + 140), .int (nI n_1), .int v_1, .int v_2]) := ((hF2 (x + 132) (fun j9 h8 h7 => (show False from h7).elim)).trans h_9)
    refine z_get (ref := "FlowExporter$Collector") (C := RX0) (T := TX0) (N := 12) (ci := 2) (v := .ref (x + 121)) B hu_X0_decode_X0 rfl 1 (Nat.le_of_ble_eq_true rfl) hv_X0_decode_53 rfl h_12 rfl dX0_decode_113 ?_
    refine z_lload B dX0_decode_116 0 rfl ?_
    obtain ⟨n_3, h_13, b_4⟩ := in20 (k := 121) hI3 rfl
    have h_14 : Φ2 (x + 121) = some (o_ 11 [.ref (x + 122), .ref (x + 123), .ref (x + 126), .ref (x + 129), .int (nI n_3)]) := h_13
    refine z_callV (As := [.long (keyF v_6 v_8 v_10 v_12)]) (rest := []) B (s_X9_indexOrNew G l Φ2 sz x (ca) (keyF v_6 v_8 v_10 v_12) hx hI3 ) (cwV 1 B.1.2.2.2.2 gX0_decode_X9_indexOrNew rfl rfl rfl (by decide +kernel) ⟨Nat.le_of_ble_eq_true rfl, Nat.le_of_ble_eq_true rfl⟩) h_14 rfl rfl rfl rfl (Nat.le_of_ble_eq_true rfl) dX0_decode_118 ⟨Nat.le_of_ble_eq_true rfl, Nat.le_of_ble_eq_true rfl⟩ (fun r_5 Φ3 sz3 st3 hp3 hs3 => ?_)
    obtain ⟨⟨v_13, rfl⟩, hq3, hI4, hF3⟩ := hp3
    subst sz3
    replace hs3 : st3 = [.int v_13] := hs3
    subst st3
    replace hI4 : In G x (ca) Φ3 := hI4
    refine z_istore (lv' := [(7, .int v_13), (5, .long (keyF v_6 v_8 v_10 v_12)), (4, .int i_2), (0, .ref (x + 132)), (1, .ref (x + (k))), (2, .int a), (3, .ref (x + (q)))]) B dX0_decode_121 (Nat.le_of_ble_eq_true rfl) rfl ?_
    refine z_iload B dX0_decode_123 0 rfl ?_
    refine z_iconst (v := (-1)) B dX0_decode_125 rfl ?_
    refine z_icmp_ne (tgt := 141) B dX0_decode_126 rfl (fun c_2 => ?_) (fun c_2 => ?_)
    · refine z_aload_n B dX0_decode_141 rfl 3 rfl ?_
      have h_15 : Φ3 (x + 132) = some (o_ 2 [.ref (x + 3), .ref (x + 121), .ref (x + 133), .ref (x + 134), .ref (x + 135), .ref (x + 137), .ref (x + 138), .ref (x + 139), .ref (x + 140), .int (nI n_1), .int v_1, .int v_2]) := ((hF3 (x + 132) fq_358).trans h_12)
      refine z_get (ref := "FlowExporter$Collector") (C := RX0) (T := TX0) (N := 12) (ci := 2) (v := .ref (x + 140)) B hu_X0_decode_X0 rfl 8 (Nat.le_of_ble_eq_true rfl) hv_X0_decode_36 rfl h_15 rfl dX0_decode_142 ?_
      refine z_bipush (v := 8) B dX0_decode_145 rfl ?_
      have h_16 : Φ3 (x + 140) = some (al_ G 9 f_2) := ((hF3 (x + 140) fq_359).trans ((hF2 (x + 140) (fun j9 h8 h7 => (show False from h7).elim)).trans h_11))
      refine z_lald B h_16 (vin rfl) dX0_decode_147 ?_
      refine z_fl (fun v_14 => ?_)
      refine z_l2i (v := v_14.toInt32) B dX0_decode_148 rfl ?_
      refine z_fi (fun v_15 => ?_)
      refine z_aload_n B dX0_decode_149 rfl 3 rfl ?_
      refine z_get (ref := "FlowExporter$Collector") (C := RX0) (T := TX0) (N := 12) (ci := 2) (v := .ref (x + 3)) B hu_X0_decode_X0 rfl 0 (Nat.le_of_ble_eq_true rfl) hv_X0_decode_49 rfl h_15 rfl dX0_decode_150 ?_
      refine z_bipush (v := 8) B dX0_decode_153 rfl ?_
      obtain ⟨v_16, v_17, h_17⟩ := in3 (k := 3) hI4 rfl
      have h_18 : Φ3 (x + 3) = some (o_ 3 [.ref (x + 4), .ref (x + 5), .ref (x + 6), .ref (x + 7), .int v_16, .int v_17]) := h_17
      refine z_callV (As := [.int 8]) (rest := [.int v_15]) B (s_X1_get G l Φ3 sz x (ca) 3 8 hx hI4 rfl) (cwV 1 B.1.2.2.2.2 gX0_decode_X1_get rfl rfl rfl (by decide +kernel) ⟨Nat.le_of_ble_eq_true rfl, Nat.le_of_ble_eq_true rfl⟩) h_18 rfl rfl rfl rfl (Nat.le_of_ble_eq_true rfl) dX0_decode_155 ⟨Nat.le_of_ble_eq_true rfl, Nat.le_of_ble_eq_true rfl⟩ (fun r_6 Φ4 sz4 st4 hp4 hs4 => ?_)
      obtain ⟨⟨n_4, rfl, b_5⟩, hq4, hI5, hF4⟩ := hp4
      subst sz4
      replace hs4 : st4 = [.int (nI n_4), .int v_15] := hs4
      subst st4
      replace hI5 : In G x (ca) Φ4 := hI5
      replace b_5 : n_4 < 2 ^ 31 := b_5
      refine z_callS (As := [.int v_15, .int (nI n_4)]) (rest := []) B (s_X0_rateOfBits G l Φ4 sz x (ca) v_15 n_4 hx hI5 (show n_4 < 2 ^ 31 by omega)) (va_cwS 2 B.1.2.2.2.2 gX0_decode_X0_rateOfBits rfl rfl rfl (by decide +kernel) ⟨Nat.le_of_ble_eq_true rfl, Nat.le_of_ble_eq_true rfl⟩) rfl rfl (Nat.le_of_ble_eq_true rfl) dX0_decode_158 ⟨Nat.le_of_ble_eq_true rfl, Nat.le_of_ble_eq_true rfl⟩ (fun r_7 Φ5 sz5 st5 hp5 hs5 => ?_)
      obtain ⟨⟨n_5, rfl, b_6⟩, hq5, hI6, hF5⟩ := hp5
      subst sz5
      replace hs5 : st5 = [.int (nI n_5)] := hs5
      subst st5
      replace hI6 : In G x (ca) Φ5 := hI6
      replace b_6 : n_5 < 2 ^ 31 := b_6
      refine z_istore (lv' := [(8, .int (nI n_5)), (7, .int v_13), (5, .long (keyF v_6 v_8 v_10 v_12)), (4, .int i_2), (0, .ref (x + 132)), (1, .ref (x + (k))), (2, .int a), (3, .ref (x + (q)))]) B dX0_decode_161 (Nat.le_of_ble_eq_true rfl) rfl ?_
      refine z_aload_n B dX0_decode_163 rfl 4 rfl ?_
      have h_19 : Φ5 (x + 132) = some (o_ 2 [.ref (x + 3), .ref (x + 121), .ref (x + 133), .ref (x + 134), .ref (x + 135), .ref (x + 137), .ref (x + 138), .ref (x + 139), .ref (x + 140), .int (nI n_1), .int v_1, .int v_2]) := ((hF5 (x + 132) (fun j9 h8 h7 => (show False from h7).elim)).trans ((hF4 (x + 132) (fun j9 h8 h7 => (show False from h7).elim)).trans h_15))
      refine z_get (ref := "FlowExporter$Collector") (C := RX0) (T := TX0) (N := 12) (ci := 2) (v := .ref (x + 121)) B hu_X0_decode_X0 rfl 1 (Nat.le_of_ble_eq_true rfl) hv_X0_decode_53 rfl h_19 rfl dX0_decode_164 ?_
      refine z_iload B dX0_decode_167 1 rfl ?_
      refine z_aload_n B dX0_decode_169 rfl 4 rfl ?_
      refine z_get (ref := "FlowExporter$Collector") (C := RX0) (T := TX0) (N := 12) (ci := 2) (v := .ref (x + 140)) B hu_X0_decode_X0 rfl 8 (Nat.le_of_ble_eq_true rfl) hv_X0_decode_36 rfl h_19 rfl dX0_decode_170 ?_
      refine z_iconst (v := 4) B dX0_decode_173 rfl ?_
      have h_20 : Φ5 (x + 140) = some (al_ G 9 f_2) := ((hF5 (x + 140) (fun j9 h8 h7 => (show False from h7).elim)).trans ((hF4 (x + 140) (fun j9 h8 h7 => (show False from h7).elim)).trans h_16))
      refine z_lald B h_20 (vin rfl) dX0_decode_174 ?_
      refine z_flq (P := fun w9 => 0 ≤ w9) r_3 (fun v_18 q_1 => ?_)
      refine z_aload_n B dX0_decode_175 rfl 4 rfl ?_
      refine z_get (ref := "FlowExporter$Collector") (C := RX0) (T := TX0) (N := 12) (ci := 2) (v := .ref (x + 140)) B hu_X0_decode_X0 rfl 8 (Nat.le_of_ble_eq_true rfl) hv_X0_decode_36 rfl h_19 rfl dX0_decode_176 ?_
      refine z_iconst (v := 5) B dX0_decode_179 rfl ?_
      refine z_lald B h_20 (vin rfl) dX0_decode_180 ?_
      refine z_fl (fun v_19 => ?_)
      refine z_iload B dX0_decode_181 0 rfl ?_
      obtain ⟨n_6, h_21, b_7⟩ := in20 (k := 121) hI6 rfl
      have h_22 : Φ5 (x + 121) = some (o_ 11 [.ref (x + 122), .ref (x + 123), .ref (x + 126), .ref (x + 129), .int (nI n_6)]) := h_21
      refine z_callV (As := [.int v_13, .long v_18, .long v_19, .int (nI n_5)]) (rest := []) B (s_X9_add G l Φ5 sz x (ca) v_13 v_18 v_19 n_5 hx hI6 q_1 (show n_5 < 2 ^ 31 by omega)) (cwV 4 B.1.2.2.2.2 gX0_decode_X9_add rfl rfl rfl (by decide +kernel) ⟨Nat.le_of_ble_eq_true rfl, Nat.le_of_ble_eq_true rfl⟩) h_22 rfl rfl rfl rfl (Nat.le_of_ble_eq_true rfl) dX0_decode_183 ⟨Nat.le_of_ble_eq_true rfl, Nat.le_of_ble_eq_true rfl⟩ (fun r_8 Φ6 sz6 st6 hp6 hs6 => ?_)
      obtain ⟨rfl, hq6, hI7, hF6⟩ := hp6
      subst sz6
      replace hs6 : st6 = [] := hs6
      subst st6
      replace hI7 : In G x (ca) Φ6 := hI7
      exact z_ret_v B dX0_decode_186 ⟨rfl, rfl, hI7, (fun b9 h9 => ((hF6 b9 (fun j9 h8 h7 => h9 j9 h8 (fq_363 j9 h7))).trans ((hF5 b9 (fun j9 h8 h7 => (show False from h7).elim)).trans ((hF4 b9 (fun j9 h8 h7 => (show False from h7).elim)).trans ((hF3 b9 (fun j9 h8 h7 => h9 j9 h8 (fq_362 j9 h7))).trans ((hF2 b9 (fun j9 h8 h7 => (show False from h7).elim)).trans ((hF1 b9 (fun j9 h8 h7 => h9 j9 h8 (fq_361 j9 h7))).trans ((fset_fr hΦ1 (fun h8 => h9 (140) h8 (show (121 ≤ 140 ∧ 140 < 133) ∨ (139 ≤ 140 ∧ 140 < 141) by decide))).trans rfl))))))))⟩
    · refine z_aload_n B dX0_decode_129 rfl 3 rfl ?_
      have h_23 : Φ3 (x + 132) = some (o_ 2 [.ref (x + 3), .ref (x + 121), .ref (x + 133), .ref (x + 134), .ref (x + 135), .ref (x + 137), .ref (x + 138), .ref (x + 139), .ref (x + 140), .int (nI n_1), .int v_1, .int v_2]) := ((hF3 (x + 132) fq_358).trans h_12)
      refine z_get (ref := "FlowExporter$Collector") (C := RX0) (T := TX0) (N := 12) (ci := 2) (v := .ref (x + 139)) B hu_X0_decode_X0 rfl 7 (Nat.le_of_ble_eq_true rfl) hv_X0_decode_32 rfl h_23 rfl dX0_decode_130 ?_
      refine z_bipush (v := 6) B dX0_decode_133 rfl ?_
      refine z_dup2_11 B dX0_decode_135 rfl rfl ?_
      obtain ⟨f_3, h_24⟩ := in28 (k := 139) hI4 rfl
      have h_25 : Φ3 (x + 139) = some (al_ G 9 f_3) := h_24
      refine z_lald B h_25 (vin rfl) dX0_decode_136 ?_
      refine z_fl (fun v_20 => ?_)
      refine z_lconst (v := 1) B dX0_decode_137 rfl ?_
      refine z_ladd B dX0_decode_138 ?_
      refine z_fl (fun v_21 => ?_)
      refine z_last B h_25 (Nat.le_trans hx (Nat.le_add_right x 139)) (vin rfl) dX0_decode_139 (fun Φ7 hΦ2 => ?_)
      have h_26 : Φ7 (x + 139) = some (al_ G 9 (vp_updL f_3 (6 : Int32).toNatClampNeg v_21)) := fset_at hΦ2
      have hI8 : In G x (ca) Φ7 := In.put (k := 139) hI4 hΦ2 (ok28 (k := 139) rfl ⟨_, rfl⟩)
      exact z_ret_v B dX0_decode_140 ⟨rfl, rfl, hI8, (fun b9 h9 => ((fset_fr hΦ2 (fun h8 => h9 (139) h8 (show (121 ≤ 139 ∧ 139 < 133) ∨ (139 ≤ 139 ∧ 139 < 141) by decide))).trans ((hF3 b9 (fun j9 h8 h7 => h9 j9 h8 (fq_362 j9 h7))).trans ((hF2 b9 (fun j9 h8 h7 => (show False from h7).elim)).trans ((hF1 b9 (fun j9 h8 h7 => h9 j9 h8 (fq_361 j9 h7))).trans ((fset_fr hΦ1 (fun h8 => h9 (140) h8 (show (121 ≤ 140 ∧ 140 < 133) ∨ (139 ≤ 140 ∧ 140 < 141) by decide))).trans rfl))))))⟩
  · have e_2 : ¬ (n_2 ≤ i_1) := fun h9 => c_1 ((nI_leI (a := n_2) (b := i_1) (by omega) (by omega)).mpr h9)
    refine z_aload_n B dX0_decode_23 rfl 5 rfl ?_
    refine z_iload B dX0_decode_24 0 rfl ?_
    refine z_callV (As := [.int (nI i_1)]) (rest := []) B (s_X10_field G l Φl1 sz x (ca) q (nI i_1) hx hI2 hk_q) (cwV 1 B.1.2.2.2.2 gX0_decode_X10_field rfl rfl rfl (by decide +kernel) ⟨Nat.le_of_ble_eq_true rfl, Nat.le_of_ble_eq_true rfl⟩) h_8 rfl rfl rfl rfl (Nat.le_of_ble_eq_true rfl) dX0_decode_26 ⟨Nat.le_of_ble_eq_true rfl, Nat.le_of_ble_eq_true rfl⟩ (fun r_9 Φ8 sz7 st7 hp7 hs7 => ?_)
    obtain ⟨⟨v_22, rfl⟩, hq7, hI9, hF7⟩ := hp7
    subst sz7
    replace hs7 : st7 = [.int v_22] := hs7
    subst st7
    replace hI9 : In G x (ca) Φ8 := hI9
    refine z_istore (lv' := [(6, .int v_22), (5, .int (nI i_1)), (4, .int i_2), (0, .ref (x + 132)), (1, .ref (x + (k))), (2, .int a), (3, .ref (x + (q)))]) B dX0_decode_29 (Nat.le_of_ble_eq_true rfl) rfl ?_
    refine z_iload B dX0_decode_31 0 rfl ?_
    refine z_if_lt (tgt := 73) B dX0_decode_33 rfl (fun c_3 => ?_) (fun c_3 => ?_)
    · refine z_iinc (k := 1) (v := nI (i_1 + 1)) (lv' := [(5, .int (nI (i_1 + 1))), (6, .int v_22), (4, .int i_2), (0, .ref (x + 132)), (1, .ref (x + (k))), (2, .int a), (3, .ref (x + (q)))]) B dX0_decode_73 rfl (nI_add i_1 1) (Nat.le_of_ble_eq_true rfl) rfl ?_
      refine z_goto (tgt := 14) B dX0_decode_76 rfl ?_
      refine z_lv [0, 2, 3, 4, 5, 6] rfl ?_
      exact ih1 (i_1 + 1, i_2) Φ8 (show 9 - (i_1 + 1) < 9 - i_1 by omega) ⟨hI9, (fun b9 h9 => ((hF7 b9 (fun j9 h8 h7 => (show False from h7).elim)).trans ((hF1 b9 h9).trans rfl))), (show (i_1 + 1) ≤ 9 by omega), trivial⟩
    · obtain ⟨n_7, e_3, rfl⟩ := nI_of c_3
      refine z_iload B dX0_decode_36 0 rfl ?_
      refine z_bipush (v := 9) B dX0_decode_38 rfl ?_
      refine z_icmp_ge (tgt := 73) B dX0_decode_40 rfl (fun c_4 => ?_) (fun c_4 => ?_)
      · have e_4 : 9 ≤ n_7 := (nI_leI (a := 9) (b := n_7) (by omega) (by omega)).mp c_4
        refine z_iinc (k := 1) (v := nI (i_1 + 1)) (lv' := [(5, .int (nI (i_1 + 1))), (6, .int (nI n_7)), (4, .int i_2), (0, .ref (x + 132)), (1, .ref (x + (k))), (2, .int a), (3, .ref (x + (q)))]) B dX0_decode_73 rfl (nI_add i_1 1) (Nat.le_of_ble_eq_true rfl) rfl ?_
        refine z_goto (tgt := 14) B dX0_decode_76 rfl ?_
        refine z_lv [0, 2, 3, 4, 5, 6] rfl ?_
        exact ih1 (i_1 + 1, i_2) Φ8 (show 9 - (i_1 + 1) < 9 - i_1 by omega) ⟨hI9, (fun b9 h9 => ((hF7 b9 (fun j9 h8 h7 => (show False from h7).elim)).trans ((hF1 b9 h9).trans rfl))), (show (i_1 + 1) ≤ 9 by omega), trivial⟩
      · have e_5 : ¬ (9 ≤ n_7) := fun h9 => c_4 ((nI_leI (a := 9) (b := n_7) (by omega) (by omega)).mpr h9)
        refine z_aload_n B dX0_decode_43 rfl 3 rfl ?_
        have h_27 : Φ8 (x + 132) = some (o_ 2 [.ref (x + 3), .ref (x + 121), .ref (x + 133), .ref (x + 134), .ref (x + 135), .ref (x + 137), .ref (x + 138), .ref (x + 139), .ref (x + 140), .int (nI n_1), .int v_1, .int v_2]) := ((hF7 (x + 132) (fun j9 h8 h7 => (show False from h7).elim)).trans ((hF1 (x + 132) fq_356).trans ((fset_fr hΦ1 (ne_off (x := x) (i := 132) (j := 140) rfl)).trans h_2)))
        refine z_get (ref := "FlowExporter$Collector") (C := RX0) (T := TX0) (N := 12) (ci := 2) (v := .ref (x + 140)) B hu_X0_decode_X0 rfl 8 (Nat.le_of_ble_eq_true rfl) hv_X0_decode_36 rfl h_27 rfl dX0_decode_44 ?_
        refine z_iload B dX0_decode_47 0 rfl ?_
        refine z_aload_n B dX0_decode_49 rfl 4 rfl ?_
        refine z_iload B dX0_decode_50 2 rfl ?_
        refine z_staN (n := "FIELD_BYTES") B B.2.2.2.2.2.1.1.1 (by decide +kernel) dX0_decode_52 ?_
        refine z_iload B dX0_decode_55 0 rfl ?_
        refine z_sald B B.2.2.2.2.2.1.2.2.2.1.1 (B.2.2.2.2.2.1.2.2.2.2 0 (by decide)) (vp_in_nI (by omega) (by omega)) dX0_decode_57 ?_
        obtain ⟨n_8, b_8, e_6, e_7⟩ := fbT_nat4 (show n_7 < 9 by omega)
        refine z_top (st1 := [.int (nI n_8), .int i_2, .ref (x + (k)), .int (nI n_7), .ref (x + 140)]) (congrArg (fun w9 : Int32 => ([.int w9, .int i_2, .ref (x + (k)), .int (nI n_7), .ref (x + 140)] : List Value)) ((congrArg fbT (nI_clamp (by omega))).trans e_6)) ?_
        obtain ⟨n_9, h_28, b_9⟩ := in1 (k := k) hI9 hk_k
        replace b_9 : n_9 ≤ cap (k) := b_9
        have b_10 := cap_le (k)
        have h_29 : Φ8 (x + (k)) = some (o_ 7 [.ref (x + (k + 1)), .int (nI n_9)]) := h_28
        refine z_callV (As := [.int i_2, .int (nI n_8)]) (rest := [.int (nI n_7), .ref (x + 140)]) B (s_X5_numberAt G l Φ8 sz x (ca) k i_2 n_8 hx hI9 hk_k (show n_8 ≤ 8 by omega)) (cwV 2 B.1.2.2.2.2 gX0_decode_X5_numberAt rfl rfl rfl (by decide +kernel) ⟨Nat.le_of_ble_eq_true rfl, Nat.le_of_ble_eq_true rfl⟩) h_29 rfl rfl rfl rfl (Nat.le_of_ble_eq_true rfl) dX0_decode_58 ⟨Nat.le_of_ble_eq_true rfl, Nat.le_of_ble_eq_true rfl⟩ (fun r_10 Φ9 sz8 st8 hp8 hs8 => ?_)
        obtain ⟨⟨v_23, rfl, q_2⟩, hq8, hI10, hF8⟩ := hp8
        subst sz8
        replace hs8 : st8 = [.long v_23, .int (nI n_7), .ref (x + 140)] := hs8
        subst st8
        replace hI10 : In G x (ca) Φ9 := hI10
        obtain ⟨f_4, h_30, r_11⟩ := in29 (k := 140) hI10 rfl
        have h_31 : Φ9 (x + 140) = some (al_ G 9 f_4) := h_30
        refine z_last B h_31 (Nat.le_trans hx (Nat.le_add_right x 140)) (vp_in_nI (by omega) (by omega)) dX0_decode_61 (fun Φ10 hΦ3 => ?_)
        have h_32 : Φ10 (x + 140) = some (al_ G 9 (vp_updL f_4 (nI n_7).toNatClampNeg v_23)) := fset_at hΦ3
        have hI11 : In G x (ca) Φ10 := In.put (k := 140) hI10 hΦ3 (ok29 (k := 140) rfl ⟨_, rfl, upd4 r_11 (fun h9 => np_nn q_2 (e_7 (by have h8 : (nI n_7).toNatClampNeg = n_7 := nI_clamp (by omega); omega)))⟩)
        refine z_iload B dX0_decode_62 2 rfl ?_
        refine z_staN (n := "FIELD_BYTES") B B.2.2.2.2.2.1.1.1 (by decide +kernel) dX0_decode_64 ?_
        refine z_iload B dX0_decode_67 0 rfl ?_
        refine z_sald B B.2.2.2.2.2.1.2.2.2.1.1 (B.2.2.2.2.2.1.2.2.2.2 0 (by decide)) (vp_in_nI (by omega) (by omega)) dX0_decode_69 ?_
        obtain ⟨n_10, b_11, e_8⟩ := fbT_nat (show n_7 < 9 by omega)
        refine z_top (st1 := [.int (nI n_10), .int i_2]) (congrArg (fun w9 : Int32 => ([.int w9, .int i_2] : List Value)) ((congrArg fbT (nI_clamp (by omega))).trans e_8)) ?_
        refine z_iadd B dX0_decode_70 ?_
        refine z_fi (fun v_24 => ?_)
        refine z_istore (lv' := [(4, .int v_24), (6, .int (nI n_7)), (5, .int (nI i_1)), (0, .ref (x + 132)), (1, .ref (x + (k))), (2, .int a), (3, .ref (x + (q)))]) B dX0_decode_71 (Nat.le_of_ble_eq_true rfl) rfl ?_
        refine z_iinc (k := 2) (v := nI (i_1 + 1)) (lv' := [(5, .int (nI (i_1 + 1))), (4, .int v_24), (6, .int (nI n_7)), (0, .ref (x + 132)), (1, .ref (x + (k))), (2, .int a), (3, .ref (x + (q)))]) B dX0_decode_73 rfl (nI_add i_1 1) (Nat.le_of_ble_eq_true rfl) rfl ?_
        refine z_goto (tgt := 14) B dX0_decode_76 rfl ?_
        refine z_lv [0, 1, 3, 4, 5, 6] rfl ?_
        exact ih1 (i_1 + 1, v_24) Φ10 (show 9 - (i_1 + 1) < 9 - i_1 by omega) ⟨hI11, (fun b9 h9 => ((fset_fr hΦ3 (fun h8 => h9 (140) h8 (show 140 = 140 by decide))).trans ((hF8 b9 (fun j9 h8 h7 => (show False from h7).elim)).trans ((hF7 b9 (fun j9 h8 h7 => (show False from h7).elim)).trans ((hF1 b9 h9).trans rfl))))), (show (i_1 + 1) ≤ 9 by omega), trivial⟩

theorem hu_X0_readData_X0 : ∀ w ∈ u_ws RX0 TX0 12, w ∈ wsX0_readData := fun _ h => List.mem_cons_of_mem _ (List.mem_append_left _ (List.mem_append_left _ (List.mem_append_left _ (List.mem_append_left _ (List.mem_append_left _ (List.mem_append_right _ (h)))))))

theorem hv_X0_readData_32 : Cond.fieldLink RX0 32 "FlowExporter$Collector" (TX0 7).2.1 (TX0 7).2.2.1 ∈ wsX0_readData := List.mem_cons_of_mem _ (List.mem_append_left _ (List.mem_append_left _ (List.mem_append_left _ (List.mem_append_left _ (List.mem_append_left _ (List.mem_append_left _ (List.mem_append_left _ (List.mem_of_getElem? (i := 0) rfl))))))))

theorem hv_X0_readData_11 : Cond.fieldLink RX0 11 "FlowExporter$Collector" (TX0 2).2.1 (TX0 2).2.2.1 ∈ wsX0_readData := List.mem_cons_of_mem _ (List.mem_append_left _ (List.mem_append_left _ (List.mem_append_left _ (List.mem_append_left _ (List.mem_append_left _ (List.mem_append_left _ (List.mem_append_left _ (List.mem_of_getElem? (i := 1) rfl))))))))

theorem hu_X0_readData_X10 : ∀ w ∈ u_ws RX10 TX10 4, w ∈ wsX0_readData := fun _ h => List.mem_cons_of_mem _ (List.mem_append_left _ (List.mem_append_left _ (List.mem_append_left _ (List.mem_append_left _ (List.mem_append_right _ (h))))))

theorem hv_X0_readData_145 : Cond.fieldLink RX0 145 "FlowExporter$Template" (TX10 3).2.1 (TX10 3).2.2.1 ∈ wsX0_readData := List.mem_cons_of_mem _ (List.mem_append_left _ (List.mem_append_left _ (List.mem_append_left _ (List.mem_append_left _ (List.mem_append_left _ (List.mem_append_left _ (List.mem_append_left _ (List.mem_of_getElem? (i := 2) rfl))))))))

set_option maxHeartbeats 4000000 in
set_option maxRecDepth 100000 in
theorem s_X0_readData (G : EnvG) (l : Launch) (Φ : Hm) (sz x ca : Nat) (k : Nat) (a : Nat) (b : Nat) (d : Int32) (f : Int32) (hx : G.2.2.2 ≤ x) (hI : In G x ca Φ) (hk_k : kd k = 1) (hab : a ≤ b) (hb : b ≤ 700) : Ct G l yX0_readData wsX0_readData ({ frames := 3, cells := 0, slots := 0, locals := 75 }) 0 0 [.ref (x + 132), .ref (x + (k)), .int (nI a), .int (nI b), .int d, .int f] Φ sz (fun v Φ1 sz1 => (∃ r9 : Int32, v = some (.int r9)) ∧ sz1 = sz ∧ In G x (ca) Φ1 ∧ Fr x (fun j9 => (121 ≤ j9 ∧ j9 < 133) ∨ (139 ≤ j9 ∧ j9 < 141)) Φ Φ1) := by
  refine Ct.of (cc := cX0_readData) (maxL := 9) (ret := (some .int)) (by decide) rfl (Nat.le_of_ble_eq_true rfl) ?_
  intro p9 e9 s9 m9 w9 t9 k9 B
  show Z p9 l e9 _ s9 m9 _ w9 t9 k9 _ G 9 0 [(0, .ref (x + 132)), (1, .ref (x + (k))), (2, .int (nI a)), (3, .int (nI b)), (4, .int d), (5, .int f)] [] Φ sz 0 0
  refine z_iload B dX0_readData_0 4 rfl ?_
  refine z_if_lt (tgt := 22) B dX0_readData_2 rfl (fun c_1 => ?_) (fun c_1 => ?_)
  · refine z_aload_n B dX0_readData_22 rfl 0 rfl ?_
    obtain ⟨n_1, v_1, v_2, h_1, b_1⟩ := in25 (k := 132) hI rfl
    have h_2 : Φ (x + 132) = some (o_ 2 [.ref (x + 3), .ref (x + 121), .ref (x + 133), .ref (x + 134), .ref (x + 135), .ref (x + 137), .ref (x + 138), .ref (x + 139), .ref (x + 140), .int (nI n_1), .int v_1, .int v_2]) := h_1
    refine z_get (ref := "FlowExporter$Collector") (C := RX0) (T := TX0) (N := 12) (ci := 2) (v := .ref (x + 139)) B hu_X0_readData_X0 rfl 7 (Nat.le_of_ble_eq_true rfl) hv_X0_readData_32 rfl h_2 rfl dX0_readData_23 ?_
    refine z_iconst (v := 3) B dX0_readData_26 rfl ?_
    refine z_dup2_11 B dX0_readData_27 rfl rfl ?_
    obtain ⟨f_1, h_3⟩ := in28 (k := 139) hI rfl
    have h_4 : Φ (x + 139) = some (al_ G 9 f_1) := h_3
    refine z_lald B h_4 (vin rfl) dX0_readData_28 ?_
    refine z_fl (fun v_3 => ?_)
    refine z_lconst (v := 1) B dX0_readData_29 rfl ?_
    refine z_ladd B dX0_readData_30 ?_
    refine z_fl (fun v_4 => ?_)
    refine z_last B h_4 (Nat.le_trans hx (Nat.le_add_right x 139)) (vin rfl) dX0_readData_31 (fun Φ1 hΦ1 => ?_)
    have h_5 : Φ1 (x + 139) = some (al_ G 9 (vp_updL f_1 (3 : Int32).toNatClampNeg v_4)) := fset_at hΦ1
    have hI1 : In G x (ca) Φ1 := In.put (k := 139) hI hΦ1 (ok28 (k := 139) rfl ⟨_, rfl⟩)
    refine z_iconst (v := 0) B dX0_readData_32 rfl ?_
    exact z_ret_i B dX0_readData_33 ⟨⟨_, rfl⟩, rfl, hI1, (fun b9 h9 => ((fset_fr hΦ1 (fun h8 => h9 (139) h8 (show (121 ≤ 139 ∧ 139 < 133) ∨ (139 ≤ 139 ∧ 139 < 141) by decide))).trans rfl))⟩
  · obtain ⟨n_2, e_1, rfl⟩ := nI_of c_1
    refine z_iload B dX0_readData_5 4 rfl ?_
    refine z_iconst (v := 4) B dX0_readData_7 rfl ?_
    refine z_icmp_ge (tgt := 22) B dX0_readData_8 rfl (fun c_2 => ?_) (fun c_2 => ?_)
    · have e_2 : 4 ≤ n_2 := (nI_leI (a := 4) (b := n_2) (by omega) (by omega)).mp c_2
      refine z_aload_n B dX0_readData_22 rfl 0 rfl ?_
      obtain ⟨n_3, v_5, v_6, h_6, b_2⟩ := in25 (k := 132) hI rfl
      have h_7 : Φ (x + 132) = some (o_ 2 [.ref (x + 3), .ref (x + 121), .ref (x + 133), .ref (x + 134), .ref (x + 135), .ref (x + 137), .ref (x + 138), .ref (x + 139), .ref (x + 140), .int (nI n_3), .int v_5, .int v_6]) := h_6
      refine z_get (ref := "FlowExporter$Collector") (C := RX0) (T := TX0) (N := 12) (ci := 2) (v := .ref (x + 139)) B hu_X0_readData_X0 rfl 7 (Nat.le_of_ble_eq_true rfl) hv_X0_readData_32 rfl h_7 rfl dX0_readData_23 ?_
      refine z_iconst (v := 3) B dX0_readData_26 rfl ?_
      refine z_dup2_11 B dX0_readData_27 rfl rfl ?_
      obtain ⟨f_2, h_8⟩ := in28 (k := 139) hI rfl
      have h_9 : Φ (x + 139) = some (al_ G 9 f_2) := h_8
      refine z_lald B h_9 (vin rfl) dX0_readData_28 ?_
      refine z_fl (fun v_7 => ?_)
      refine z_lconst (v := 1) B dX0_readData_29 rfl ?_
      refine z_ladd B dX0_readData_30 ?_
      refine z_fl (fun v_8 => ?_)
      refine z_last B h_9 (Nat.le_trans hx (Nat.le_add_right x 139)) (vin rfl) dX0_readData_31 (fun Φ2 hΦ2 => ?_)
      have h_10 : Φ2 (x + 139) = some (al_ G 9 (vp_updL f_2 (3 : Int32).toNatClampNeg v_8)) := fset_at hΦ2
      have hI2 : In G x (ca) Φ2 := In.put (k := 139) hI hΦ2 (ok28 (k := 139) rfl ⟨_, rfl⟩)
      refine z_iconst (v := 0) B dX0_readData_32 rfl ?_
      exact z_ret_i B dX0_readData_33 ⟨⟨_, rfl⟩, rfl, hI2, (fun b9 h9 => ((fset_fr hΦ2 (fun h8 => h9 (139) h8 (show (121 ≤ 139 ∧ 139 < 133) ∨ (139 ≤ 139 ∧ 139 < 141) by decide))).trans rfl))⟩
    · have e_3 : ¬ (4 ≤ n_2) := fun h9 => c_2 ((nI_leI (a := 4) (b := n_2) (by omega) (by omega)).mpr h9)
      refine z_aload_n B dX0_readData_11 rfl 0 rfl ?_
      refine z_iload B dX0_readData_12 4 rfl ?_
      refine z_iload B dX0_readData_14 5 rfl ?_
      obtain ⟨n_4, v_9, v_10, h_11, b_3⟩ := in25 (k := 132) hI rfl
      have h_12 : Φ (x + 132) = some (o_ 2 [.ref (x + 3), .ref (x + 121), .ref (x + 133), .ref (x + 134), .ref (x + 135), .ref (x + 137), .ref (x + 138), .ref (x + 139), .ref (x + 140), .int (nI n_4), .int v_9, .int v_10]) := h_11
      refine z_callV (As := [.int (nI n_2), .int f]) (rest := []) B (s_X0_isUsable G l Φ sz x (ca) (nI n_2) f hx hI ) (cwV 2 B.1.2.2.2.2 gX0_readData_X0_isUsable rfl rfl rfl (by decide +kernel) ⟨Nat.le_of_ble_eq_true rfl, Nat.le_of_ble_eq_true rfl⟩) h_12 rfl rfl rfl rfl (Nat.le_of_ble_eq_true rfl) dX0_readData_16 ⟨Nat.le_of_ble_eq_true rfl, Nat.le_of_ble_eq_true rfl⟩ (fun r_1 Φ3 sz1 st1 hp1 hs1 => ?_)
      obtain ⟨⟨v_11, rfl, b_4⟩, hq1, hI3, hF1⟩ := hp1
      subst sz1
      replace hs1 : st1 = [.int v_11] := hs1
      subst st1
      replace hI3 : In G x (ca) Φ3 := hI3
      refine z_if_ne (tgt := 34) B dX0_readData_19 rfl (fun c_3 => ?_) (fun c_3 => ?_)
      · refine z_aload_n B dX0_readData_34 rfl 0 rfl ?_
        have h_13 : Φ3 (x + 132) = some (o_ 2 [.ref (x + 3), .ref (x + 121), .ref (x + 133), .ref (x + 134), .ref (x + 135), .ref (x + 137), .ref (x + 138), .ref (x + 139), .ref (x + 140), .int (nI n_4), .int v_9, .int v_10]) := ((hF1 (x + 132) (fun j9 h8 h7 => (show False from h7).elim)).trans h_12)
        refine z_get (ref := "FlowExporter$Collector") (C := RX0) (T := TX0) (N := 12) (ci := 2) (v := .ref (x + 133)) B hu_X0_readData_X0 rfl 2 (Nat.le_of_ble_eq_true rfl) hv_X0_readData_11 rfl h_13 rfl dX0_readData_35 ?_
        refine z_iload B dX0_readData_38 4 rfl ?_
        obtain ⟨f_3, h_14, r_2⟩ := in26 (k := 133) hI3 rfl
        have h_15 : Φ3 (x + 133) = some (aq_ G 4 4 f_3) := h_14
        refine z_aald (b := x + (133 + 8 + 2 * n_2)) B rfl h_15 (vp_in_nI (by omega) (by omega)) ((congrArg f_3 (nI_clamp (by omega))).trans (r_2 n_2 (by omega))) dX0_readData_40 ?_
        refine z_astore (lv' := [(6, .ref (x + (133 + 8 + 2 * n_2))), (0, .ref (x + 132)), (1, .ref (x + (k))), (2, .int (nI a)), (3, .int (nI b)), (4, .int (nI n_2)), (5, .int f)]) B dX0_readData_41 (Nat.le_of_ble_eq_true rfl) rfl ?_
        refine z_iconst (v := 0) B dX0_readData_43 rfl ?_
        refine z_istore (lv' := [(7, .int 0), (6, .ref (x + (133 + 8 + 2 * n_2))), (0, .ref (x + 132)), (1, .ref (x + (k))), (2, .int (nI a)), (3, .int (nI b)), (4, .int (nI n_2)), (5, .int f)]) B dX0_readData_44 (Nat.le_of_ble_eq_true rfl) rfl ?_
        refine z_iload_n B dX0_readData_46 rfl 4 rfl ?_
        refine z_istore (lv' := [(8, .int (nI a)), (7, .int 0), (6, .ref (x + (133 + 8 + 2 * n_2))), (0, .ref (x + 132)), (1, .ref (x + (k))), (2, .int (nI a)), (3, .int (nI b)), (4, .int (nI n_2)), (5, .int f)]) B dX0_readData_47 (Nat.le_of_ble_eq_true rfl) rfl ?_
        refine z_lv [0, 1, 2, 3, 4, 5, 6, 7, 8] rfl ?_
        refine z_loop (α := Nat × Int32) (fun (a9 : Nat × Int32) Φi => In G x (ca) Φi ∧ Fr x (fun j9 => (121 ≤ j9 ∧ j9 < 133) ∨ (139 ≤ j9 ∧ j9 < 141)) Φ3 Φi ∧ (a9.1 ≤ b) ∧ True) (fun a9 => [(8, .int (nI (a9.1))), (7, .int a9.2), (6, .ref (x + (133 + 8 + 2 * n_2))), (0, .ref (x + 132)), (1, .ref (x + (k))), (2, .int (nI a)), (3, .int (nI b)), (4, .int (nI n_2)), (5, .int f)]) (fun a9 => b - a9.1) ?_ (a, 0) ⟨hI3, fun _ _ => rfl, (show a ≤ b by omega), trivial⟩
        rintro ⟨i_1, i_2⟩ Φl1 ⟨hI4, hF2, b_5, -⟩ ih1
        replace hI4 : In G x (ca) Φl1 := hI4
        replace b_5 : i_1 ≤ b := b_5
        show Z p9 l e9 _ s9 m9 _ w9 t9 k9 _ G 9 49 [(8, .int (nI i_1)), (7, .int i_2), (6, .ref (x + (133 + 8 + 2 * n_2))), (0, .ref (x + 132)), (1, .ref (x + (k))), (2, .int (nI a)), (3, .int (nI b)), (4, .int (nI n_2)), (5, .int f)] [] Φl1 _ _ _
        refine z_aload B dX0_readData_49 2 rfl ?_
        obtain ⟨n_5, v_12, v_13, h_16, b_6⟩ := in8 (k := 133 + 8 + 2 * n_2) hI4 (kd_k (by omega))
        have h_17 : Φl1 (x + (133 + 8 + 2 * n_2)) = some (o_ 12 [.ref (x + (133 + 8 + 2 * n_2 + 1)), .int (nI n_5), .int v_12, .int v_13]) := h_16
        refine z_get (ref := "FlowExporter$Template") (C := RX10) (T := TX10) (N := 4) (ci := 12) (v := .int v_13) B hu_X0_readData_X10 rfl 3 (Nat.le_of_ble_eq_true rfl) hv_X0_readData_145 rfl h_17 rfl dX0_readData_51 ?_
        refine z_if_le (tgt := 94) B dX0_readData_54 rfl (fun c_4 => ?_) (fun c_4 => ?_)
        · refine z_aload_n B dX0_readData_94 rfl 3 rfl ?_
          obtain ⟨n_6, v_14, v_15, h_18, b_7⟩ := in25 (k := 132) hI4 rfl
          have h_19 : Φl1 (x + 132) = some (o_ 2 [.ref (x + 3), .ref (x + 121), .ref (x + 133), .ref (x + 134), .ref (x + 135), .ref (x + 137), .ref (x + 138), .ref (x + 139), .ref (x + 140), .int (nI n_6), .int v_14, .int v_15]) := h_18
          refine z_get (ref := "FlowExporter$Collector") (C := RX0) (T := TX0) (N := 12) (ci := 2) (v := .ref (x + 139)) B hu_X0_readData_X0 rfl 7 (Nat.le_of_ble_eq_true rfl) hv_X0_readData_32 rfl h_19 rfl dX0_readData_95 ?_
          refine z_bipush (v := 7) B dX0_readData_98 rfl ?_
          refine z_dup2_11 B dX0_readData_100 rfl rfl ?_
          obtain ⟨f_4, h_20⟩ := in28 (k := 139) hI4 rfl
          have h_21 : Φl1 (x + 139) = some (al_ G 9 f_4) := h_20
          refine z_lald B h_21 (vin rfl) dX0_readData_101 ?_
          refine z_fl (fun v_16 => ?_)
          refine z_iload B dX0_readData_102 1 rfl ?_
          refine z_i2l (v := i_2.toInt64) B dX0_readData_104 rfl ?_
          refine z_fl (fun v_17 => ?_)
          refine z_ladd B dX0_readData_105 ?_
          refine z_fl (fun v_18 => ?_)
          refine z_last B h_21 (Nat.le_trans hx (Nat.le_add_right x 139)) (vin rfl) dX0_readData_106 (fun Φ4 hΦ3 => ?_)
          have h_22 : Φ4 (x + 139) = some (al_ G 9 (vp_updL f_4 (7 : Int32).toNatClampNeg v_18)) := fset_at hΦ3
          have hI5 : In G x (ca) Φ4 := In.put (k := 139) hI4 hΦ3 (ok28 (k := 139) rfl ⟨_, rfl⟩)
          refine z_iload B dX0_readData_107 1 rfl ?_
          exact z_ret_i B dX0_readData_109 ⟨⟨_, rfl⟩, rfl, hI5, (fun b9 h9 => ((fset_fr hΦ3 (fun h8 => h9 (139) h8 (show (121 ≤ 139 ∧ 139 < 133) ∨ (139 ≤ 139 ∧ 139 < 141) by decide))).trans ((hF2 b9 h9).trans ((hF1 b9 (fun j9 h8 h7 => (show False from h7).elim)).trans rfl))))⟩
        · obtain ⟨n_7, e_5, e_4, rfl⟩ := nI_ofp c_4
          refine z_iload_n B dX0_readData_57 rfl 6 rfl ?_
          refine z_iload B dX0_readData_58 0 rfl ?_
          refine z_isub B dX0_readData_60 ?_
          refine z_top (st1 := [.int (nI (b - i_1))]) (congrArg (fun w9 : Int32 => ([.int w9] : List Value)) (nI_sub (show i_1 ≤ b by omega))) ?_
          refine z_aload B dX0_readData_61 2 rfl ?_
          refine z_get (ref := "FlowExporter$Template") (C := RX10) (T := TX10) (N := 4) (ci := 12) (v := .int (nI n_7)) B hu_X0_readData_X10 rfl 3 (Nat.le_of_ble_eq_true rfl) hv_X0_readData_145 rfl h_17 rfl dX0_readData_63 ?_
          refine z_icmp_lt (tgt := 94) B dX0_readData_66 rfl (fun c_5 => ?_) (fun c_5 => ?_)
          · have e_6 : b - i_1 < n_7 := (nI_ltI (a := b - i_1) (b := n_7) (by omega) (by omega)).mp c_5
            refine z_aload_n B dX0_readData_94 rfl 3 rfl ?_
            obtain ⟨n_8, v_19, v_20, h_23, b_8⟩ := in25 (k := 132) hI4 rfl
            have h_24 : Φl1 (x + 132) = some (o_ 2 [.ref (x + 3), .ref (x + 121), .ref (x + 133), .ref (x + 134), .ref (x + 135), .ref (x + 137), .ref (x + 138), .ref (x + 139), .ref (x + 140), .int (nI n_8), .int v_19, .int v_20]) := h_23
            refine z_get (ref := "FlowExporter$Collector") (C := RX0) (T := TX0) (N := 12) (ci := 2) (v := .ref (x + 139)) B hu_X0_readData_X0 rfl 7 (Nat.le_of_ble_eq_true rfl) hv_X0_readData_32 rfl h_24 rfl dX0_readData_95 ?_
            refine z_bipush (v := 7) B dX0_readData_98 rfl ?_
            refine z_dup2_11 B dX0_readData_100 rfl rfl ?_
            obtain ⟨f_5, h_25⟩ := in28 (k := 139) hI4 rfl
            have h_26 : Φl1 (x + 139) = some (al_ G 9 f_5) := h_25
            refine z_lald B h_26 (vin rfl) dX0_readData_101 ?_
            refine z_fl (fun v_21 => ?_)
            refine z_iload B dX0_readData_102 1 rfl ?_
            refine z_i2l (v := i_2.toInt64) B dX0_readData_104 rfl ?_
            refine z_fl (fun v_22 => ?_)
            refine z_ladd B dX0_readData_105 ?_
            refine z_fl (fun v_23 => ?_)
            refine z_last B h_26 (Nat.le_trans hx (Nat.le_add_right x 139)) (vin rfl) dX0_readData_106 (fun Φ5 hΦ4 => ?_)
            have h_27 : Φ5 (x + 139) = some (al_ G 9 (vp_updL f_5 (7 : Int32).toNatClampNeg v_23)) := fset_at hΦ4
            have hI6 : In G x (ca) Φ5 := In.put (k := 139) hI4 hΦ4 (ok28 (k := 139) rfl ⟨_, rfl⟩)
            refine z_iload B dX0_readData_107 1 rfl ?_
            exact z_ret_i B dX0_readData_109 ⟨⟨_, rfl⟩, rfl, hI6, (fun b9 h9 => ((fset_fr hΦ4 (fun h8 => h9 (139) h8 (show (121 ≤ 139 ∧ 139 < 133) ∨ (139 ≤ 139 ∧ 139 < 141) by decide))).trans ((hF2 b9 h9).trans ((hF1 b9 (fun j9 h8 h7 => (show False from h7).elim)).trans rfl))))⟩
          · have e_7 : ¬ (b - i_1 < n_7) := fun h9 => c_5 ((nI_ltI (a := b - i_1) (b := n_7) (by omega) (by omega)).mpr h9)
            refine z_aload_n B dX0_readData_69 rfl 3 rfl ?_
            refine z_aload_n B dX0_readData_70 rfl 4 rfl ?_
            refine z_iload B dX0_readData_71 0 rfl ?_
            refine z_aload B dX0_readData_73 2 rfl ?_
            obtain ⟨n_9, v_24, v_25, h_28, b_9⟩ := in25 (k := 132) hI4 rfl
            have h_29 : Φl1 (x + 132) = some (o_ 2 [.ref (x + 3), .ref (x + 121), .ref (x + 133), .ref (x + 134), .ref (x + 135), .ref (x + 137), .ref (x + 138), .ref (x + 139), .ref (x + 140), .int (nI n_9), .int v_24, .int v_25]) := h_28
            refine z_callV (As := [.ref (x + (k)), .int (nI i_1), .ref (x + (133 + 8 + 2 * n_2))]) (rest := []) B (s_X0_decode G l Φl1 sz x (ca) k (nI i_1) (133 + 8 + 2 * n_2) hx hI4 hk_k (kd_k (by omega)) (show 141 ≤ (133 + 8 + 2 * n_2) by omega)) (cwV 3 B.1.2.2.2.2 gX0_readData_X0_decode rfl rfl rfl (by decide +kernel) ⟨Nat.le_of_ble_eq_true rfl, Nat.le_of_ble_eq_true rfl⟩) h_29 rfl rfl rfl rfl (Nat.le_of_ble_eq_true rfl) dX0_readData_75 ⟨Nat.le_of_ble_eq_true rfl, Nat.le_of_ble_eq_true rfl⟩ (fun r_3 Φ6 sz2 st2 hp2 hs2 => ?_)
            obtain ⟨rfl, hq2, hI7, hF3⟩ := hp2
            subst sz2
            replace hs2 : st2 = [] := hs2
            subst st2
            replace hI7 : In G x (ca) Φ6 := hI7
            refine z_iinc (k := 1) (v := i_2 + 1) (lv' := [(7, .int (i_2 + 1)), (8, .int (nI i_1)), (6, .ref (x + (133 + 8 + 2 * n_2))), (0, .ref (x + 132)), (1, .ref (x + (k))), (2, .int (nI a)), (3, .int (nI b)), (4, .int (nI n_2)), (5, .int f)]) B dX0_readData_78 rfl rfl (Nat.le_of_ble_eq_true rfl) rfl ?_
            refine z_iload B dX0_readData_81 1 rfl ?_
            refine z_aload B dX0_readData_83 2 rfl ?_
            have h_30 : Φ6 (x + (133 + 8 + 2 * n_2)) = some (o_ 12 [.ref (x + (133 + 8 + 2 * n_2 + 1)), .int (nI n_5), .int v_12, .int (nI n_7)]) := ((hF3 (x + (133 + 8 + 2 * n_2)) (fun j9 h8 h7 => by have h6 : (121 ≤ j9 ∧ j9 < 133) ∨ (139 ≤ j9 ∧ j9 < 141) := h7; omega)).trans h_17)
            refine z_get (ref := "FlowExporter$Template") (C := RX10) (T := TX10) (N := 4) (ci := 12) (v := .int (nI n_7)) B hu_X0_readData_X10 rfl 3 (Nat.le_of_ble_eq_true rfl) hv_X0_readData_145 rfl h_30 rfl dX0_readData_85 ?_
            refine z_iadd B dX0_readData_88 ?_
            refine z_top (st1 := [.int (nI (i_1 + n_7))]) (congrArg (fun w9 : Int32 => ([.int w9] : List Value)) (nI_add i_1 n_7)) ?_
            refine z_istore (lv' := [(8, .int (nI (i_1 + n_7))), (7, .int (i_2 + 1)), (6, .ref (x + (133 + 8 + 2 * n_2))), (0, .ref (x + 132)), (1, .ref (x + (k))), (2, .int (nI a)), (3, .int (nI b)), (4, .int (nI n_2)), (5, .int f)]) B dX0_readData_89 (Nat.le_of_ble_eq_true rfl) rfl ?_
            refine z_goto (tgt := 49) B dX0_readData_91 rfl ?_
            refine z_lv [0, 1, 2, 3, 4, 5, 6, 7, 8] rfl ?_
            exact ih1 (i_1 + n_7, i_2 + 1) Φ6 (show b - (i_1 + n_7) < b - i_1 by omega) ⟨hI7, (fun b9 h9 => ((hF3 b9 h9).trans ((hF2 b9 h9).trans rfl))), (show (i_1 + n_7) ≤ b by omega), trivial⟩
      · refine z_aload_n B dX0_readData_22 rfl 0 rfl ?_
        have h_31 : Φ3 (x + 132) = some (o_ 2 [.ref (x + 3), .ref (x + 121), .ref (x + 133), .ref (x + 134), .ref (x + 135), .ref (x + 137), .ref (x + 138), .ref (x + 139), .ref (x + 140), .int (nI n_4), .int v_9, .int v_10]) := ((hF1 (x + 132) (fun j9 h8 h7 => (show False from h7).elim)).trans h_12)
        refine z_get (ref := "FlowExporter$Collector") (C := RX0) (T := TX0) (N := 12) (ci := 2) (v := .ref (x + 139)) B hu_X0_readData_X0 rfl 7 (Nat.le_of_ble_eq_true rfl) hv_X0_readData_32 rfl h_31 rfl dX0_readData_23 ?_
        refine z_iconst (v := 3) B dX0_readData_26 rfl ?_
        refine z_dup2_11 B dX0_readData_27 rfl rfl ?_
        obtain ⟨f_6, h_32⟩ := in28 (k := 139) hI3 rfl
        have h_33 : Φ3 (x + 139) = some (al_ G 9 f_6) := h_32
        refine z_lald B h_33 (vin rfl) dX0_readData_28 ?_
        refine z_fl (fun v_26 => ?_)
        refine z_lconst (v := 1) B dX0_readData_29 rfl ?_
        refine z_ladd B dX0_readData_30 ?_
        refine z_fl (fun v_27 => ?_)
        refine z_last B h_33 (Nat.le_trans hx (Nat.le_add_right x 139)) (vin rfl) dX0_readData_31 (fun Φ7 hΦ5 => ?_)
        have h_34 : Φ7 (x + 139) = some (al_ G 9 (vp_updL f_6 (3 : Int32).toNatClampNeg v_27)) := fset_at hΦ5
        have hI8 : In G x (ca) Φ7 := In.put (k := 139) hI3 hΦ5 (ok28 (k := 139) rfl ⟨_, rfl⟩)
        refine z_iconst (v := 0) B dX0_readData_32 rfl ?_
        exact z_ret_i B dX0_readData_33 ⟨⟨_, rfl⟩, rfl, hI8, (fun b9 h9 => ((fset_fr hΦ5 (fun h8 => h9 (139) h8 (show (121 ≤ 139 ∧ 139 < 133) ∨ (139 ≤ 139 ∧ 139 < 141) by decide))).trans ((hF1 b9 (fun j9 h8 h7 => (show False from h7).elim)).trans rfl)))⟩

theorem hu_X0_readSets_X5 : ∀ w ∈ u_ws RX5 TX5 2, w ∈ wsX0_readSets := fun _ h => List.mem_cons_of_mem _ (List.mem_append_left _ (List.mem_append_left _ (List.mem_append_left _ (List.mem_append_left _ (List.mem_append_left _ (List.mem_append_right _ (h)))))))

theorem hv_X0_readSets_87 : Cond.fieldLink RX0 87 "FlowExporter$Message" (TX5 1).2.1 (TX5 1).2.2.1 ∈ wsX0_readSets := List.mem_cons_of_mem _ (List.mem_append_left _ (List.mem_append_left _ (List.mem_append_left _ (List.mem_append_left _ (List.mem_append_left _ (List.mem_append_left _ (List.mem_append_left _ (List.mem_of_getElem? (i := 0) rfl))))))))

theorem hu_X0_readSets_X0 : ∀ w ∈ u_ws RX0 TX0 12, w ∈ wsX0_readSets := fun _ h => List.mem_cons_of_mem _ (List.mem_append_left _ (List.mem_append_left _ (List.mem_append_left _ (List.mem_append_left _ (List.mem_append_right _ (h))))))

theorem hv_X0_readSets_32 : Cond.fieldLink RX0 32 "FlowExporter$Collector" (TX0 7).2.1 (TX0 7).2.2.1 ∈ wsX0_readSets := List.mem_cons_of_mem _ (List.mem_append_left _ (List.mem_append_left _ (List.mem_append_left _ (List.mem_append_left _ (List.mem_append_left _ (List.mem_append_left _ (List.mem_append_left _ (List.mem_of_getElem? (i := 1) rfl))))))))

theorem fq_374 : ∀ j9 : Nat, ((121 ≤ j9 ∧ j9 < 133) ∨ (139 ≤ j9 ∧ j9 < 141)) → ((121 ≤ j9 ∧ j9 < 149)) := by
  intro j9 h
  omega

theorem fq_375 : ∀ j9 : Nat, ((134 ≤ j9 ∧ j9 < 137) ∨ (141 ≤ j9 ∧ j9 < 149)) → ((121 ≤ j9 ∧ j9 < 149)) := by
  intro j9 h
  omega

set_option maxHeartbeats 4000000 in
set_option maxRecDepth 100000 in
theorem s_X0_readSets (G : EnvG) (l : Launch) (Φ : Hm) (sz x ca : Nat) (k : Nat) (a : Int32) (hx : G.2.2.2 ≤ x) (hI : In G x ca Φ) (hk_k : kd k = 1) : Ct G l yX0_readSets wsX0_readSets ({ frames := 4, cells := 0, slots := 0, locals := 103 }) 0 0 [.ref (x + 132), .ref (x + (k)), .int a] Φ sz (fun v Φ1 sz1 => (∃ r9 : Int32, v = some (.int r9)) ∧ sz1 = sz ∧ In G x (ca) Φ1 ∧ Fr x (fun j9 => (121 ≤ j9 ∧ j9 < 149)) Φ Φ1) := by
  refine Ct.of (cc := cX0_readSets) (maxL := 10) (ret := (some .int)) (by decide) rfl (Nat.le_of_ble_eq_true rfl) ?_
  intro p9 e9 s9 m9 w9 t9 k9 B
  show Z p9 l e9 _ s9 m9 _ w9 t9 k9 _ G 10 0 [(0, .ref (x + 132)), (1, .ref (x + (k))), (2, .int a)] [] Φ sz 0 0
  refine z_iconst (v := 0) B dX0_readSets_0 rfl ?_
  refine z_istore_n (lv' := [(3, .int 0), (0, .ref (x + 132)), (1, .ref (x + (k))), (2, .int a)]) B dX0_readSets_1 rfl (Nat.le_of_ble_eq_true rfl) rfl ?_
  refine z_bipush (v := 16) B dX0_readSets_2 rfl ?_
  refine z_istore (lv' := [(4, .int 16), (3, .int 0), (0, .ref (x + 132)), (1, .ref (x + (k))), (2, .int a)]) B dX0_readSets_4 (Nat.le_of_ble_eq_true rfl) rfl ?_
  refine z_iconst (v := 0) B dX0_readSets_6 rfl ?_
  refine z_istore (lv' := [(5, .int 0), (4, .int 16), (3, .int 0), (0, .ref (x + 132)), (1, .ref (x + (k))), (2, .int a)]) B dX0_readSets_7 (Nat.le_of_ble_eq_true rfl) rfl ?_
  refine z_lv [0, 1, 2, 3, 4, 5] rfl ?_
  refine z_loop (α := Nat × Nat × Int32) (fun (a9 : Nat × Nat × Int32) Φi => In G x (ca) Φi ∧ Fr x (fun j9 => (121 ≤ j9 ∧ j9 < 149)) Φ Φi ∧ (a9.1 ≤ 701) ∧ (a9.2.1 ≤ 700) ∧ True) (fun a9 => [(5, .int (nI (a9.1))), (4, .int (nI (a9.2.1))), (3, .int a9.2.2), (0, .ref (x + 132)), (1, .ref (x + (k))), (2, .int a)]) (fun a9 => 701 - a9.1) ?_ (0, 16, 0) ⟨hI, fun _ _ => rfl, (show 0 ≤ 701 by omega), (show 16 ≤ 700 by omega), trivial⟩
  rintro ⟨i_1, i_2, i_3⟩ Φl1 ⟨hI1, hF1, b_1, b_2, -⟩ ih1
  replace hI1 : In G x (ca) Φl1 := hI1
  replace b_1 : i_1 ≤ 701 := b_1
  replace b_2 : i_2 ≤ 700 := b_2
  show Z p9 l e9 _ s9 m9 _ w9 t9 k9 _ G 10 9 [(5, .int (nI i_1)), (4, .int (nI i_2)), (3, .int i_3), (0, .ref (x + 132)), (1, .ref (x + (k))), (2, .int a)] [] Φl1 _ _ _
  refine z_iload B dX0_readSets_9 0 rfl ?_
  refine z_sipush (v := 700) B dX0_readSets_11 rfl ?_
  refine z_icmp_gt (tgt := 163) B dX0_readSets_14 rfl (fun c_1 => ?_) (fun c_1 => ?_)
  · have e_1 : 700 < i_1 := (nI_ltI (a := 700) (b := i_1) (by omega) (by omega)).mp c_1
    refine z_iload_n B dX0_readSets_163 rfl 2 rfl ?_
    exact z_ret_i B dX0_readSets_164 ⟨⟨_, rfl⟩, rfl, hI1, (fun b9 h9 => ((hF1 b9 h9).trans rfl))⟩
  · have e_2 : ¬ (700 < i_1) := fun h9 => c_1 ((nI_ltI (a := 700) (b := i_1) (by omega) (by omega)).mpr h9)
    refine z_iload B dX0_readSets_17 1 rfl ?_
    refine z_aload_n B dX0_readSets_19 rfl 4 rfl ?_
    obtain ⟨n_1, h_1, b_3⟩ := in1 (k := k) hI1 hk_k
    replace b_3 : n_1 ≤ cap (k) := b_3
    have b_4 := cap_le (k)
    have h_2 : Φl1 (x + (k)) = some (o_ 7 [.ref (x + (k + 1)), .int (nI n_1)]) := h_1
    refine z_get (ref := "FlowExporter$Message") (C := RX5) (T := TX5) (N := 2) (ci := 7) (v := .int (nI n_1)) B hu_X0_readSets_X5 rfl 1 (Nat.le_of_ble_eq_true rfl) hv_X0_readSets_87 rfl h_2 rfl dX0_readSets_20 ?_
    refine z_icmp_ge (tgt := 163) B dX0_readSets_23 rfl (fun c_2 => ?_) (fun c_2 => ?_)
    · have e_3 : n_1 ≤ i_2 := (nI_leI (a := n_1) (b := i_2) (by omega) (by omega)).mp c_2
      refine z_iload_n B dX0_readSets_163 rfl 2 rfl ?_
      exact z_ret_i B dX0_readSets_164 ⟨⟨_, rfl⟩, rfl, hI1, (fun b9 h9 => ((hF1 b9 h9).trans rfl))⟩
    · have e_4 : ¬ (n_1 ≤ i_2) := fun h9 => c_2 ((nI_leI (a := n_1) (b := i_2) (by omega) (by omega)).mpr h9)
      refine z_aload_n B dX0_readSets_26 rfl 4 rfl ?_
      refine z_get (ref := "FlowExporter$Message") (C := RX5) (T := TX5) (N := 2) (ci := 7) (v := .int (nI n_1)) B hu_X0_readSets_X5 rfl 1 (Nat.le_of_ble_eq_true rfl) hv_X0_readSets_87 rfl h_2 rfl dX0_readSets_27 ?_
      refine z_iload B dX0_readSets_30 1 rfl ?_
      refine z_isub B dX0_readSets_32 ?_
      refine z_top (st1 := [.int (nI (n_1 - i_2))]) (congrArg (fun w9 : Int32 => ([.int w9] : List Value)) (nI_sub (show i_2 ≤ n_1 by omega))) ?_
      refine z_istore (lv' := [(6, .int (nI (n_1 - i_2))), (5, .int (nI i_1)), (4, .int (nI i_2)), (3, .int i_3), (0, .ref (x + 132)), (1, .ref (x + (k))), (2, .int a)]) B dX0_readSets_33 (Nat.le_of_ble_eq_true rfl) rfl ?_
      refine z_iload B dX0_readSets_35 0 rfl ?_
      refine z_iconst (v := 4) B dX0_readSets_37 rfl ?_
      refine z_icmp_ge (tgt := 45) B dX0_readSets_38 rfl (fun c_3 => ?_) (fun c_3 => ?_)
      · have e_5 : 4 ≤ n_1 - i_2 := (nI_leI (a := 4) (b := n_1 - i_2) (by omega) (by omega)).mp c_3
        refine z_aload_n B dX0_readSets_45 rfl 5 rfl ?_
        refine z_iload B dX0_readSets_46 2 rfl ?_
        refine z_iconst (v := 2) B dX0_readSets_48 rfl ?_
        refine z_iadd B dX0_readSets_49 ?_
        refine z_top (st1 := [.int (nI (i_2 + 2)), .ref (x + (k))]) (congrArg (fun w9 : Int32 => ([.int w9, .ref (x + (k))] : List Value)) (nI_add i_2 2)) ?_
        refine z_iconst (v := 2) B dX0_readSets_50 rfl ?_
        refine z_callV (As := [.int (nI (i_2 + 2)), .int 2]) (rest := []) B (s_X5_intAt G l Φl1 sz x (ca) k (nI (i_2 + 2)) 2 hx hI1 hk_k (show 2 ≤ 8 by omega)) (cwV 2 B.1.2.2.2.2 gX0_readSets_X5_intAt rfl rfl rfl (by decide +kernel) ⟨Nat.le_of_ble_eq_true rfl, Nat.le_of_ble_eq_true rfl⟩) h_2 rfl rfl rfl rfl (Nat.le_of_ble_eq_true rfl) dX0_readSets_51 ⟨Nat.le_of_ble_eq_true rfl, Nat.le_of_ble_eq_true rfl⟩ (fun r_1 Φ1 sz1 st1 hp1 hs1 => ?_)
        obtain ⟨⟨v_1, rfl⟩, hq1, hI2, hF2⟩ := hp1
        subst sz1
        replace hs1 : st1 = [.int v_1] := hs1
        subst st1
        replace hI2 : In G x (ca) Φ1 := hI2
        refine z_istore (lv' := [(7, .int v_1), (6, .int (nI (n_1 - i_2))), (5, .int (nI i_1)), (4, .int (nI i_2)), (3, .int i_3), (0, .ref (x + 132)), (1, .ref (x + (k))), (2, .int a)]) B dX0_readSets_54 (Nat.le_of_ble_eq_true rfl) rfl ?_
        refine z_iload B dX0_readSets_56 0 rfl ?_
        refine z_iconst (v := 4) B dX0_readSets_58 rfl ?_
        refine z_icmp_lt (tgt := 69) B dX0_readSets_59 rfl (fun c_4 => ?_) (fun c_4 => ?_)
        · refine z_aload_n B dX0_readSets_69 rfl 5 rfl ?_
          obtain ⟨n_2, v_2, v_3, h_3, b_5⟩ := in25 (k := 132) hI2 rfl
          have h_4 : Φ1 (x + 132) = some (o_ 2 [.ref (x + 3), .ref (x + 121), .ref (x + 133), .ref (x + 134), .ref (x + 135), .ref (x + 137), .ref (x + 138), .ref (x + 139), .ref (x + 140), .int (nI n_2), .int v_2, .int v_3]) := h_3
          refine z_get (ref := "FlowExporter$Collector") (C := RX0) (T := TX0) (N := 12) (ci := 2) (v := .ref (x + 139)) B hu_X0_readSets_X0 rfl 7 (Nat.le_of_ble_eq_true rfl) hv_X0_readSets_32 rfl h_4 rfl dX0_readSets_70 ?_
          refine z_iconst (v := 4) B dX0_readSets_73 rfl ?_
          refine z_dup2_11 B dX0_readSets_74 rfl rfl ?_
          obtain ⟨f_1, h_5⟩ := in28 (k := 139) hI2 rfl
          have h_6 : Φ1 (x + 139) = some (al_ G 9 f_1) := h_5
          refine z_lald B h_6 (vin rfl) dX0_readSets_75 ?_
          refine z_fl (fun v_4 => ?_)
          refine z_lconst (v := 1) B dX0_readSets_76 rfl ?_
          refine z_ladd B dX0_readSets_77 ?_
          refine z_fl (fun v_5 => ?_)
          refine z_last B h_6 (Nat.le_trans hx (Nat.le_add_right x 139)) (vin rfl) dX0_readSets_78 (fun Φ2 hΦ1 => ?_)
          have h_7 : Φ2 (x + 139) = some (al_ G 9 (vp_updL f_1 (4 : Int32).toNatClampNeg v_5)) := fset_at hΦ1
          have hI3 : In G x (ca) Φ2 := In.put (k := 139) hI2 hΦ1 (ok28 (k := 139) rfl ⟨_, rfl⟩)
          refine z_iload_n B dX0_readSets_79 rfl 4 rfl ?_
          exact z_ret_i B dX0_readSets_80 ⟨⟨_, rfl⟩, rfl, hI3, (fun b9 h9 => ((fset_fr hΦ1 (fun h8 => h9 (139) h8 (show (121 ≤ 139 ∧ 139 < 149) by decide))).trans ((hF2 b9 (fun j9 h8 h7 => (show False from h7).elim)).trans ((hF1 b9 h9).trans rfl))))⟩
        · obtain ⟨n_3, e_7, e_6, rfl⟩ := nI_ofge (c := 4) (by omega) c_4
          refine z_iload B dX0_readSets_62 0 rfl ?_
          refine z_iload B dX0_readSets_64 1 rfl ?_
          refine z_icmp_le (tgt := 81) B dX0_readSets_66 rfl (fun c_5 => ?_) (fun c_5 => ?_)
          · have e_8 : n_3 ≤ n_1 - i_2 := (nI_leI (a := n_3) (b := n_1 - i_2) (by omega) (by omega)).mp c_5
            refine z_aload_n B dX0_readSets_81 rfl 6 rfl ?_
            refine z_iload B dX0_readSets_82 3 rfl ?_
            refine z_iconst (v := 2) B dX0_readSets_84 rfl ?_
            have h_8 : Φ1 (x + (k)) = some (o_ 7 [.ref (x + (k + 1)), .int (nI n_1)]) := ((hF2 (x + (k)) (fun j9 h8 h7 => (show False from h7).elim)).trans h_2)
            refine z_callV (As := [.int (nI i_2), .int 2]) (rest := []) B (s_X5_intAt G l Φ1 sz x (ca) k (nI i_2) 2 hx hI2 hk_k (show 2 ≤ 8 by omega)) (cwV 2 B.1.2.2.2.2 gX0_readSets_X5_intAt rfl rfl rfl (by decide +kernel) ⟨Nat.le_of_ble_eq_true rfl, Nat.le_of_ble_eq_true rfl⟩) h_8 rfl rfl rfl rfl (Nat.le_of_ble_eq_true rfl) dX0_readSets_85 ⟨Nat.le_of_ble_eq_true rfl, Nat.le_of_ble_eq_true rfl⟩ (fun r_2 Φ3 sz2 st2 hp2 hs2 => ?_)
            obtain ⟨⟨v_6, rfl⟩, hq2, hI4, hF3⟩ := hp2
            subst sz2
            replace hs2 : st2 = [.int v_6] := hs2
            subst st2
            replace hI4 : In G x (ca) Φ3 := hI4
            refine z_istore (lv' := [(8, .int v_6), (7, .int (nI n_3)), (6, .int (nI (n_1 - i_2))), (5, .int (nI i_1)), (4, .int (nI i_2)), (3, .int i_3), (0, .ref (x + 132)), (1, .ref (x + (k))), (2, .int a)]) B dX0_readSets_88 (Nat.le_of_ble_eq_true rfl) rfl ?_
            refine z_iload B dX0_readSets_90 4 rfl ?_
            refine z_iconst (v := 4) B dX0_readSets_92 rfl ?_
            refine z_iadd B dX0_readSets_93 ?_
            refine z_top (st1 := [.int (nI (i_2 + 4))]) (congrArg (fun w9 : Int32 => ([.int w9] : List Value)) (nI_add i_2 4)) ?_
            refine z_istore (lv' := [(9, .int (nI (i_2 + 4))), (8, .int v_6), (7, .int (nI n_3)), (6, .int (nI (n_1 - i_2))), (5, .int (nI i_1)), (4, .int (nI i_2)), (3, .int i_3), (0, .ref (x + 132)), (1, .ref (x + (k))), (2, .int a)]) B dX0_readSets_94 (Nat.le_of_ble_eq_true rfl) rfl ?_
            refine z_iload B dX0_readSets_96 5 rfl ?_
            refine z_iload B dX0_readSets_98 2 rfl ?_
            refine z_iadd B dX0_readSets_100 ?_
            refine z_top (st1 := [.int (nI (i_2 + n_3))]) (congrArg (fun w9 : Int32 => ([.int w9] : List Value)) (nI_add i_2 n_3)) ?_
            refine z_istore (lv' := [(4, .int (nI (i_2 + n_3))), (9, .int (nI (i_2 + 4))), (8, .int v_6), (7, .int (nI n_3)), (6, .int (nI (n_1 - i_2))), (5, .int (nI i_1)), (3, .int i_3), (0, .ref (x + 132)), (1, .ref (x + (k))), (2, .int a)]) B dX0_readSets_101 (Nat.le_of_ble_eq_true rfl) rfl ?_
            refine z_iload B dX0_readSets_103 2 rfl ?_
            refine z_iconst (v := 2) B dX0_readSets_105 rfl ?_
            refine z_icmp_ne (tgt := 122) B dX0_readSets_106 rfl (fun c_6 => ?_) (fun c_6 => ?_)
            · refine z_iload B dX0_readSets_122 2 rfl ?_
              refine z_sipush (v := 256) B dX0_readSets_124 rfl ?_
              refine z_icmp_lt (tgt := 157) B dX0_readSets_127 rfl (fun c_7 => ?_) (fun c_7 => ?_)
              · refine z_iinc (k := 5) (v := nI (i_1 + 1)) (lv' := [(5, .int (nI (i_1 + 1))), (4, .int (nI (i_2 + n_3))), (9, .int (nI (i_2 + 4))), (8, .int v_6), (7, .int (nI n_3)), (6, .int (nI (n_1 - i_2))), (3, .int i_3), (0, .ref (x + 132)), (1, .ref (x + (k))), (2, .int a)]) B dX0_readSets_157 rfl (nI_add i_1 1) (Nat.le_of_ble_eq_true rfl) rfl ?_
                refine z_goto (tgt := 9) B dX0_readSets_160 rfl ?_
                refine z_lv [0, 1, 6, 7, 8, 9] rfl ?_
                exact ih1 (i_1 + 1, i_2 + n_3, i_3) Φ3 (show 701 - (i_1 + 1) < 701 - i_1 by omega) ⟨hI4, (fun b9 h9 => ((hF3 b9 (fun j9 h8 h7 => (show False from h7).elim)).trans ((hF2 b9 (fun j9 h8 h7 => (show False from h7).elim)).trans ((hF1 b9 h9).trans rfl)))), (show (i_1 + 1) ≤ 701 by omega), (show (i_2 + n_3) ≤ 700 by omega), trivial⟩
              · obtain ⟨n_4, e_10, e_9, rfl⟩ := nI_ofge (c := 256) (by omega) c_7
                refine z_iload B dX0_readSets_130 2 rfl ?_
                refine z_sipush (v := 260) B dX0_readSets_132 rfl ?_
                refine z_icmp_ge (tgt := 157) B dX0_readSets_135 rfl (fun c_8 => ?_) (fun c_8 => ?_)
                · have e_11 : 260 ≤ n_4 := (nI_leI (a := 260) (b := n_4) (by omega) (by omega)).mp c_8
                  refine z_iinc (k := 5) (v := nI (i_1 + 1)) (lv' := [(5, .int (nI (i_1 + 1))), (4, .int (nI (i_2 + n_3))), (9, .int (nI (i_2 + 4))), (8, .int (nI n_4)), (7, .int (nI n_3)), (6, .int (nI (n_1 - i_2))), (3, .int i_3), (0, .ref (x + 132)), (1, .ref (x + (k))), (2, .int a)]) B dX0_readSets_157 rfl (nI_add i_1 1) (Nat.le_of_ble_eq_true rfl) rfl ?_
                  refine z_goto (tgt := 9) B dX0_readSets_160 rfl ?_
                  refine z_lv [0, 1, 6, 7, 8, 9] rfl ?_
                  exact ih1 (i_1 + 1, i_2 + n_3, i_3) Φ3 (show 701 - (i_1 + 1) < 701 - i_1 by omega) ⟨hI4, (fun b9 h9 => ((hF3 b9 (fun j9 h8 h7 => (show False from h7).elim)).trans ((hF2 b9 (fun j9 h8 h7 => (show False from h7).elim)).trans ((hF1 b9 h9).trans rfl)))), (show (i_1 + 1) ≤ 701 by omega), (show (i_2 + n_3) ≤ 700 by omega), trivial⟩
                · have e_12 : ¬ (260 ≤ n_4) := fun h9 => c_8 ((nI_leI (a := 260) (b := n_4) (by omega) (by omega)).mpr h9)
                  refine z_iload_n B dX0_readSets_138 rfl 6 rfl ?_
                  refine z_aload_n B dX0_readSets_139 rfl 7 rfl ?_
                  refine z_aload_n B dX0_readSets_140 rfl 8 rfl ?_
                  refine z_iload B dX0_readSets_141 1 rfl ?_
                  refine z_iload B dX0_readSets_143 0 rfl ?_
                  refine z_iload B dX0_readSets_145 2 rfl ?_
                  refine z_sipush (v := 256) B dX0_readSets_147 rfl ?_
                  refine z_isub B dX0_readSets_150 ?_
                  refine z_top (st1 := [.int (nI (n_4 - 256)), .int (nI (i_2 + n_3)), .int (nI (i_2 + 4)), .ref (x + (k)), .ref (x + 132), .int i_3]) (congrArg (fun w9 : Int32 => ([.int w9, .int (nI (i_2 + n_3)), .int (nI (i_2 + 4)), .ref (x + (k)), .ref (x + 132), .int i_3] : List Value)) (nI_sub (show 256 ≤ n_4 by omega))) ?_
                  refine z_iload_n B dX0_readSets_151 rfl 9 rfl ?_
                  obtain ⟨n_5, v_7, v_8, h_9, b_6⟩ := in25 (k := 132) hI4 rfl
                  have h_10 : Φ3 (x + 132) = some (o_ 2 [.ref (x + 3), .ref (x + 121), .ref (x + 133), .ref (x + 134), .ref (x + 135), .ref (x + 137), .ref (x + 138), .ref (x + 139), .ref (x + 140), .int (nI n_5), .int v_7, .int v_8]) := h_9
                  refine z_callV (As := [.ref (x + (k)), .int (nI (i_2 + 4)), .int (nI (i_2 + n_3)), .int (nI (n_4 - 256)), .int a]) (rest := [.int i_3]) B (s_X0_readData G l Φ3 sz x (ca) k (i_2 + 4) (i_2 + n_3) (nI (n_4 - 256)) a hx hI4 hk_k (show (i_2 + 4) ≤ (i_2 + n_3) by omega) (show (i_2 + n_3) ≤ 700 by omega)) (cwV 5 B.1.2.2.2.2 gX0_readSets_X0_readData rfl rfl rfl (by decide +kernel) ⟨Nat.le_of_ble_eq_true rfl, Nat.le_of_ble_eq_true rfl⟩) h_10 rfl rfl rfl rfl (Nat.le_of_ble_eq_true rfl) dX0_readSets_152 ⟨Nat.le_of_ble_eq_true rfl, Nat.le_of_ble_eq_true rfl⟩ (fun r_3 Φ4 sz3 st3 hp3 hs3 => ?_)
                  obtain ⟨⟨v_9, rfl⟩, hq3, hI5, hF4⟩ := hp3
                  subst sz3
                  replace hs3 : st3 = [.int v_9, .int i_3] := hs3
                  subst st3
                  replace hI5 : In G x (ca) Φ4 := hI5
                  refine z_iadd B dX0_readSets_155 ?_
                  refine z_fi (fun v_10 => ?_)
                  refine z_istore_n (lv' := [(3, .int v_10), (4, .int (nI (i_2 + n_3))), (9, .int (nI (i_2 + 4))), (8, .int (nI n_4)), (7, .int (nI n_3)), (6, .int (nI (n_1 - i_2))), (5, .int (nI i_1)), (0, .ref (x + 132)), (1, .ref (x + (k))), (2, .int a)]) B dX0_readSets_156 rfl (Nat.le_of_ble_eq_true rfl) rfl ?_
                  refine z_iinc (k := 6) (v := nI (i_1 + 1)) (lv' := [(5, .int (nI (i_1 + 1))), (3, .int v_10), (4, .int (nI (i_2 + n_3))), (9, .int (nI (i_2 + 4))), (8, .int (nI n_4)), (7, .int (nI n_3)), (6, .int (nI (n_1 - i_2))), (0, .ref (x + 132)), (1, .ref (x + (k))), (2, .int a)]) B dX0_readSets_157 rfl (nI_add i_1 1) (Nat.le_of_ble_eq_true rfl) rfl ?_
                  refine z_goto (tgt := 9) B dX0_readSets_160 rfl ?_
                  refine z_lv [0, 2, 1, 7, 8, 9] rfl ?_
                  exact ih1 (i_1 + 1, i_2 + n_3, v_10) Φ4 (show 701 - (i_1 + 1) < 701 - i_1 by omega) ⟨hI5, (fun b9 h9 => ((hF4 b9 (fun j9 h8 h7 => h9 j9 h8 (fq_374 j9 h7))).trans ((hF3 b9 (fun j9 h8 h7 => (show False from h7).elim)).trans ((hF2 b9 (fun j9 h8 h7 => (show False from h7).elim)).trans ((hF1 b9 h9).trans rfl))))), (show (i_1 + 1) ≤ 701 by omega), (show (i_2 + n_3) ≤ 700 by omega), trivial⟩
            · refine z_aload_n B dX0_readSets_109 rfl 7 rfl ?_
              refine z_aload_n B dX0_readSets_110 rfl 8 rfl ?_
              refine z_iload B dX0_readSets_111 1 rfl ?_
              refine z_iload B dX0_readSets_113 0 rfl ?_
              refine z_iload_n B dX0_readSets_115 rfl 9 rfl ?_
              obtain ⟨n_6, v_11, v_12, h_11, b_7⟩ := in25 (k := 132) hI4 rfl
              have h_12 : Φ3 (x + 132) = some (o_ 2 [.ref (x + 3), .ref (x + 121), .ref (x + 133), .ref (x + 134), .ref (x + 135), .ref (x + 137), .ref (x + 138), .ref (x + 139), .ref (x + 140), .int (nI n_6), .int v_11, .int v_12]) := h_11
              refine z_callV (As := [.ref (x + (k)), .int (nI (i_2 + 4)), .int (nI (i_2 + n_3)), .int a]) (rest := []) B (s_X0_readTemplates G l Φ3 sz x (ca) k (nI (i_2 + 4)) (nI (i_2 + n_3)) a hx hI4 hk_k) (cwV 4 B.1.2.2.2.2 gX0_readSets_X0_readTemplates rfl rfl rfl (by decide +kernel) ⟨Nat.le_of_ble_eq_true rfl, Nat.le_of_ble_eq_true rfl⟩) h_12 rfl rfl rfl rfl (Nat.le_of_ble_eq_true rfl) dX0_readSets_116 ⟨Nat.le_of_ble_eq_true rfl, Nat.le_of_ble_eq_true rfl⟩ (fun r_4 Φ5 sz4 st4 hp4 hs4 => ?_)
              obtain ⟨rfl, hq4, hI6, hF5⟩ := hp4
              subst sz4
              replace hs4 : st4 = [] := hs4
              subst st4
              replace hI6 : In G x (ca) Φ5 := hI6
              refine z_goto (tgt := 157) B dX0_readSets_119 rfl ?_
              refine z_iinc (k := 5) (v := nI (i_1 + 1)) (lv' := [(5, .int (nI (i_1 + 1))), (4, .int (nI (i_2 + n_3))), (9, .int (nI (i_2 + 4))), (8, .int v_6), (7, .int (nI n_3)), (6, .int (nI (n_1 - i_2))), (3, .int i_3), (0, .ref (x + 132)), (1, .ref (x + (k))), (2, .int a)]) B dX0_readSets_157 rfl (nI_add i_1 1) (Nat.le_of_ble_eq_true rfl) rfl ?_
              refine z_goto (tgt := 9) B dX0_readSets_160 rfl ?_
              refine z_lv [0, 1, 6, 7, 8, 9] rfl ?_
              exact ih1 (i_1 + 1, i_2 + n_3, i_3) Φ5 (show 701 - (i_1 + 1) < 701 - i_1 by omega) ⟨hI6, (fun b9 h9 => ((hF5 b9 (fun j9 h8 h7 => h9 j9 h8 (fq_375 j9 h7))).trans ((hF3 b9 (fun j9 h8 h7 => (show False from h7).elim)).trans ((hF2 b9 (fun j9 h8 h7 => (show False from h7).elim)).trans ((hF1 b9 h9).trans rfl))))), (show (i_1 + 1) ≤ 701 by omega), (show (i_2 + n_3) ≤ 700 by omega), trivial⟩
          · have e_13 : ¬ (n_3 ≤ n_1 - i_2) := fun h9 => c_5 ((nI_leI (a := n_3) (b := n_1 - i_2) (by omega) (by omega)).mpr h9)
            refine z_aload_n B dX0_readSets_69 rfl 5 rfl ?_
            obtain ⟨n_7, v_13, v_14, h_13, b_8⟩ := in25 (k := 132) hI2 rfl
            have h_14 : Φ1 (x + 132) = some (o_ 2 [.ref (x + 3), .ref (x + 121), .ref (x + 133), .ref (x + 134), .ref (x + 135), .ref (x + 137), .ref (x + 138), .ref (x + 139), .ref (x + 140), .int (nI n_7), .int v_13, .int v_14]) := h_13
            refine z_get (ref := "FlowExporter$Collector") (C := RX0) (T := TX0) (N := 12) (ci := 2) (v := .ref (x + 139)) B hu_X0_readSets_X0 rfl 7 (Nat.le_of_ble_eq_true rfl) hv_X0_readSets_32 rfl h_14 rfl dX0_readSets_70 ?_
            refine z_iconst (v := 4) B dX0_readSets_73 rfl ?_
            refine z_dup2_11 B dX0_readSets_74 rfl rfl ?_
            obtain ⟨f_2, h_15⟩ := in28 (k := 139) hI2 rfl
            have h_16 : Φ1 (x + 139) = some (al_ G 9 f_2) := h_15
            refine z_lald B h_16 (vin rfl) dX0_readSets_75 ?_
            refine z_fl (fun v_15 => ?_)
            refine z_lconst (v := 1) B dX0_readSets_76 rfl ?_
            refine z_ladd B dX0_readSets_77 ?_
            refine z_fl (fun v_16 => ?_)
            refine z_last B h_16 (Nat.le_trans hx (Nat.le_add_right x 139)) (vin rfl) dX0_readSets_78 (fun Φ6 hΦ2 => ?_)
            have h_17 : Φ6 (x + 139) = some (al_ G 9 (vp_updL f_2 (4 : Int32).toNatClampNeg v_16)) := fset_at hΦ2
            have hI7 : In G x (ca) Φ6 := In.put (k := 139) hI2 hΦ2 (ok28 (k := 139) rfl ⟨_, rfl⟩)
            refine z_iload_n B dX0_readSets_79 rfl 4 rfl ?_
            exact z_ret_i B dX0_readSets_80 ⟨⟨_, rfl⟩, rfl, hI7, (fun b9 h9 => ((fset_fr hΦ2 (fun h8 => h9 (139) h8 (show (121 ≤ 139 ∧ 139 < 149) by decide))).trans ((hF2 b9 (fun j9 h8 h7 => (show False from h7).elim)).trans ((hF1 b9 h9).trans rfl))))⟩
      · have e_14 : ¬ (4 ≤ n_1 - i_2) := fun h9 => c_3 ((nI_leI (a := 4) (b := n_1 - i_2) (by omega) (by omega)).mpr h9)
        refine z_iconst (v := 0) B dX0_readSets_41 rfl ?_
        refine z_goto (tgt := 54) B dX0_readSets_42 rfl ?_
        refine z_istore (lv' := [(7, .int 0), (6, .int (nI (n_1 - i_2))), (5, .int (nI i_1)), (4, .int (nI i_2)), (3, .int i_3), (0, .ref (x + 132)), (1, .ref (x + (k))), (2, .int a)]) B dX0_readSets_54 (Nat.le_of_ble_eq_true rfl) rfl ?_
        refine z_iload B dX0_readSets_56 0 rfl ?_
        refine z_iconst (v := 4) B dX0_readSets_58 rfl ?_
        refine z_icmp_lt (tgt := 69) B dX0_readSets_59 rfl (fun c_9 => ?_) (fun h9 => absurd (by decide) h9)
        refine z_aload_n B dX0_readSets_69 rfl 5 rfl ?_
        obtain ⟨n_8, v_17, v_18, h_18, b_9⟩ := in25 (k := 132) hI1 rfl
        have h_19 : Φl1 (x + 132) = some (o_ 2 [.ref (x + 3), .ref (x + 121), .ref (x + 133), .ref (x + 134), .ref (x + 135), .ref (x + 137), .ref (x + 138), .ref (x + 139), .ref (x + 140), .int (nI n_8), .int v_17, .int v_18]) := h_18
        refine z_get (ref := "FlowExporter$Collector") (C := RX0) (T := TX0) (N := 12) (ci := 2) (v := .ref (x + 139)) B hu_X0_readSets_X0 rfl 7 (Nat.le_of_ble_eq_true rfl) hv_X0_readSets_32 rfl h_19 rfl dX0_readSets_70 ?_
        refine z_iconst (v := 4) B dX0_readSets_73 rfl ?_
        refine z_dup2_11 B dX0_readSets_74 rfl rfl ?_
        obtain ⟨f_3, h_20⟩ := in28 (k := 139) hI1 rfl
        have h_21 : Φl1 (x + 139) = some (al_ G 9 f_3) := h_20
        refine z_lald B h_21 (vin rfl) dX0_readSets_75 ?_
        refine z_fl (fun v_19 => ?_)
        refine z_lconst (v := 1) B dX0_readSets_76 rfl ?_
        refine z_ladd B dX0_readSets_77 ?_
        refine z_fl (fun v_20 => ?_)
        refine z_last B h_21 (Nat.le_trans hx (Nat.le_add_right x 139)) (vin rfl) dX0_readSets_78 (fun Φ7 hΦ3 => ?_)
        have h_22 : Φ7 (x + 139) = some (al_ G 9 (vp_updL f_3 (4 : Int32).toNatClampNeg v_20)) := fset_at hΦ3
        have hI8 : In G x (ca) Φ7 := In.put (k := 139) hI1 hΦ3 (ok28 (k := 139) rfl ⟨_, rfl⟩)
        refine z_iload_n B dX0_readSets_79 rfl 4 rfl ?_
        exact z_ret_i B dX0_readSets_80 ⟨⟨_, rfl⟩, rfl, hI8, (fun b9 h9 => ((fset_fr hΦ3 (fun h8 => h9 (139) h8 (show (121 ≤ 139 ∧ 139 < 149) by decide))).trans ((hF1 b9 h9).trans rfl)))⟩

theorem hu_X0_take_X0 : ∀ w ∈ u_ws RX0 TX0 12, w ∈ wsX0_take := fun _ h => List.mem_cons_of_mem _ (List.mem_append_left _ (List.mem_append_left _ (List.mem_append_left _ (List.mem_append_left _ (List.mem_append_left _ (List.mem_append_right _ (h)))))))

theorem hv_X0_take_32 : Cond.fieldLink RX0 32 "FlowExporter$Collector" (TX0 7).2.1 (TX0 7).2.2.1 ∈ wsX0_take := List.mem_cons_of_mem _ (List.mem_append_left _ (List.mem_append_left _ (List.mem_append_left _ (List.mem_append_left _ (List.mem_append_left _ (List.mem_append_left _ (List.mem_append_left _ (List.mem_of_getElem? (i := 0) rfl))))))))

theorem hu_X0_take_X5 : ∀ w ∈ u_ws RX5 TX5 2, w ∈ wsX0_take := fun _ h => List.mem_cons_of_mem _ (List.mem_append_left _ (List.mem_append_left _ (List.mem_append_left _ (List.mem_append_left _ (List.mem_append_right _ (h))))))

theorem hv_X0_take_87 : Cond.fieldLink RX0 87 "FlowExporter$Message" (TX5 1).2.1 (TX5 1).2.2.1 ∈ wsX0_take := List.mem_cons_of_mem _ (List.mem_append_left _ (List.mem_append_left _ (List.mem_append_left _ (List.mem_append_left _ (List.mem_append_left _ (List.mem_append_left _ (List.mem_append_left _ (List.mem_of_getElem? (i := 1) rfl))))))))

theorem fq_380 : ∀ j9 : Nat, (132 ≤ j9 ∧ j9 < 140) → ((121 ≤ j9 ∧ j9 < 149)) := by
  intro j9 h
  omega

set_option maxHeartbeats 4000000 in
set_option maxRecDepth 100000 in
theorem s_X0_take (G : EnvG) (l : Launch) (Φ : Hm) (sz x ca : Nat) (k : Nat) (a : Int32) (hx : G.2.2.2 ≤ x) (hI : In G x ca Φ) (hk_k : kd k = 1) (hca : ca < 1000000) : Ct G l yX0_take wsX0_take ({ frames := 5, cells := 0, slots := 0, locals := 132 }) 0 0 [.ref (x + 132), .ref (x + (k)), .int a] Φ sz (fun v Φ1 sz1 => (∃ r9 : Int32, v = some (.int r9)) ∧ sz1 = sz ∧ In G x (ca + 1) Φ1 ∧ Fr x (fun j9 => (121 ≤ j9 ∧ j9 < 149)) Φ Φ1) := by
  refine Ct.of (cc := cX0_take) (maxL := 5) (ret := (some .int)) (by decide) rfl (Nat.le_of_ble_eq_true rfl) ?_
  intro p9 e9 s9 m9 w9 t9 k9 B
  show Z p9 l e9 _ s9 m9 _ w9 t9 k9 _ G 5 0 [(0, .ref (x + 132)), (1, .ref (x + (k))), (2, .int a)] [] Φ sz 0 0
  refine z_aload_n B dX0_take_0 rfl 0 rfl ?_
  obtain ⟨n_1, v_1, v_2, h_1, b_1⟩ := in25 (k := 132) hI rfl
  have h_2 : Φ (x + 132) = some (o_ 2 [.ref (x + 3), .ref (x + 121), .ref (x + 133), .ref (x + 134), .ref (x + 135), .ref (x + 137), .ref (x + 138), .ref (x + 139), .ref (x + 140), .int (nI n_1), .int v_1, .int v_2]) := h_1
  refine z_get (ref := "FlowExporter$Collector") (C := RX0) (T := TX0) (N := 12) (ci := 2) (v := .ref (x + 139)) B hu_X0_take_X0 rfl 7 (Nat.le_of_ble_eq_true rfl) hv_X0_take_32 rfl h_2 rfl dX0_take_1 ?_
  refine z_bipush (v := 8) B dX0_take_4 rfl ?_
  refine z_dup2_11 B dX0_take_6 rfl rfl ?_
  obtain ⟨f_1, h_3⟩ := in28 (k := 139) hI rfl
  have h_4 : Φ (x + 139) = some (al_ G 9 f_1) := h_3
  refine z_lald B h_4 (vin rfl) dX0_take_7 ?_
  refine z_fl (fun v_3 => ?_)
  refine z_lconst (v := 1) B dX0_take_8 rfl ?_
  refine z_ladd B dX0_take_9 ?_
  refine z_fl (fun v_4 => ?_)
  refine z_last B h_4 (Nat.le_trans hx (Nat.le_add_right x 139)) (vin rfl) dX0_take_10 (fun Φ1 hΦ1 => ?_)
  have h_5 : Φ1 (x + 139) = some (al_ G 9 (vp_updL f_1 (8 : Int32).toNatClampNeg v_4)) := fset_at hΦ1
  have hI1 : In G x (ca) Φ1 := In.put (k := 139) hI hΦ1 (ok28 (k := 139) rfl ⟨_, rfl⟩)
  refine z_aload_n B dX0_take_11 rfl 1 rfl ?_
  obtain ⟨n_2, h_6, b_2⟩ := in1 (k := k) hI1 hk_k
  replace b_2 : n_2 ≤ cap (k) := b_2
  have b_3 := cap_le (k)
  have h_7 : Φ1 (x + (k)) = some (o_ 7 [.ref (x + (k + 1)), .int (nI n_2)]) := h_6
  refine z_get (ref := "FlowExporter$Message") (C := RX5) (T := TX5) (N := 2) (ci := 7) (v := .int (nI n_2)) B hu_X0_take_X5 rfl 1 (Nat.le_of_ble_eq_true rfl) hv_X0_take_87 rfl h_7 rfl dX0_take_12 ?_
  refine z_bipush (v := 16) B dX0_take_15 rfl ?_
  refine z_icmp_lt (tgt := 44) B dX0_take_17 rfl (fun c_1 => ?_) (fun c_1 => ?_)
  · have e_1 : n_2 < 16 := (nI_ltI (a := n_2) (b := 16) (by omega) (by omega)).mp c_1
    refine z_aload_n B dX0_take_44 rfl 0 rfl ?_
    have h_8 : Φ1 (x + 132) = some (o_ 2 [.ref (x + 3), .ref (x + 121), .ref (x + 133), .ref (x + 134), .ref (x + 135), .ref (x + 137), .ref (x + 138), .ref (x + 139), .ref (x + 140), .int (nI n_1), .int v_1, .int v_2]) := ((fset_fr hΦ1 (ne_off (x := x) (i := 132) (j := 139) rfl)).trans h_2)
    refine z_get (ref := "FlowExporter$Collector") (C := RX0) (T := TX0) (N := 12) (ci := 2) (v := .ref (x + 139)) B hu_X0_take_X0 rfl 7 (Nat.le_of_ble_eq_true rfl) hv_X0_take_32 rfl h_8 rfl dX0_take_45 ?_
    refine z_iconst (v := 4) B dX0_take_48 rfl ?_
    refine z_dup2_11 B dX0_take_49 rfl rfl ?_
    obtain ⟨f_2, h_9⟩ := in28 (k := 139) hI1 rfl
    have h_10 : Φ1 (x + 139) = some (al_ G 9 f_2) := h_9
    refine z_lald B h_10 (vin rfl) dX0_take_50 ?_
    refine z_fl (fun v_5 => ?_)
    refine z_lconst (v := 1) B dX0_take_51 rfl ?_
    refine z_ladd B dX0_take_52 ?_
    refine z_fl (fun v_6 => ?_)
    refine z_last B h_10 (Nat.le_trans hx (Nat.le_add_right x 139)) (vin rfl) dX0_take_53 (fun Φ2 hΦ2 => ?_)
    have h_11 : Φ2 (x + 139) = some (al_ G 9 (vp_updL f_2 (4 : Int32).toNatClampNeg v_6)) := fset_at hΦ2
    have hI2 : In G x (ca) Φ2 := In.put (k := 139) hI1 hΦ2 (ok28 (k := 139) rfl ⟨_, rfl⟩)
    refine z_iconst (v := 0) B dX0_take_54 rfl ?_
    exact z_ret_i B dX0_take_55 ⟨⟨_, rfl⟩, rfl, (In.mono hI2 (by omega)), (fun b9 h9 => ((fset_fr hΦ2 (fun h8 => h9 (139) h8 (show (121 ≤ 139 ∧ 139 < 149) by decide))).trans ((fset_fr hΦ1 (fun h8 => h9 (139) h8 (show (121 ≤ 139 ∧ 139 < 149) by decide))).trans rfl)))⟩
  · have e_2 : ¬ (n_2 < 16) := fun h9 => c_1 ((nI_ltI (a := n_2) (b := 16) (by omega) (by omega)).mpr h9)
    refine z_aload_n B dX0_take_20 rfl 1 rfl ?_
    refine z_iconst (v := 0) B dX0_take_21 rfl ?_
    refine z_iconst (v := 2) B dX0_take_22 rfl ?_
    refine z_callV (As := [.int 0, .int 2]) (rest := []) B (s_X5_intAt G l Φ1 sz x (ca) k 0 2 hx hI1 hk_k (show 2 ≤ 8 by omega)) (cwV 2 B.1.2.2.2.2 gX0_take_X5_intAt rfl rfl rfl (by decide +kernel) ⟨Nat.le_of_ble_eq_true rfl, Nat.le_of_ble_eq_true rfl⟩) h_7 rfl rfl rfl rfl (Nat.le_of_ble_eq_true rfl) dX0_take_23 ⟨Nat.le_of_ble_eq_true rfl, Nat.le_of_ble_eq_true rfl⟩ (fun r_1 Φ3 sz1 st1 hp1 hs1 => ?_)
    obtain ⟨⟨v_7, rfl⟩, hq1, hI3, hF1⟩ := hp1
    subst sz1
    replace hs1 : st1 = [.int v_7] := hs1
    subst st1
    replace hI3 : In G x (ca) Φ3 := hI3
    refine z_bipush (v := 10) B dX0_take_26 rfl ?_
    refine z_icmp_ne (tgt := 44) B dX0_take_28 rfl (fun c_2 => ?_) (fun c_2 => ?_)
    · refine z_aload_n B dX0_take_44 rfl 0 rfl ?_
      have h_12 : Φ3 (x + 132) = some (o_ 2 [.ref (x + 3), .ref (x + 121), .ref (x + 133), .ref (x + 134), .ref (x + 135), .ref (x + 137), .ref (x + 138), .ref (x + 139), .ref (x + 140), .int (nI n_1), .int v_1, .int v_2]) := ((hF1 (x + 132) (fun j9 h8 h7 => (show False from h7).elim)).trans ((fset_fr hΦ1 (ne_off (x := x) (i := 132) (j := 139) rfl)).trans h_2))
      refine z_get (ref := "FlowExporter$Collector") (C := RX0) (T := TX0) (N := 12) (ci := 2) (v := .ref (x + 139)) B hu_X0_take_X0 rfl 7 (Nat.le_of_ble_eq_true rfl) hv_X0_take_32 rfl h_12 rfl dX0_take_45 ?_
      refine z_iconst (v := 4) B dX0_take_48 rfl ?_
      refine z_dup2_11 B dX0_take_49 rfl rfl ?_
      obtain ⟨f_3, h_13⟩ := in28 (k := 139) hI3 rfl
      have h_14 : Φ3 (x + 139) = some (al_ G 9 f_3) := h_13
      refine z_lald B h_14 (vin rfl) dX0_take_50 ?_
      refine z_fl (fun v_8 => ?_)
      refine z_lconst (v := 1) B dX0_take_51 rfl ?_
      refine z_ladd B dX0_take_52 ?_
      refine z_fl (fun v_9 => ?_)
      refine z_last B h_14 (Nat.le_trans hx (Nat.le_add_right x 139)) (vin rfl) dX0_take_53 (fun Φ4 hΦ3 => ?_)
      have h_15 : Φ4 (x + 139) = some (al_ G 9 (vp_updL f_3 (4 : Int32).toNatClampNeg v_9)) := fset_at hΦ3
      have hI4 : In G x (ca) Φ4 := In.put (k := 139) hI3 hΦ3 (ok28 (k := 139) rfl ⟨_, rfl⟩)
      refine z_iconst (v := 0) B dX0_take_54 rfl ?_
      exact z_ret_i B dX0_take_55 ⟨⟨_, rfl⟩, rfl, (In.mono hI4 (by omega)), (fun b9 h9 => ((fset_fr hΦ3 (fun h8 => h9 (139) h8 (show (121 ≤ 139 ∧ 139 < 149) by decide))).trans ((hF1 b9 (fun j9 h8 h7 => (show False from h7).elim)).trans ((fset_fr hΦ1 (fun h8 => h9 (139) h8 (show (121 ≤ 139 ∧ 139 < 149) by decide))).trans rfl))))⟩
    · refine z_aload_n B dX0_take_31 rfl 1 rfl ?_
      refine z_iconst (v := 2) B dX0_take_32 rfl ?_
      refine z_iconst (v := 2) B dX0_take_33 rfl ?_
      have h_16 : Φ3 (x + (k)) = some (o_ 7 [.ref (x + (k + 1)), .int (nI n_2)]) := ((hF1 (x + (k)) (fun j9 h8 h7 => (show False from h7).elim)).trans h_7)
      refine z_callV (As := [.int 2, .int 2]) (rest := []) B (s_X5_intAt G l Φ3 sz x (ca) k 2 2 hx hI3 hk_k (show 2 ≤ 8 by omega)) (cwV 2 B.1.2.2.2.2 gX0_take_X5_intAt rfl rfl rfl (by decide +kernel) ⟨Nat.le_of_ble_eq_true rfl, Nat.le_of_ble_eq_true rfl⟩) h_16 rfl rfl rfl rfl (Nat.le_of_ble_eq_true rfl) dX0_take_34 ⟨Nat.le_of_ble_eq_true rfl, Nat.le_of_ble_eq_true rfl⟩ (fun r_2 Φ5 sz2 st2 hp2 hs2 => ?_)
      obtain ⟨⟨v_10, rfl⟩, hq2, hI5, hF2⟩ := hp2
      subst sz2
      replace hs2 : st2 = [.int v_10] := hs2
      subst st2
      replace hI5 : In G x (ca) Φ5 := hI5
      refine z_aload_n B dX0_take_37 rfl 1 rfl ?_
      have h_17 : Φ5 (x + (k)) = some (o_ 7 [.ref (x + (k + 1)), .int (nI n_2)]) := ((hF2 (x + (k)) (fun j9 h8 h7 => (show False from h7).elim)).trans h_16)
      refine z_get (ref := "FlowExporter$Message") (C := RX5) (T := TX5) (N := 2) (ci := 7) (v := .int (nI n_2)) B hu_X0_take_X5 rfl 1 (Nat.le_of_ble_eq_true rfl) hv_X0_take_87 rfl h_17 rfl dX0_take_38 ?_
      refine z_icmp_eq (tgt := 56) B dX0_take_41 rfl (fun c_3 => ?_) (fun c_3 => ?_)
      · refine z_aload_n B dX0_take_56 rfl 1 rfl ?_
        refine z_iconst (v := 4) B dX0_take_57 rfl ?_
        refine z_iconst (v := 4) B dX0_take_58 rfl ?_
        refine z_callV (As := [.int 4, .int 4]) (rest := []) B (s_X5_intAt G l Φ5 sz x (ca) k 4 4 hx hI5 hk_k (show 4 ≤ 8 by omega)) (cwV 2 B.1.2.2.2.2 gX0_take_X5_intAt rfl rfl rfl (by decide +kernel) ⟨Nat.le_of_ble_eq_true rfl, Nat.le_of_ble_eq_true rfl⟩) h_17 rfl rfl rfl rfl (Nat.le_of_ble_eq_true rfl) dX0_take_59 ⟨Nat.le_of_ble_eq_true rfl, Nat.le_of_ble_eq_true rfl⟩ (fun r_3 Φ6 sz3 st3 hp3 hs3 => ?_)
        obtain ⟨⟨v_11, rfl⟩, hq3, hI6, hF3⟩ := hp3
        subst sz3
        replace hs3 : st3 = [.int v_11] := hs3
        subst st3
        replace hI6 : In G x (ca) Φ6 := hI6
        refine z_istore_n (lv' := [(3, .int v_11), (0, .ref (x + 132)), (1, .ref (x + (k))), (2, .int a)]) B dX0_take_62 rfl (Nat.le_of_ble_eq_true rfl) rfl ?_
        refine z_aload_n B dX0_take_63 rfl 2 rfl ?_
        refine z_bipush (v := 8) B dX0_take_64 rfl ?_
        refine z_iconst (v := 4) B dX0_take_66 rfl ?_
        have h_18 : Φ6 (x + (k)) = some (o_ 7 [.ref (x + (k + 1)), .int (nI n_2)]) := ((hF3 (x + (k)) (fun j9 h8 h7 => (show False from h7).elim)).trans h_17)
        refine z_callV (As := [.int 8, .int 4]) (rest := []) B (s_X5_intAt G l Φ6 sz x (ca) k 8 4 hx hI6 hk_k (show 4 ≤ 8 by omega)) (cwV 2 B.1.2.2.2.2 gX0_take_X5_intAt rfl rfl rfl (by decide +kernel) ⟨Nat.le_of_ble_eq_true rfl, Nat.le_of_ble_eq_true rfl⟩) h_18 rfl rfl rfl rfl (Nat.le_of_ble_eq_true rfl) dX0_take_67 ⟨Nat.le_of_ble_eq_true rfl, Nat.le_of_ble_eq_true rfl⟩ (fun r_4 Φ7 sz4 st4 hp4 hs4 => ?_)
        obtain ⟨⟨v_12, rfl⟩, hq4, hI7, hF4⟩ := hp4
        subst sz4
        replace hs4 : st4 = [.int v_12] := hs4
        subst st4
        replace hI7 : In G x (ca) Φ7 := hI7
        refine z_istore (lv' := [(4, .int v_12), (3, .int v_11), (0, .ref (x + 132)), (1, .ref (x + (k))), (2, .int a)]) B dX0_take_70 (Nat.le_of_ble_eq_true rfl) rfl ?_
        refine z_aload_n B dX0_take_72 rfl 2 rfl ?_
        refine z_iload B dX0_take_73 0 rfl ?_
        refine z_iload_n B dX0_take_75 rfl 1 rfl ?_
        have h_19 : Φ7 (x + 132) = some (o_ 2 [.ref (x + 3), .ref (x + 121), .ref (x + 133), .ref (x + 134), .ref (x + 135), .ref (x + 137), .ref (x + 138), .ref (x + 139), .ref (x + 140), .int (nI n_1), .int v_1, .int v_2]) := ((hF4 (x + 132) (fun j9 h8 h7 => (show False from h7).elim)).trans ((hF3 (x + 132) (fun j9 h8 h7 => (show False from h7).elim)).trans ((hF2 (x + 132) (fun j9 h8 h7 => (show False from h7).elim)).trans ((hF1 (x + 132) (fun j9 h8 h7 => (show False from h7).elim)).trans ((fset_fr hΦ1 (ne_off (x := x) (i := 132) (j := 139) rfl)).trans h_2)))))
        refine z_callV (As := [.int v_12, .int v_11]) (rest := []) B (s_X0_isRecent G l Φ7 sz x (ca) v_12 v_11 hx hI7 (show ca < 1000000 by omega)) (cwV 2 B.1.2.2.2.2 gX0_take_X0_isRecent rfl rfl rfl (by decide +kernel) ⟨Nat.le_of_ble_eq_true rfl, Nat.le_of_ble_eq_true rfl⟩) h_19 rfl rfl rfl rfl (Nat.le_of_ble_eq_true rfl) dX0_take_76 ⟨Nat.le_of_ble_eq_true rfl, Nat.le_of_ble_eq_true rfl⟩ (fun r_5 Φ8 sz5 st5 hp5 hs5 => ?_)
        obtain ⟨⟨v_13, rfl, b_4⟩, hq5, hI8, hF5⟩ := hp5
        subst sz5
        replace hs5 : st5 = [.int v_13] := hs5
        subst st5
        replace hI8 : In G x (ca) Φ8 := hI8
        refine z_if_eq (tgt := 94) B dX0_take_79 rfl (fun c_4 => ?_) (fun c_4 => ?_)
        · refine z_aload_n B dX0_take_94 rfl 2 rfl ?_
          refine z_iload B dX0_take_95 0 rfl ?_
          refine z_iload_n B dX0_take_97 rfl 1 rfl ?_
          refine z_iconst (v := 0) B dX0_take_98 rfl ?_
          refine z_aload_n B dX0_take_99 rfl 3 rfl ?_
          refine z_bipush (v := 12) B dX0_take_100 rfl ?_
          refine z_iconst (v := 4) B dX0_take_102 rfl ?_
          have h_20 : Φ8 (x + (k)) = some (o_ 7 [.ref (x + (k + 1)), .int (nI n_2)]) := ((hF5 (x + (k)) (fun j9 h8 h7 => (show False from h7).elim)).trans ((hF4 (x + (k)) (fun j9 h8 h7 => (show False from h7).elim)).trans h_18))
          refine z_callV (As := [.int 12, .int 4]) (rest := [.int 0, .int v_11, .int v_12, .ref (x + 132)]) B (s_X5_intAt G l Φ8 sz x (ca) k 12 4 hx hI8 hk_k (show 4 ≤ 8 by omega)) (cwV 2 B.1.2.2.2.2 gX0_take_X5_intAt rfl rfl rfl (by decide +kernel) ⟨Nat.le_of_ble_eq_true rfl, Nat.le_of_ble_eq_true rfl⟩) h_20 rfl rfl rfl rfl (Nat.le_of_ble_eq_true rfl) dX0_take_103 ⟨Nat.le_of_ble_eq_true rfl, Nat.le_of_ble_eq_true rfl⟩ (fun r_6 Φ9 sz6 st6 hp6 hs6 => ?_)
          obtain ⟨⟨v_14, rfl⟩, hq6, hI9, hF6⟩ := hp6
          subst sz6
          replace hs6 : st6 = [.int v_14, .int 0, .int v_11, .int v_12, .ref (x + 132)] := hs6
          subst st6
          replace hI9 : In G x (ca) Φ9 := hI9
          refine z_mmax B (by decide +kernel) (by decide +kernel) (by decide +kernel) (by decide +kernel) rfl ⟨Nat.le_of_ble_eq_true rfl, Nat.le_of_ble_eq_true rfl⟩ ⟨Nat.le_of_ble_eq_true rfl, Nat.le_of_ble_eq_true rfl⟩ dX0_take_106 ?_
          refine z_fi (fun v_15 => ?_)
          have h_21 : Φ9 (x + 132) = some (o_ 2 [.ref (x + 3), .ref (x + 121), .ref (x + 133), .ref (x + 134), .ref (x + 135), .ref (x + 137), .ref (x + 138), .ref (x + 139), .ref (x + 140), .int (nI n_1), .int v_1, .int v_2]) := ((hF6 (x + 132) (fun j9 h8 h7 => (show False from h7).elim)).trans ((hF5 (x + 132) (fun j9 h8 h7 => (show False from h7).elim)).trans h_19))
          refine z_callV (As := [.int v_12, .int v_11, .int v_15]) (rest := []) B (s_X0_account G l Φ9 sz x (ca) v_12 v_11 v_15 hx hI9 (show ca < 1000000 by omega)) (cwV 3 B.1.2.2.2.2 gX0_take_X0_account rfl rfl rfl (by decide +kernel) ⟨Nat.le_of_ble_eq_true rfl, Nat.le_of_ble_eq_true rfl⟩) h_21 rfl rfl rfl rfl (Nat.le_of_ble_eq_true rfl) dX0_take_109 ⟨Nat.le_of_ble_eq_true rfl, Nat.le_of_ble_eq_true rfl⟩ (fun r_7 Φ10 sz7 st7 hp7 hs7 => ?_)
          obtain ⟨rfl, hq7, hI10, hF7⟩ := hp7
          subst sz7
          replace hs7 : st7 = [] := hs7
          subst st7
          replace hI10 : In G x (ca + 1) Φ10 := hI10
          refine z_aload_n B dX0_take_112 rfl 2 rfl ?_
          refine z_aload_n B dX0_take_113 rfl 3 rfl ?_
          refine z_iload_n B dX0_take_114 rfl 4 rfl ?_
          obtain ⟨n_3, v_16, v_17, h_22, b_5⟩ := in25 (k := 132) hI10 rfl
          have h_23 : Φ10 (x + 132) = some (o_ 2 [.ref (x + 3), .ref (x + 121), .ref (x + 133), .ref (x + 134), .ref (x + 135), .ref (x + 137), .ref (x + 138), .ref (x + 139), .ref (x + 140), .int (nI n_3), .int v_16, .int v_17]) := h_22
          refine z_callV (As := [.ref (x + (k)), .int a]) (rest := []) B (s_X0_readSets G l Φ10 sz x (ca + 1) k a hx hI10 hk_k) (cwV 2 B.1.2.2.2.2 gX0_take_X0_readSets rfl rfl rfl (by decide +kernel) ⟨Nat.le_of_ble_eq_true rfl, Nat.le_of_ble_eq_true rfl⟩) h_23 rfl rfl rfl rfl (Nat.le_of_ble_eq_true rfl) dX0_take_115 ⟨Nat.le_of_ble_eq_true rfl, Nat.le_of_ble_eq_true rfl⟩ (fun r_8 Φ11 sz8 st8 hp8 hs8 => ?_)
          obtain ⟨⟨v_18, rfl⟩, hq8, hI11, hF8⟩ := hp8
          subst sz8
          replace hs8 : st8 = [.int v_18] := hs8
          subst st8
          replace hI11 : In G x (ca + 1) Φ11 := hI11
          exact z_ret_i B dX0_take_118 ⟨⟨_, rfl⟩, rfl, hI11, (fun b9 h9 => ((hF8 b9 h9).trans ((hF7 b9 (fun j9 h8 h7 => h9 j9 h8 (fq_380 j9 h7))).trans ((hF6 b9 (fun j9 h8 h7 => (show False from h7).elim)).trans ((hF5 b9 (fun j9 h8 h7 => (show False from h7).elim)).trans ((hF4 b9 (fun j9 h8 h7 => (show False from h7).elim)).trans ((hF3 b9 (fun j9 h8 h7 => (show False from h7).elim)).trans ((hF2 b9 (fun j9 h8 h7 => (show False from h7).elim)).trans ((hF1 b9 (fun j9 h8 h7 => (show False from h7).elim)).trans ((fset_fr hΦ1 (fun h8 => h9 (139) h8 (show (121 ≤ 139 ∧ 139 < 149) by decide))).trans rfl))))))))))⟩
        · refine z_aload_n B dX0_take_82 rfl 2 rfl ?_
          have h_24 : Φ8 (x + 132) = some (o_ 2 [.ref (x + 3), .ref (x + 121), .ref (x + 133), .ref (x + 134), .ref (x + 135), .ref (x + 137), .ref (x + 138), .ref (x + 139), .ref (x + 140), .int (nI n_1), .int v_1, .int v_2]) := ((hF5 (x + 132) (fun j9 h8 h7 => (show False from h7).elim)).trans h_19)
          refine z_get (ref := "FlowExporter$Collector") (C := RX0) (T := TX0) (N := 12) (ci := 2) (v := .ref (x + 139)) B hu_X0_take_X0 rfl 7 (Nat.le_of_ble_eq_true rfl) hv_X0_take_32 rfl h_24 rfl dX0_take_83 ?_
          refine z_iconst (v := 2) B dX0_take_86 rfl ?_
          refine z_dup2_11 B dX0_take_87 rfl rfl ?_
          obtain ⟨f_4, h_25⟩ := in28 (k := 139) hI8 rfl
          have h_26 : Φ8 (x + 139) = some (al_ G 9 f_4) := h_25
          refine z_lald B h_26 (vin rfl) dX0_take_88 ?_
          refine z_fl (fun v_19 => ?_)
          refine z_lconst (v := 1) B dX0_take_89 rfl ?_
          refine z_ladd B dX0_take_90 ?_
          refine z_fl (fun v_20 => ?_)
          refine z_last B h_26 (Nat.le_trans hx (Nat.le_add_right x 139)) (vin rfl) dX0_take_91 (fun Φ12 hΦ4 => ?_)
          have h_27 : Φ12 (x + 139) = some (al_ G 9 (vp_updL f_4 (2 : Int32).toNatClampNeg v_20)) := fset_at hΦ4
          have hI12 : In G x (ca) Φ12 := In.put (k := 139) hI8 hΦ4 (ok28 (k := 139) rfl ⟨_, rfl⟩)
          refine z_iconst (v := 0) B dX0_take_92 rfl ?_
          exact z_ret_i B dX0_take_93 ⟨⟨_, rfl⟩, rfl, (In.mono hI12 (by omega)), (fun b9 h9 => ((fset_fr hΦ4 (fun h8 => h9 (139) h8 (show (121 ≤ 139 ∧ 139 < 149) by decide))).trans ((hF5 b9 (fun j9 h8 h7 => (show False from h7).elim)).trans ((hF4 b9 (fun j9 h8 h7 => (show False from h7).elim)).trans ((hF3 b9 (fun j9 h8 h7 => (show False from h7).elim)).trans ((hF2 b9 (fun j9 h8 h7 => (show False from h7).elim)).trans ((hF1 b9 (fun j9 h8 h7 => (show False from h7).elim)).trans ((fset_fr hΦ1 (fun h8 => h9 (139) h8 (show (121 ≤ 139 ∧ 139 < 149) by decide))).trans rfl))))))))⟩
      · refine z_aload_n B dX0_take_44 rfl 0 rfl ?_
        have h_28 : Φ5 (x + 132) = some (o_ 2 [.ref (x + 3), .ref (x + 121), .ref (x + 133), .ref (x + 134), .ref (x + 135), .ref (x + 137), .ref (x + 138), .ref (x + 139), .ref (x + 140), .int (nI n_1), .int v_1, .int v_2]) := ((hF2 (x + 132) (fun j9 h8 h7 => (show False from h7).elim)).trans ((hF1 (x + 132) (fun j9 h8 h7 => (show False from h7).elim)).trans ((fset_fr hΦ1 (ne_off (x := x) (i := 132) (j := 139) rfl)).trans h_2)))
        refine z_get (ref := "FlowExporter$Collector") (C := RX0) (T := TX0) (N := 12) (ci := 2) (v := .ref (x + 139)) B hu_X0_take_X0 rfl 7 (Nat.le_of_ble_eq_true rfl) hv_X0_take_32 rfl h_28 rfl dX0_take_45 ?_
        refine z_iconst (v := 4) B dX0_take_48 rfl ?_
        refine z_dup2_11 B dX0_take_49 rfl rfl ?_
        obtain ⟨f_5, h_29⟩ := in28 (k := 139) hI5 rfl
        have h_30 : Φ5 (x + 139) = some (al_ G 9 f_5) := h_29
        refine z_lald B h_30 (vin rfl) dX0_take_50 ?_
        refine z_fl (fun v_21 => ?_)
        refine z_lconst (v := 1) B dX0_take_51 rfl ?_
        refine z_ladd B dX0_take_52 ?_
        refine z_fl (fun v_22 => ?_)
        refine z_last B h_30 (Nat.le_trans hx (Nat.le_add_right x 139)) (vin rfl) dX0_take_53 (fun Φ13 hΦ5 => ?_)
        have h_31 : Φ13 (x + 139) = some (al_ G 9 (vp_updL f_5 (4 : Int32).toNatClampNeg v_22)) := fset_at hΦ5
        have hI13 : In G x (ca) Φ13 := In.put (k := 139) hI5 hΦ5 (ok28 (k := 139) rfl ⟨_, rfl⟩)
        refine z_iconst (v := 0) B dX0_take_54 rfl ?_
        exact z_ret_i B dX0_take_55 ⟨⟨_, rfl⟩, rfl, (In.mono hI13 (by omega)), (fun b9 h9 => ((fset_fr hΦ5 (fun h8 => h9 (139) h8 (show (121 ≤ 139 ∧ 139 < 149) by decide))).trans ((hF2 b9 (fun j9 h8 h7 => (show False from h7).elim)).trans ((hF1 b9 (fun j9 h8 h7 => (show False from h7).elim)).trans ((fset_fr hΦ1 (fun h8 => h9 (139) h8 (show (121 ≤ 139 ∧ 139 < 149) by decide))).trans rfl)))))⟩

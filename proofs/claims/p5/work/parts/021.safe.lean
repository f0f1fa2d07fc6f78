set_option maxRecDepth 20000 in
theorem ggX0_take_X5_intAt : GoodIn wsX0_take wsX5_intAt := goodIn_ca ((goodIn_ca (goodIn_r _ [11, 12, 13, 14, 10, 15, 16, 17] rfl (by decide +kernel)) (goodIn_sub (fun _ h => List.mem_cons_of_mem _ (List.mem_append_left _ (List.mem_append_left _ (List.mem_append_left _ (List.mem_append_left _ (List.mem_append_right _ h)))))) gw_wsX50))) (goodIn_sub (fun _ h => List.mem_cons_of_mem _ (List.mem_append_right _ h)) (all_fg _))
set_option maxRecDepth 20000 in
theorem gX0_take_X5_intAt : GoodIn wsX0_take (wsV RX0 92 RX5 yX5_intAt wsX5_intAt) := goodIn_app (goodIn_of _ (by decide +kernel)) ggX0_take_X5_intAt
set_option maxRecDepth 20000 in
theorem ggX0_take_X0_isRecent : GoodIn wsX0_take wsX0_isRecent := goodIn_ca ((goodIn_ca (goodIn_r _ [22, 23, 24, 25] rfl (by decide +kernel)) (goodIn_sub (fun _ h => List.mem_cons_of_mem _ (List.mem_append_left _ (List.mem_append_left _ (List.mem_append_left _ (List.mem_append_left _ (List.mem_append_left _ (List.mem_append_right _ h))))))) gw_wsX00))) (goodIn_sub (fun _ h => List.mem_cons_of_mem _ (List.mem_append_right _ h)) (all_fg _))
set_option maxRecDepth 20000 in
theorem gX0_take_X0_isRecent : GoodIn wsX0_take (wsV RX0 95 RX0 yX0_isRecent wsX0_isRecent) := goodIn_app (goodIn_of _ (by decide +kernel)) ggX0_take_X0_isRecent
set_option maxRecDepth 20000 in
theorem ggX0_take_X0_account : GoodIn wsX0_take wsX0_account := goodIn_ca ((goodIn_ca (goodIn_r _ [29, 30, 31, 1, 32, 33, 5, 34, 23, 24, 25, 35, 36, 37, 21, 38] rfl (by decide +kernel)) (goodIn_sub (fun _ h => List.mem_cons_of_mem _ (List.mem_append_left _ (List.mem_append_left _ (List.mem_append_left _ (List.mem_append_left _ (List.mem_append_left _ (List.mem_append_right _ h))))))) gw_wsX00))) (goodIn_sub (fun _ h => List.mem_cons_of_mem _ (List.mem_append_right _ h)) (all_fg _))
set_option maxRecDepth 20000 in
theorem gX0_take_X0_account : GoodIn wsX0_take (wsV RX0 103 RX0 yX0_account wsX0_account) := goodIn_app (goodIn_of _ (by decide +kernel)) ggX0_take_X0_account
set_option maxRecDepth 20000 in
theorem ggX0_take_X0_readSets : GoodIn wsX0_take wsX0_readSets := goodIn_ca ((goodIn_ca (goodIn_ca (goodIn_ca (goodIn_ca (goodIn_ca (goodIn_r _ [42, 2, 1, 7, 8, 9, 10, 11, 12, 13, 14, 15, 16, 17, 43, 44, 45, 21, 46, 47, 48, 49, 50, 51, 52, 53, 54, 55, 56, 57, 58, 59, 60, 61, 62, 63, 64, 65, 66, 67, 68, 69, 70, 71, 72, 73, 74, 75, 76, 77, 78, 79, 80, 81, 82, 83, 84, 85, 86, 87, 88, 89, 90, 91, 92, 93, 94, 95, 96, 97, 98, 99, 100, 101, 102, 103, 104, 105, 106, 107, 108, 109, 110, 111, 112, 113, 114, 115, 116, 117, 118, 119, 120, 121, 122, 123, 124, 125, 126, 127, 128, 129, 130, 131, 132, 133, 134, 135, 136, 137, 138, 139, 140, 141, 142, 143, 144, 145, 146, 5, 147, 148, 149, 150, 151] rfl (by decide +kernel)) (goodIn_sub (fun _ h => List.mem_cons_of_mem _ (List.mem_append_left _ (List.mem_append_left _ (List.mem_append_left _ (List.mem_append_left _ (List.mem_append_right _ h)))))) gw_wsX50)) (goodIn_sub (fun _ h => List.mem_cons_of_mem _ (List.mem_append_left _ (List.mem_append_left _ (List.mem_append_left _ (List.mem_append_left _ (List.mem_append_left _ (List.mem_append_right _ h))))))) gw_wsX00)) (goodIn_sub (fun _ h => List.mem_cons_of_mem _ (List.mem_append_left _ (List.mem_append_left _ (List.mem_append_left _ (List.mem_append_right _ h))))) gw_wsX100)) (goodIn_sub (fun _ h => List.mem_cons_of_mem _ (List.mem_append_left _ (List.mem_append_left _ (List.mem_append_right _ h)))) gw_wsX10)) (goodIn_sub (fun _ h => List.mem_cons_of_mem _ (List.mem_append_left _ (List.mem_append_right _ h))) gw_wsX90))) (goodIn_sub (fun _ h => List.mem_cons_of_mem _ (List.mem_append_right _ h)) (all_fg _))
set_option maxRecDepth 20000 in
theorem gX0_take_X0_readSets : GoodIn wsX0_take (wsV RX0 107 RX0 yX0_readSets wsX0_readSets) := goodIn_app (goodIn_of _ (by decide +kernel)) ggX0_take_X0_readSets
theorem dX0_take_0 : decode cX0_take 0 = .ok (.aload_n 0, 1) := by decide +kernel
theorem dX0_take_1 : decode cX0_take 1 = .ok (.getfield 32, 3) := by decide +kernel
theorem dX0_take_4 : decode cX0_take 4 = .ok (.bipush 8, 2) := by decide +kernel
theorem dX0_take_6 : decode cX0_take 6 = .ok (.dup2, 1) := by decide +kernel
theorem dX0_take_7 : decode cX0_take 7 = .ok (.laload, 1) := by decide +kernel
theorem dX0_take_8 : decode cX0_take 8 = .ok (.lconst 1, 1) := by decide +kernel
theorem dX0_take_9 : decode cX0_take 9 = .ok (.ladd, 1) := by decide +kernel
theorem dX0_take_10 : decode cX0_take 10 = .ok (.lastore, 1) := by decide +kernel
theorem dX0_take_11 : decode cX0_take 11 = .ok (.aload_n 1, 1) := by decide +kernel
theorem dX0_take_12 : decode cX0_take 12 = .ok (.getfield 87, 3) := by decide +kernel
theorem dX0_take_15 : decode cX0_take 15 = .ok (.bipush 16, 2) := by decide +kernel
theorem dX0_take_17 : decode cX0_take 17 = .ok (.if_icmp .lt 27, 3) := by decide +kernel
theorem dX0_take_20 : decode cX0_take 20 = .ok (.aload_n 1, 1) := by decide +kernel
theorem dX0_take_21 : decode cX0_take 21 = .ok (.iconst 0, 1) := by decide +kernel
theorem dX0_take_22 : decode cX0_take 22 = .ok (.iconst 2, 1) := by decide +kernel
theorem dX0_take_23 : decode cX0_take 23 = .ok (.invokevirtual 92, 3) := by decide +kernel
theorem dX0_take_26 : decode cX0_take 26 = .ok (.bipush 10, 2) := by decide +kernel
theorem dX0_take_28 : decode cX0_take 28 = .ok (.if_icmp .ne 16, 3) := by decide +kernel
theorem dX0_take_31 : decode cX0_take 31 = .ok (.aload_n 1, 1) := by decide +kernel
theorem dX0_take_32 : decode cX0_take 32 = .ok (.iconst 2, 1) := by decide +kernel
theorem dX0_take_33 : decode cX0_take 33 = .ok (.iconst 2, 1) := by decide +kernel
theorem dX0_take_34 : decode cX0_take 34 = .ok (.invokevirtual 92, 3) := by decide +kernel
theorem dX0_take_37 : decode cX0_take 37 = .ok (.aload_n 1, 1) := by decide +kernel
theorem dX0_take_38 : decode cX0_take 38 = .ok (.getfield 87, 3) := by decide +kernel
theorem dX0_take_41 : decode cX0_take 41 = .ok (.if_icmp .eq 15, 3) := by decide +kernel
theorem dX0_take_44 : decode cX0_take 44 = .ok (.aload_n 0, 1) := by decide +kernel
theorem dX0_take_45 : decode cX0_take 45 = .ok (.getfield 32, 3) := by decide +kernel
theorem dX0_take_48 : decode cX0_take 48 = .ok (.iconst 4, 1) := by decide +kernel
theorem dX0_take_49 : decode cX0_take 49 = .ok (.dup2, 1) := by decide +kernel
theorem dX0_take_50 : decode cX0_take 50 = .ok (.laload, 1) := by decide +kernel
theorem dX0_take_51 : decode cX0_take 51 = .ok (.lconst 1, 1) := by decide +kernel
theorem dX0_take_52 : decode cX0_take 52 = .ok (.ladd, 1) := by decide +kernel
theorem dX0_take_53 : decode cX0_take 53 = .ok (.lastore, 1) := by decide +kernel
theorem dX0_take_54 : decode cX0_take 54 = .ok (.iconst 0, 1) := by decide +kernel
theorem dX0_take_55 : decode cX0_take 55 = .ok (.ireturn, 1) := by decide +kernel
theorem dX0_take_56 : decode cX0_take 56 = .ok (.aload_n 1, 1) := by decide +kernel
theorem dX0_take_57 : decode cX0_take 57 = .ok (.iconst 4, 1) := by decide +kernel
theorem dX0_take_58 : decode cX0_take 58 = .ok (.iconst 4, 1) := by decide +kernel
theorem dX0_take_59 : decode cX0_take 59 = .ok (.invokevirtual 92, 3) := by decide +kernel
theorem dX0_take_62 : decode cX0_take 62 = .ok (.istore_n 3, 1) := by decide +kernel
theorem dX0_take_63 : decode cX0_take 63 = .ok (.aload_n 1, 1) := by decide +kernel
theorem dX0_take_64 : decode cX0_take 64 = .ok (.bipush 8, 2) := by decide +kernel
theorem dX0_take_66 : decode cX0_take 66 = .ok (.iconst 4, 1) := by decide +kernel
theorem dX0_take_67 : decode cX0_take 67 = .ok (.invokevirtual 92, 3) := by decide +kernel
theorem dX0_take_70 : decode cX0_take 70 = .ok (.istore 4, 2) := by decide +kernel
theorem dX0_take_72 : decode cX0_take 72 = .ok (.aload_n 0, 1) := by decide +kernel
theorem dX0_take_73 : decode cX0_take 73 = .ok (.iload 4, 2) := by decide +kernel
theorem dX0_take_75 : decode cX0_take 75 = .ok (.iload_n 3, 1) := by decide +kernel
theorem dX0_take_76 : decode cX0_take 76 = .ok (.invokevirtual 95, 3) := by decide +kernel
theorem dX0_take_79 : decode cX0_take 79 = .ok (.ifCond .eq 15, 3) := by decide +kernel
theorem dX0_take_82 : decode cX0_take 82 = .ok (.aload_n 0, 1) := by decide +kernel
theorem dX0_take_83 : decode cX0_take 83 = .ok (.getfield 32, 3) := by decide +kernel
theorem dX0_take_86 : decode cX0_take 86 = .ok (.iconst 2, 1) := by decide +kernel
theorem dX0_take_87 : decode cX0_take 87 = .ok (.dup2, 1) := by decide +kernel
theorem dX0_take_88 : decode cX0_take 88 = .ok (.laload, 1) := by decide +kernel
theorem dX0_take_89 : decode cX0_take 89 = .ok (.lconst 1, 1) := by decide +kernel
theorem dX0_take_90 : decode cX0_take 90 = .ok (.ladd, 1) := by decide +kernel
theorem dX0_take_91 : decode cX0_take 91 = .ok (.lastore, 1) := by decide +kernel
theorem dX0_take_92 : decode cX0_take 92 = .ok (.iconst 0, 1) := by decide +kernel
theorem dX0_take_93 : decode cX0_take 93 = .ok (.ireturn, 1) := by decide +kernel
theorem dX0_take_94 : decode cX0_take 94 = .ok (.aload_n 0, 1) := by decide +kernel
theorem dX0_take_95 : decode cX0_take 95 = .ok (.iload 4, 2) := by decide +kernel
theorem dX0_take_97 : decode cX0_take 97 = .ok (.iload_n 3, 1) := by decide +kernel
theorem dX0_take_98 : decode cX0_take 98 = .ok (.iconst 0, 1) := by decide +kernel
theorem dX0_take_99 : decode cX0_take 99 = .ok (.aload_n 1, 1) := by decide +kernel
theorem dX0_take_100 : decode cX0_take 100 = .ok (.bipush 12, 2) := by decide +kernel
theorem dX0_take_102 : decode cX0_take 102 = .ok (.iconst 4, 1) := by decide +kernel
theorem dX0_take_103 : decode cX0_take 103 = .ok (.invokevirtual 92, 3) := by decide +kernel
theorem dX0_take_106 : decode cX0_take 106 = .ok (.invokestatic 98, 3) := by decide +kernel
theorem dX0_take_109 : decode cX0_take 109 = .ok (.invokevirtual 103, 3) := by decide +kernel
theorem dX0_take_112 : decode cX0_take 112 = .ok (.aload_n 0, 1) := by decide +kernel
theorem dX0_take_113 : decode cX0_take 113 = .ok (.aload_n 1, 1) := by decide +kernel
theorem dX0_take_114 : decode cX0_take 114 = .ok (.iload_n 2, 1) := by decide +kernel
theorem dX0_take_115 : decode cX0_take 115 = .ok (.invokevirtual 107, 3) := by decide +kernel
theorem dX0_take_118 : decode cX0_take 118 = .ok (.ireturn, 1) := by decide +kernel
set_option maxRecDepth 20000 in
theorem ggX0_readSets_X5_intAt : GoodIn wsX0_readSets wsX5_intAt := goodIn_ca ((goodIn_ca (goodIn_r _ [7, 8, 9, 10, 6, 11, 12, 13] rfl (by decide +kernel)) (goodIn_sub (fun _ h => List.mem_cons_of_mem _ (List.mem_append_left _ (List.mem_append_left _ (List.mem_append_left _ (List.mem_append_left _ (List.mem_append_left _ (List.mem_append_right _ h))))))) gw_wsX50))) (goodIn_sub (fun _ h => List.mem_cons_of_mem _ (List.mem_append_right _ h)) (all_fg _))
set_option maxRecDepth 20000 in
theorem gX0_readSets_X5_intAt : GoodIn wsX0_readSets (wsV RX0 92 RX5 yX5_intAt wsX5_intAt) := goodIn_app (goodIn_of _ (by decide +kernel)) ggX0_readSets_X5_intAt
set_option maxRecDepth 20000 in
theorem ggX0_readSets_X0_readTemplates : GoodIn wsX0_readSets wsX0_readTemplates := goodIn_ca ((goodIn_ca (goodIn_ca (goodIn_ca (goodIn_r _ [18, 19, 20, 21, 3, 4, 5, 6, 7, 8, 9, 10, 11, 12, 13, 22, 23, 24, 17, 25, 26, 27, 28, 29, 30, 31, 32, 33, 34, 35, 36, 37, 38, 39, 40, 41, 42, 43, 44, 45, 46, 47, 48, 49, 50, 51, 52, 53, 54, 55, 56, 57] rfl (by decide +kernel)) (goodIn_sub (fun _ h => List.mem_cons_of_mem _ (List.mem_append_left _ (List.mem_append_left _ (List.mem_append_left _ (List.mem_append_left _ (List.mem_append_right _ h)))))) gw_wsX00)) (goodIn_sub (fun _ h => List.mem_cons_of_mem _ (List.mem_append_left _ (List.mem_append_left _ (List.mem_append_left _ (List.mem_append_left _ (List.mem_append_left _ (List.mem_append_right _ h))))))) gw_wsX50)) (goodIn_sub (fun _ h => List.mem_cons_of_mem _ (List.mem_append_left _ (List.mem_append_left _ (List.mem_append_left _ (List.mem_append_right _ h))))) gw_wsX100))) (goodIn_sub (fun _ h => List.mem_cons_of_mem _ (List.mem_append_right _ h)) (all_fg _))
set_option maxRecDepth 20000 in
theorem gX0_readSets_X0_readTemplates : GoodIn wsX0_readSets (wsV RX0 118 RX0 yX0_readTemplates wsX0_readTemplates) := goodIn_app (goodIn_of _ (by decide +kernel)) ggX0_readSets_X0_readTemplates
set_option maxRecDepth 20000 in
theorem ggX0_readSets_X0_readData : GoodIn wsX0_readSets wsX0_readData := goodIn_ca ((goodIn_ca (goodIn_ca (goodIn_ca (goodIn_ca (goodIn_ca (goodIn_r _ [61, 2, 19, 62, 63, 64, 65, 17, 66, 67, 68, 69, 70, 71, 26, 21, 72, 73, 74, 75, 76, 77, 78, 79, 80, 81, 82, 83, 84, 85, 86, 87, 88, 54, 55, 30, 56, 32, 47, 89, 9, 10, 6, 11, 12, 13, 90, 91, 92, 93, 94, 95, 96, 97, 98, 99, 100, 101, 102, 103, 104, 105, 106, 107, 108, 109, 110, 111, 112, 113, 114, 115, 116, 117, 118, 119, 120, 121, 122, 123, 124] rfl (by decide +kernel)) (goodIn_sub (fun _ h => List.mem_cons_of_mem _ (List.mem_append_left _ (List.mem_append_left _ (List.mem_append_left _ (List.mem_append_left _ (List.mem_append_right _ h)))))) gw_wsX00)) (goodIn_sub (fun _ h => List.mem_cons_of_mem _ (List.mem_append_left _ (List.mem_append_left _ (List.mem_append_left _ (List.mem_append_right _ h))))) gw_wsX100)) (goodIn_sub (fun _ h => List.mem_cons_of_mem _ (List.mem_append_left _ (List.mem_append_left _ (List.mem_append_right _ h)))) gw_wsX10)) (goodIn_sub (fun _ h => List.mem_cons_of_mem _ (List.mem_append_left _ (List.mem_append_left _ (List.mem_append_left _ (List.mem_append_left _ (List.mem_append_left _ (List.mem_append_right _ h))))))) gw_wsX50)) (goodIn_sub (fun _ h => List.mem_cons_of_mem _ (List.mem_append_left _ (List.mem_append_right _ h))) gw_wsX90))) (goodIn_sub (fun _ h => List.mem_cons_of_mem _ (List.mem_append_right _ h)) (all_fg _))
set_option maxRecDepth 20000 in
theorem gX0_readSets_X0_readData : GoodIn wsX0_readSets (wsV RX0 122 RX0 yX0_readData wsX0_readData) := goodIn_app (goodIn_of _ (by decide +kernel)) ggX0_readSets_X0_readData
theorem dX0_readSets_0 : decode cX0_readSets 0 = .ok (.iconst 0, 1) := by decide +kernel
theorem dX0_readSets_1 : decode cX0_readSets 1 = .ok (.istore_n 3, 1) := by decide +kernel
theorem dX0_readSets_2 : decode cX0_readSets 2 = .ok (.bipush 16, 2) := by decide +kernel
theorem dX0_readSets_4 : decode cX0_readSets 4 = .ok (.istore 4, 2) := by decide +kernel
theorem dX0_readSets_6 : decode cX0_readSets 6 = .ok (.iconst 0, 1) := by decide +kernel
theorem dX0_readSets_7 : decode cX0_readSets 7 = .ok (.istore 5, 2) := by decide +kernel
theorem dX0_readSets_9 : decode cX0_readSets 9 = .ok (.iload 5, 2) := by decide +kernel
theorem dX0_readSets_11 : decode cX0_readSets 11 = .ok (.sipush 700, 3) := by decide +kernel
theorem dX0_readSets_14 : decode cX0_readSets 14 = .ok (.if_icmp .gt 149, 3) := by decide +kernel
theorem dX0_readSets_17 : decode cX0_readSets 17 = .ok (.iload 4, 2) := by decide +kernel
theorem dX0_readSets_19 : decode cX0_readSets 19 = .ok (.aload_n 1, 1) := by decide +kernel
theorem dX0_readSets_20 : decode cX0_readSets 20 = .ok (.getfield 87, 3) := by decide +kernel
theorem dX0_readSets_23 : decode cX0_readSets 23 = .ok (.if_icmp .ge 140, 3) := by decide +kernel
theorem dX0_readSets_26 : decode cX0_readSets 26 = .ok (.aload_n 1, 1) := by decide +kernel
theorem dX0_readSets_27 : decode cX0_readSets 27 = .ok (.getfield 87, 3) := by decide +kernel
theorem dX0_readSets_30 : decode cX0_readSets 30 = .ok (.iload 4, 2) := by decide +kernel
theorem dX0_readSets_32 : decode cX0_readSets 32 = .ok (.isub, 1) := by decide +kernel
theorem dX0_readSets_33 : decode cX0_readSets 33 = .ok (.istore 6, 2) := by decide +kernel
theorem dX0_readSets_35 : decode cX0_readSets 35 = .ok (.iload 6, 2) := by decide +kernel
theorem dX0_readSets_37 : decode cX0_readSets 37 = .ok (.iconst 4, 1) := by decide +kernel
theorem dX0_readSets_38 : decode cX0_readSets 38 = .ok (.if_icmp .ge 7, 3) := by decide +kernel
theorem dX0_readSets_41 : decode cX0_readSets 41 = .ok (.iconst 0, 1) := by decide +kernel
theorem dX0_readSets_42 : decode cX0_readSets 42 = .ok (.goto 12, 3) := by decide +kernel
theorem dX0_readSets_45 : decode cX0_readSets 45 = .ok (.aload_n 1, 1) := by decide +kernel
theorem dX0_readSets_46 : decode cX0_readSets 46 = .ok (.iload 4, 2) := by decide +kernel
theorem dX0_readSets_48 : decode cX0_readSets 48 = .ok (.iconst 2, 1) := by decide +kernel
theorem dX0_readSets_49 : decode cX0_readSets 49 = .ok (.iadd, 1) := by decide +kernel
theorem dX0_readSets_50 : decode cX0_readSets 50 = .ok (.iconst 2, 1) := by decide +kernel
theorem dX0_readSets_51 : decode cX0_readSets 51 = .ok (.invokevirtual 92, 3) := by decide +kernel
theorem dX0_readSets_54 : decode cX0_readSets 54 = .ok (.istore 7, 2) := by decide +kernel
theorem dX0_readSets_56 : decode cX0_readSets 56 = .ok (.iload 7, 2) := by decide +kernel
theorem dX0_readSets_58 : decode cX0_readSets 58 = .ok (.iconst 4, 1) := by decide +kernel
theorem dX0_readSets_59 : decode cX0_readSets 59 = .ok (.if_icmp .lt 10, 3) := by decide +kernel
theorem dX0_readSets_62 : decode cX0_readSets 62 = .ok (.iload 7, 2) := by decide +kernel
theorem dX0_readSets_64 : decode cX0_readSets 64 = .ok (.iload 6, 2) := by decide +kernel
theorem dX0_readSets_66 : decode cX0_readSets 66 = .ok (.if_icmp .le 15, 3) := by decide +kernel
theorem dX0_readSets_69 : decode cX0_readSets 69 = .ok (.aload_n 0, 1) := by decide +kernel
theorem dX0_readSets_70 : decode cX0_readSets 70 = .ok (.getfield 32, 3) := by decide +kernel
theorem dX0_readSets_73 : decode cX0_readSets 73 = .ok (.iconst 4, 1) := by decide +kernel
theorem dX0_readSets_74 : decode cX0_readSets 74 = .ok (.dup2, 1) := by decide +kernel
theorem dX0_readSets_75 : decode cX0_readSets 75 = .ok (.laload, 1) := by decide +kernel
theorem dX0_readSets_76 : decode cX0_readSets 76 = .ok (.lconst 1, 1) := by decide +kernel
theorem dX0_readSets_77 : decode cX0_readSets 77 = .ok (.ladd, 1) := by decide +kernel
theorem dX0_readSets_78 : decode cX0_readSets 78 = .ok (.lastore, 1) := by decide +kernel
theorem dX0_readSets_79 : decode cX0_readSets 79 = .ok (.iload_n 3, 1) := by decide +kernel
theorem dX0_readSets_80 : decode cX0_readSets 80 = .ok (.ireturn, 1) := by decide +kernel
theorem dX0_readSets_81 : decode cX0_readSets 81 = .ok (.aload_n 1, 1) := by decide +kernel
theorem dX0_readSets_82 : decode cX0_readSets 82 = .ok (.iload 4, 2) := by decide +kernel
theorem dX0_readSets_84 : decode cX0_readSets 84 = .ok (.iconst 2, 1) := by decide +kernel
theorem dX0_readSets_85 : decode cX0_readSets 85 = .ok (.invokevirtual 92, 3) := by decide +kernel
theorem dX0_readSets_88 : decode cX0_readSets 88 = .ok (.istore 8, 2) := by decide +kernel
theorem dX0_readSets_90 : decode cX0_readSets 90 = .ok (.iload 4, 2) := by decide +kernel
theorem dX0_readSets_92 : decode cX0_readSets 92 = .ok (.iconst 4, 1) := by decide +kernel
theorem dX0_readSets_93 : decode cX0_readSets 93 = .ok (.iadd, 1) := by decide +kernel
theorem dX0_readSets_94 : decode cX0_readSets 94 = .ok (.istore 9, 2) := by decide +kernel
theorem dX0_readSets_96 : decode cX0_readSets 96 = .ok (.iload 4, 2) := by decide +kernel
theorem dX0_readSets_98 : decode cX0_readSets 98 = .ok (.iload 7, 2) := by decide +kernel
theorem dX0_readSets_100 : decode cX0_readSets 100 = .ok (.iadd, 1) := by decide +kernel
theorem dX0_readSets_101 : decode cX0_readSets 101 = .ok (.istore 4, 2) := by decide +kernel
theorem dX0_readSets_103 : decode cX0_readSets 103 = .ok (.iload 8, 2) := by decide +kernel
theorem dX0_readSets_105 : decode cX0_readSets 105 = .ok (.iconst 2, 1) := by decide +kernel
theorem dX0_readSets_106 : decode cX0_readSets 106 = .ok (.if_icmp .ne 16, 3) := by decide +kernel
theorem dX0_readSets_109 : decode cX0_readSets 109 = .ok (.aload_n 0, 1) := by decide +kernel
theorem dX0_readSets_110 : decode cX0_readSets 110 = .ok (.aload_n 1, 1) := by decide +kernel
theorem dX0_readSets_111 : decode cX0_readSets 111 = .ok (.iload 9, 2) := by decide +kernel
theorem dX0_readSets_113 : decode cX0_readSets 113 = .ok (.iload 4, 2) := by decide +kernel
theorem dX0_readSets_115 : decode cX0_readSets 115 = .ok (.iload_n 2, 1) := by decide +kernel
theorem dX0_readSets_116 : decode cX0_readSets 116 = .ok (.invokevirtual 118, 3) := by decide +kernel
theorem dX0_readSets_119 : decode cX0_readSets 119 = .ok (.goto 38, 3) := by decide +kernel
theorem dX0_readSets_122 : decode cX0_readSets 122 = .ok (.iload 8, 2) := by decide +kernel
theorem dX0_readSets_124 : decode cX0_readSets 124 = .ok (.sipush 256, 3) := by decide +kernel
theorem dX0_readSets_127 : decode cX0_readSets 127 = .ok (.if_icmp .lt 30, 3) := by decide +kernel
theorem dX0_readSets_130 : decode cX0_readSets 130 = .ok (.iload 8, 2) := by decide +kernel
theorem dX0_readSets_132 : decode cX0_readSets 132 = .ok (.sipush 260, 3) := by decide +kernel
theorem dX0_readSets_135 : decode cX0_readSets 135 = .ok (.if_icmp .ge 22, 3) := by decide +kernel
theorem dX0_readSets_138 : decode cX0_readSets 138 = .ok (.iload_n 3, 1) := by decide +kernel
theorem dX0_readSets_139 : decode cX0_readSets 139 = .ok (.aload_n 0, 1) := by decide +kernel
theorem dX0_readSets_140 : decode cX0_readSets 140 = .ok (.aload_n 1, 1) := by decide +kernel
theorem dX0_readSets_141 : decode cX0_readSets 141 = .ok (.iload 9, 2) := by decide +kernel
theorem dX0_readSets_143 : decode cX0_readSets 143 = .ok (.iload 4, 2) := by decide +kernel
theorem dX0_readSets_145 : decode cX0_readSets 145 = .ok (.iload 8, 2) := by decide +kernel
theorem dX0_readSets_147 : decode cX0_readSets 147 = .ok (.sipush 256, 3) := by decide +kernel
theorem dX0_readSets_150 : decode cX0_readSets 150 = .ok (.isub, 1) := by decide +kernel
theorem dX0_readSets_151 : decode cX0_readSets 151 = .ok (.iload_n 2, 1) := by decide +kernel
theorem dX0_readSets_152 : decode cX0_readSets 152 = .ok (.invokevirtual 122, 3) := by decide +kernel
theorem dX0_readSets_155 : decode cX0_readSets 155 = .ok (.iadd, 1) := by decide +kernel
theorem dX0_readSets_156 : decode cX0_readSets 156 = .ok (.istore_n 3, 1) := by decide +kernel
theorem dX0_readSets_157 : decode cX0_readSets 157 = .ok (.iinc 5 1, 3) := by decide +kernel
theorem dX0_readSets_160 : decode cX0_readSets 160 = .ok (.goto (-151), 3) := by decide +kernel
theorem dX0_readSets_163 : decode cX0_readSets 163 = .ok (.iload_n 3, 1) := by decide +kernel
theorem dX0_readSets_164 : decode cX0_readSets 164 = .ok (.ireturn, 1) := by decide +kernel
set_option maxRecDepth 20000 in
theorem ggX0_readData_X0_isUsable : GoodIn wsX0_readData wsX0_isUsable := goodIn_ca ((goodIn_ca (goodIn_ca (goodIn_ca (goodIn_r _ [8, 9, 10, 11, 12, 7, 13, 2, 14, 15, 16, 17, 18, 19, 20, 21] rfl (by decide +kernel)) (goodIn_sub (fun _ h => List.mem_cons_of_mem _ (List.mem_append_left _ (List.mem_append_left _ (List.mem_append_left _ (List.mem_append_left _ (List.mem_append_left _ (List.mem_append_right _ h))))))) gw_wsX00)) (goodIn_sub (fun _ h => List.mem_cons_of_mem _ (List.mem_append_left _ (List.mem_append_left _ (List.mem_append_left _ (List.mem_append_left _ (List.mem_append_right _ h)))))) gw_wsX100)) (goodIn_sub (fun _ h => List.mem_cons_of_mem _ (List.mem_append_left _ (List.mem_append_left _ (List.mem_append_left _ (List.mem_append_right _ h))))) gw_wsX10))) (goodIn_sub (fun _ h => List.mem_cons_of_mem _ (List.mem_append_right _ h)) (all_fg _))
set_option maxRecDepth 20000 in
theorem gX0_readData_X0_isUsable : GoodIn wsX0_readData (wsV RX0 83 RX0 yX0_isUsable wsX0_isUsable) := goodIn_app (goodIn_of _ (by decide +kernel)) ggX0_readData_X0_isUsable
set_option maxRecDepth 20000 in
theorem ggX0_readData_X0_decode : GoodIn wsX0_readData wsX0_decode := goodIn_ca ((goodIn_ca (goodIn_ca (goodIn_ca (goodIn_ca (goodIn_ca (goodIn_r _ [25, 26, 14, 27, 1, 9, 28, 29, 30, 31, 32, 33, 34, 35, 36, 37, 38, 39, 40, 41, 42, 43, 44, 45, 46, 47, 48, 49, 50, 51, 52, 53, 54, 55, 56, 57, 58, 59, 60, 61, 62, 63, 64, 65, 16, 17, 18, 19, 20, 21, 66, 67, 7, 68, 69, 70, 71, 72, 73, 74, 75, 76, 77, 78, 79, 80] rfl (by decide +kernel)) (goodIn_sub (fun _ h => List.mem_cons_of_mem _ (List.mem_append_left _ (List.mem_append_left _ (List.mem_append_left _ (List.mem_append_left _ (List.mem_append_left _ (List.mem_append_right _ h))))))) gw_wsX00)) (goodIn_sub (fun _ h => List.mem_cons_of_mem _ (List.mem_append_left _ (List.mem_append_left _ (List.mem_append_left _ (List.mem_append_left _ (List.mem_append_right _ h)))))) gw_wsX100)) (goodIn_sub (fun _ h => List.mem_cons_of_mem _ (List.mem_append_left _ (List.mem_append_left _ (List.mem_append_right _ h)))) gw_wsX50)) (goodIn_sub (fun _ h => List.mem_cons_of_mem _ (List.mem_append_left _ (List.mem_append_right _ h))) gw_wsX90)) (goodIn_sub (fun _ h => List.mem_cons_of_mem _ (List.mem_append_left _ (List.mem_append_left _ (List.mem_append_left _ (List.mem_append_right _ h))))) gw_wsX10))) (goodIn_sub (fun _ h => List.mem_cons_of_mem _ (List.mem_append_right _ h)) (all_fg _))
set_option maxRecDepth 20000 in
theorem gX0_readData_X0_decode : GoodIn wsX0_readData (wsV RX0 148 RX0 yX0_decode wsX0_decode) := goodIn_app (goodIn_of _ (by decide +kernel)) ggX0_readData_X0_decode
theorem dX0_readData_0 : decode cX0_readData 0 = .ok (.iload 4, 2) := by decide +kernel
theorem dX0_readData_2 : decode cX0_readData 2 = .ok (.ifCond .lt 20, 3) := by decide +kernel
theorem dX0_readData_5 : decode cX0_readData 5 = .ok (.iload 4, 2) := by decide +kernel
theorem dX0_readData_7 : decode cX0_readData 7 = .ok (.iconst 4, 1) := by decide +kernel
theorem dX0_readData_8 : decode cX0_readData 8 = .ok (.if_icmp .ge 14, 3) := by decide +kernel
theorem dX0_readData_11 : decode cX0_readData 11 = .ok (.aload_n 0, 1) := by decide +kernel
theorem dX0_readData_12 : decode cX0_readData 12 = .ok (.iload 4, 2) := by decide +kernel
theorem dX0_readData_14 : decode cX0_readData 14 = .ok (.iload 5, 2) := by decide +kernel
theorem dX0_readData_16 : decode cX0_readData 16 = .ok (.invokevirtual 83, 3) := by decide +kernel
theorem dX0_readData_19 : decode cX0_readData 19 = .ok (.ifCond .ne 15, 3) := by decide +kernel
theorem dX0_readData_22 : decode cX0_readData 22 = .ok (.aload_n 0, 1) := by decide +kernel
theorem dX0_readData_23 : decode cX0_readData 23 = .ok (.getfield 32, 3) := by decide +kernel
theorem dX0_readData_26 : decode cX0_readData 26 = .ok (.iconst 3, 1) := by decide +kernel
theorem dX0_readData_27 : decode cX0_readData 27 = .ok (.dup2, 1) := by decide +kernel
theorem dX0_readData_28 : decode cX0_readData 28 = .ok (.laload, 1) := by decide +kernel
theorem dX0_readData_29 : decode cX0_readData 29 = .ok (.lconst 1, 1) := by decide +kernel
theorem dX0_readData_30 : decode cX0_readData 30 = .ok (.ladd, 1) := by decide +kernel
theorem dX0_readData_31 : decode cX0_readData 31 = .ok (.lastore, 1) := by decide +kernel
theorem dX0_readData_32 : decode cX0_readData 32 = .ok (.iconst 0, 1) := by decide +kernel
theorem dX0_readData_33 : decode cX0_readData 33 = .ok (.ireturn, 1) := by decide +kernel
theorem dX0_readData_34 : decode cX0_readData 34 = .ok (.aload_n 0, 1) := by decide +kernel
theorem dX0_readData_35 : decode cX0_readData 35 = .ok (.getfield 11, 3) := by decide +kernel
theorem dX0_readData_38 : decode cX0_readData 38 = .ok (.iload 4, 2) := by decide +kernel
theorem dX0_readData_40 : decode cX0_readData 40 = .ok (.aaload, 1) := by decide +kernel
theorem dX0_readData_41 : decode cX0_readData 41 = .ok (.astore 6, 2) := by decide +kernel
theorem dX0_readData_43 : decode cX0_readData 43 = .ok (.iconst 0, 1) := by decide +kernel
theorem dX0_readData_44 : decode cX0_readData 44 = .ok (.istore 7, 2) := by decide +kernel
theorem dX0_readData_46 : decode cX0_readData 46 = .ok (.iload_n 2, 1) := by decide +kernel
theorem dX0_readData_47 : decode cX0_readData 47 = .ok (.istore 8, 2) := by decide +kernel
theorem dX0_readData_49 : decode cX0_readData 49 = .ok (.aload 6, 2) := by decide +kernel
theorem dX0_readData_51 : decode cX0_readData 51 = .ok (.getfield 145, 3) := by decide +kernel
theorem dX0_readData_54 : decode cX0_readData 54 = .ok (.ifCond .le 40, 3) := by decide +kernel
theorem dX0_readData_57 : decode cX0_readData 57 = .ok (.iload_n 3, 1) := by decide +kernel
theorem dX0_readData_58 : decode cX0_readData 58 = .ok (.iload 8, 2) := by decide +kernel
theorem dX0_readData_60 : decode cX0_readData 60 = .ok (.isub, 1) := by decide +kernel
theorem dX0_readData_61 : decode cX0_readData 61 = .ok (.aload 6, 2) := by decide +kernel
theorem dX0_readData_63 : decode cX0_readData 63 = .ok (.getfield 145, 3) := by decide +kernel
theorem dX0_readData_66 : decode cX0_readData 66 = .ok (.if_icmp .lt 28, 3) := by decide +kernel
theorem dX0_readData_69 : decode cX0_readData 69 = .ok (.aload_n 0, 1) := by decide +kernel
theorem dX0_readData_70 : decode cX0_readData 70 = .ok (.aload_n 1, 1) := by decide +kernel
theorem dX0_readData_71 : decode cX0_readData 71 = .ok (.iload 8, 2) := by decide +kernel
theorem dX0_readData_73 : decode cX0_readData 73 = .ok (.aload 6, 2) := by decide +kernel
theorem dX0_readData_75 : decode cX0_readData 75 = .ok (.invokevirtual 148, 3) := by decide +kernel
theorem dX0_readData_78 : decode cX0_readData 78 = .ok (.iinc 7 1, 3) := by decide +kernel
theorem dX0_readData_81 : decode cX0_readData 81 = .ok (.iload 8, 2) := by decide +kernel
theorem dX0_readData_83 : decode cX0_readData 83 = .ok (.aload 6, 2) := by decide +kernel
theorem dX0_readData_85 : decode cX0_readData 85 = .ok (.getfield 145, 3) := by decide +kernel
theorem dX0_readData_88 : decode cX0_readData 88 = .ok (.iadd, 1) := by decide +kernel
theorem dX0_readData_89 : decode cX0_readData 89 = .ok (.istore 8, 2) := by decide +kernel
theorem dX0_readData_91 : decode cX0_readData 91 = .ok (.goto (-42), 3) := by decide +kernel
theorem dX0_readData_94 : decode cX0_readData 94 = .ok (.aload_n 0, 1) := by decide +kernel
theorem dX0_readData_95 : decode cX0_readData 95 = .ok (.getfield 32, 3) := by decide +kernel
theorem dX0_readData_98 : decode cX0_readData 98 = .ok (.bipush 7, 2) := by decide +kernel
theorem dX0_readData_100 : decode cX0_readData 100 = .ok (.dup2, 1) := by decide +kernel
theorem dX0_readData_101 : decode cX0_readData 101 = .ok (.laload, 1) := by decide +kernel
theorem dX0_readData_102 : decode cX0_readData 102 = .ok (.iload 7, 2) := by decide +kernel
theorem dX0_readData_104 : decode cX0_readData 104 = .ok (.i2l, 1) := by decide +kernel
theorem dX0_readData_105 : decode cX0_readData 105 = .ok (.ladd, 1) := by decide +kernel
theorem dX0_readData_106 : decode cX0_readData 106 = .ok (.lastore, 1) := by decide +kernel
theorem dX0_readData_107 : decode cX0_readData 107 = .ok (.iload 7, 2) := by decide +kernel
theorem dX0_readData_109 : decode cX0_readData 109 = .ok (.ireturn, 1) := by decide +kernel
set_option maxRecDepth 20000 in
theorem ggX11_startAnew_X1_copyFrom : GoodIn wsX11_startAnew wsX1_copyFrom := goodIn_ca ((goodIn_ca (goodIn_ca (goodIn_r _ [14, 15, 16, 17, 18, 19, 20, 21, 22, 23, 24, 25, 26, 27, 28, 29, 30, 31, 32, 33, 34, 35, 36, 37, 38, 39, 40, 41, 42, 43, 44, 45, 46, 47, 13, 48, 49] rfl (by decide +kernel)) (goodIn_sub (fun _ h => List.mem_cons_of_mem _ (List.mem_append_left _ (List.mem_append_left _ (List.mem_append_left _ (List.mem_append_left _ (List.mem_append_left _ (List.mem_append_left _ (List.mem_append_left _ (List.mem_append_left _ (List.mem_append_right _ h)))))))))) gw_wsX10)) (goodIn_sub (fun _ h => List.mem_cons_of_mem _ (List.mem_append_left _ (List.mem_append_left _ (List.mem_append_left _ (List.mem_append_left _ (List.mem_append_left _ (List.mem_append_left _ (List.mem_append_left _ (List.mem_append_right _ h))))))))) gw_wsX100))) (goodIn_sub (fun _ h => List.mem_cons_of_mem _ (List.mem_append_right _ h)) (all_fg _))
set_option maxRecDepth 20000 in
theorem gX11_startAnew_X1_copyFrom : GoodIn wsX11_startAnew (wsV RX11 83 RX1 yX1_copyFrom wsX1_copyFrom) := goodIn_app (goodIn_of _ (by decide +kernel)) ggX11_startAnew_X1_copyFrom
set_option maxRecDepth 20000 in
theorem ggX11_startAnew_X7_clear : GoodIn wsX11_startAnew wsX7_clear := (goodIn_ca (goodIn_r _ [54, 55, 56] rfl (by decide +kernel)) (goodIn_sub (fun _ h => List.mem_cons_of_mem _ (List.mem_append_left _ (List.mem_append_left _ (List.mem_append_left _ (List.mem_append_left _ (List.mem_append_left _ (List.mem_append_left _ (List.mem_append_right _ h)))))))) gw_wsX70))
set_option maxRecDepth 20000 in
theorem gX11_startAnew_X7_clear : GoodIn wsX11_startAnew (wsV RX11 87 RX7 yX7_clear wsX7_clear) := goodIn_app (goodIn_of _ (by decide +kernel)) ggX11_startAnew_X7_clear
set_option maxRecDepth 20000 in
theorem ggX11_startAnew_X8_clear : GoodIn wsX11_startAnew wsX8_clear := (goodIn_ca (goodIn_ca (goodIn_r _ [61, 62, 63, 64, 65, 66, 60, 67, 68, 69, 70, 71, 72, 73, 74, 75, 76, 77, 78, 79, 80, 81, 82, 83, 84] rfl (by decide +kernel)) (goodIn_sub (fun _ h => List.mem_cons_of_mem _ (List.mem_append_left _ (List.mem_append_left _ (List.mem_append_left _ (List.mem_append_left _ (List.mem_append_left _ (List.mem_append_right _ h))))))) gw_wsX80)) (goodIn_sub (fun _ h => List.mem_cons_of_mem _ (List.mem_append_left _ (List.mem_append_left _ (List.mem_append_left _ (List.mem_append_left _ (List.mem_append_right _ h)))))) gw_wsX50))
set_option maxRecDepth 20000 in
theorem gX11_startAnew_X8_clear : GoodIn wsX11_startAnew (wsV RX11 90 RX8 yX8_clear wsX8_clear) := goodIn_app (goodIn_of _ (by decide +kernel)) ggX11_startAnew_X8_clear
set_option maxRecDepth 20000 in
theorem ggX11_startAnew_X2_clear : GoodIn wsX11_startAnew wsX2_clear := goodIn_ca ((goodIn_ca (goodIn_ca (goodIn_ca (goodIn_r _ [89, 90, 91, 92, 93, 94, 95, 96, 97, 98, 99, 100, 101, 102, 103, 104, 105, 13, 106, 15] rfl (by decide +kernel)) (goodIn_sub (fun _ h => List.mem_cons_of_mem _ (List.mem_append_left _ (List.mem_append_left _ (List.mem_append_left _ (List.mem_append_right _ h))))) gw_wsX20)) (goodIn_sub (fun _ h => List.mem_cons_of_mem _ (List.mem_append_left _ (List.mem_append_left _ (List.mem_append_right _ h)))) gw_wsX40)) (goodIn_sub (fun _ h => List.mem_cons_of_mem _ (List.mem_append_left _ (List.mem_append_left _ (List.mem_append_left _ (List.mem_append_left _ (List.mem_append_left _ (List.mem_append_left _ (List.mem_append_left _ (List.mem_append_left _ (List.mem_append_right _ h)))))))))) gw_wsX10))) (goodIn_sub (fun _ h => List.mem_cons_of_mem _ (List.mem_append_right _ h)) (all_fg _))
set_option maxRecDepth 20000 in
theorem gX11_startAnew_X2_clear : GoodIn wsX11_startAnew (wsV RX11 91 RX2 yX2_clear wsX2_clear) := goodIn_app (goodIn_of _ (by decide +kernel)) ggX11_startAnew_X2_clear
set_option maxRecDepth 20000 in
theorem ggX11_startAnew_X0_clear : GoodIn wsX11_startAnew wsX0_clear := (goodIn_ca (goodIn_ca (goodIn_r _ [111, 112, 113, 114, 83, 115, 116, 117, 118, 110, 119, 120, 121, 122, 123, 31, 32, 27, 33, 29, 34, 35] rfl (by decide +kernel)) (goodIn_sub (fun _ h => List.mem_cons_of_mem _ (List.mem_append_left _ (List.mem_append_right _ h))) gw_wsX00)) (goodIn_sub (fun _ h => List.mem_cons_of_mem _ (List.mem_append_left _ (List.mem_append_left _ (List.mem_append_left _ (List.mem_append_left _ (List.mem_append_left _ (List.mem_append_left _ (List.mem_append_left _ (List.mem_append_right _ h))))))))) gw_wsX100))
set_option maxRecDepth 20000 in
theorem gX11_startAnew_X0_clear : GoodIn wsX11_startAnew (wsV RX11 96 RX0 yX0_clear wsX0_clear) := goodIn_app (goodIn_of _ (by decide +kernel)) ggX11_startAnew_X0_clear
theorem dX11_startAnew_0 : decode cX11_startAnew 0 = .ok (.aload_n 0, 1) := by decide +kernel
theorem dX11_startAnew_1 : decode cX11_startAnew 1 = .ok (.getfield 21, 3) := by decide +kernel
theorem dX11_startAnew_4 : decode cX11_startAnew 4 = .ok (.aload_n 0, 1) := by decide +kernel
theorem dX11_startAnew_5 : decode cX11_startAnew 5 = .ok (.getfield 30, 3) := by decide +kernel
theorem dX11_startAnew_8 : decode cX11_startAnew 8 = .ok (.getfield 82, 3) := by decide +kernel
theorem dX11_startAnew_11 : decode cX11_startAnew 11 = .ok (.invokevirtual 83, 3) := by decide +kernel
theorem dX11_startAnew_14 : decode cX11_startAnew 14 = .ok (.aload_n 0, 1) := by decide +kernel
theorem dX11_startAnew_15 : decode cX11_startAnew 15 = .ok (.getfield 37, 3) := by decide +kernel
theorem dX11_startAnew_18 : decode cX11_startAnew 18 = .ok (.invokevirtual 87, 3) := by decide +kernel
theorem dX11_startAnew_21 : decode cX11_startAnew 21 = .ok (.aload_n 0, 1) := by decide +kernel
theorem dX11_startAnew_22 : decode cX11_startAnew 22 = .ok (.getfield 46, 3) := by decide +kernel
theorem dX11_startAnew_25 : decode cX11_startAnew 25 = .ok (.invokevirtual 90, 3) := by decide +kernel
theorem dX11_startAnew_28 : decode cX11_startAnew 28 = .ok (.aload_n 0, 1) := by decide +kernel
theorem dX11_startAnew_29 : decode cX11_startAnew 29 = .ok (.getfield 55, 3) := by decide +kernel
theorem dX11_startAnew_32 : decode cX11_startAnew 32 = .ok (.invokevirtual 91, 3) := by decide +kernel
theorem dX11_startAnew_35 : decode cX11_startAnew 35 = .ok (.aload_n 0, 1) := by decide +kernel
theorem dX11_startAnew_36 : decode cX11_startAnew 36 = .ok (.getfield 62, 3) := by decide +kernel
theorem dX11_startAnew_39 : decode cX11_startAnew 39 = .ok (.iconst 0, 1) := by decide +kernel
theorem dX11_startAnew_40 : decode cX11_startAnew 40 = .ok (.putfield 92, 3) := by decide +kernel
theorem dX11_startAnew_43 : decode cX11_startAnew 43 = .ok (.aload_n 0, 1) := by decide +kernel
theorem dX11_startAnew_44 : decode cX11_startAnew 44 = .ok (.getfield 71, 3) := by decide +kernel
theorem dX11_startAnew_47 : decode cX11_startAnew 47 = .ok (.invokevirtual 96, 3) := by decide +kernel
theorem dX11_startAnew_50 : decode cX11_startAnew 50 = .ok (.return_, 1) := by decide +kernel
theorem dX11_errorCode_0 : decode cX11_errorCode 0 = .ok (.aload_n 0, 1) := by decide +kernel
theorem dX11_errorCode_1 : decode cX11_errorCode 1 = .ok (.getfield 30, 3) := by decide +kernel
theorem dX11_errorCode_4 : decode cX11_errorCode 4 = .ok (.getfield 104, 3) := by decide +kernel
theorem dX11_errorCode_7 : decode cX11_errorCode 7 = .ok (.ireturn, 1) := by decide +kernel
theorem dX11_errorPosition_0 : decode cX11_errorPosition 0 = .ok (.aload_n 0, 1) := by decide +kernel
theorem dX11_errorPosition_1 : decode cX11_errorPosition 1 = .ok (.getfield 30, 3) := by decide +kernel
theorem dX11_errorPosition_4 : decode cX11_errorPosition 4 = .ok (.getfield 107, 3) := by decide +kernel
theorem dX11_errorPosition_7 : decode cX11_errorPosition 7 = .ok (.ireturn, 1) := by decide +kernel
theorem dX11_now_0 : decode cX11_now 0 = .ok (.aload_n 0, 1) := by decide +kernel
theorem dX11_now_1 : decode cX11_now 1 = .ok (.getfield 55, 3) := by decide +kernel
theorem dX11_now_4 : decode cX11_now 4 = .ok (.getfield 110, 3) := by decide +kernel
theorem dX11_now_7 : decode cX11_now 7 = .ok (.ireturn, 1) := by decide +kernel
set_option maxRecDepth 20000 in
theorem ggX11_flush_X2_exportAllAndSend : GoodIn wsX11_flush wsX2_exportAllAndSend := goodIn_ca (goodIn_ca ((goodIn_ca (goodIn_ca (goodIn_ca (goodIn_ca (goodIn_ca (goodIn_ca (goodIn_ca (goodIn_ca (goodIn_r _ [6, 7, 8, 9, 10, 11, 12, 13, 5, 14, 15, 16, 17, 18, 19, 20, 21, 22, 23, 24, 25, 26, 27, 28, 29, 30, 31, 32, 33, 34, 35, 36, 37, 38, 39, 40, 41, 42, 43, 44, 45, 46, 47, 48, 49, 50, 51, 52, 53, 54, 55, 56, 57, 58, 59, 60, 61, 62, 63, 64, 65, 66, 67, 68, 69, 70, 71, 72, 73, 74, 75, 76, 77, 78, 79, 80, 81, 82, 83, 84, 85, 86, 87, 88, 89, 90, 91, 92, 93, 94, 95, 96, 97, 98, 99, 100, 101, 102, 103, 104, 105, 106, 107, 108, 109, 110, 111, 112, 113, 114, 115, 116, 117, 118, 119, 120, 121, 122, 123, 124, 125, 126, 127, 128, 129, 130, 131, 132, 133, 134, 135, 136, 137, 138, 139, 140, 141, 142, 143, 144, 145, 146, 147, 148, 149, 150, 151, 152, 153, 154, 155, 156, 157, 158, 159, 160, 161, 162, 163, 164, 165, 166, 167, 168, 169, 170, 171, 172] rfl (by decide +kernel)) (goodIn_sub (fun _ h => List.mem_cons_of_mem _ (List.mem_append_left _ (List.mem_append_left _ (List.mem_append_left _ (List.mem_append_left _ (List.mem_append_left _ (List.mem_append_left _ (List.mem_append_left _ (List.mem_append_left _ (List.mem_append_left _ (List.mem_append_right _ h))))))))))) gw_wsX20)) (goodIn_sub (fun _ h => List.mem_cons_of_mem _ (List.mem_append_left _ (List.mem_append_left _ (List.mem_append_left _ (List.mem_append_left _ (List.mem_append_left _ (List.mem_append_left _ (List.mem_append_left _ (List.mem_append_left _ (List.mem_append_right _ h)))))))))) gw_wsX40)) (goodIn_sub (fun _ h => List.mem_cons_of_mem _ (List.mem_append_left _ (List.mem_append_left _ (List.mem_append_left _ (List.mem_append_left _ (List.mem_append_left _ (List.mem_append_left _ (List.mem_append_left _ (List.mem_append_right _ h))))))))) gw_wsX30)) (goodIn_sub (fun _ h => List.mem_cons_of_mem _ (List.mem_append_left _ (List.mem_append_left _ (List.mem_append_left _ (List.mem_append_left _ (List.mem_append_left _ (List.mem_append_left _ (List.mem_append_right _ h)))))))) gw_wsX100)) (goodIn_sub (fun _ h => List.mem_cons_of_mem _ (List.mem_append_left _ (List.mem_append_left _ (List.mem_append_left _ (List.mem_append_left _ (List.mem_append_left _ (List.mem_append_right _ h))))))) gw_wsX10)) (goodIn_sub (fun _ h => List.mem_cons_of_mem _ (List.mem_append_left _ (List.mem_append_left _ (List.mem_append_left _ (List.mem_append_left _ (List.mem_append_right _ h)))))) gw_wsX80)) (goodIn_sub (fun _ h => List.mem_cons_of_mem _ (List.mem_append_left _ (List.mem_append_left _ (List.mem_append_left _ (List.mem_append_right _ h))))) gw_wsX50)) (goodIn_sub (fun _ h => List.mem_cons_of_mem _ (List.mem_append_left _ (List.mem_append_left _ (List.mem_append_right _ h)))) gw_wsX70))) (goodIn_sub (fun _ h => List.mem_cons_of_mem _ (List.mem_append_left _ (List.mem_append_right _ h))) (all_fg _))) (goodIn_sub (fun _ h => List.mem_cons_of_mem _ (List.mem_append_right _ h)) (all_fg _))
set_option maxRecDepth 20000 in
theorem gX11_flush_X2_exportAllAndSend : GoodIn wsX11_flush (wsV RX11 143 RX2 yX2_exportAllAndSend wsX2_exportAllAndSend) := goodIn_app (goodIn_of _ (by decide +kernel)) ggX11_flush_X2_exportAllAndSend
theorem dX11_flush_0 : decode cX11_flush 0 = .ok (.aload_n 0, 1) := by decide +kernel
theorem dX11_flush_1 : decode cX11_flush 1 = .ok (.getfield 55, 3) := by decide +kernel
theorem dX11_flush_4 : decode cX11_flush 4 = .ok (.invokevirtual 143, 3) := by decide +kernel
theorem dX11_flush_7 : decode cX11_flush 7 = .ok (.ireturn, 1) := by decide +kernel
theorem dX11_cacheSize_0 : decode cX11_cacheSize 0 = .ok (.aload_n 0, 1) := by decide +kernel
theorem dX11_cacheSize_1 : decode cX11_cacheSize 1 = .ok (.getfield 55, 3) := by decide +kernel
theorem dX11_cacheSize_4 : decode cX11_cacheSize 4 = .ok (.getfield 146, 3) := by decide +kernel
theorem dX11_cacheSize_7 : decode cX11_cacheSize 7 = .ok (.getfield 150, 3) := by decide +kernel
theorem dX11_cacheSize_10 : decode cX11_cacheSize 10 = .ok (.ireturn, 1) := by decide +kernel
theorem dX11_rate_0 : decode cX11_rate 0 = .ok (.aload_n 0, 1) := by decide +kernel
theorem dX11_rate_1 : decode cX11_rate 1 = .ok (.getfield 55, 3) := by decide +kernel
theorem dX11_rate_4 : decode cX11_rate 4 = .ok (.getfield 164, 3) := by decide +kernel
theorem dX11_rate_7 : decode cX11_rate 7 = .ok (.ireturn, 1) := by decide +kernel
set_option maxRecDepth 20000 in
theorem ggX11_rateBits_X2_bitsOfInverse : GoodIn wsX11_rateBits wsX2_bitsOfInverse := goodIn_ca ((goodIn_r _ [6, 7] rfl (by decide +kernel))) (goodIn_sub (fun _ h => List.mem_cons_of_mem _ (List.mem_append_right _ h)) (all_fg _))
set_option maxRecDepth 20000 in
theorem gX11_rateBits_X2_bitsOfInverse : GoodIn wsX11_rateBits (va_wsS RX11 167 yX2_bitsOfInverse wsX2_bitsOfInverse) := goodIn_app (goodIn_of _ (by decide +kernel)) ggX11_rateBits_X2_bitsOfInverse
theorem dX11_rateBits_0 : decode cX11_rateBits 0 = .ok (.aload_n 0, 1) := by decide +kernel
theorem dX11_rateBits_1 : decode cX11_rateBits 1 = .ok (.getfield 55, 3) := by decide +kernel
theorem dX11_rateBits_4 : decode cX11_rateBits 4 = .ok (.getfield 164, 3) := by decide +kernel
theorem dX11_rateBits_7 : decode cX11_rateBits 7 = .ok (.invokestatic 167, 3) := by decide +kernel
theorem dX11_rateBits_10 : decode cX11_rateBits 10 = .ok (.ireturn, 1) := by decide +kernel
set_option maxHeartbeats 4000000 in
set_option maxRecDepth 100000 in
theorem s_X0_readData (G : EnvG) (l : Launch) (Φ : Hm) (sz x ca : Nat) (k : Nat) (a : Nat) (b : Nat) (d : Int32) (f : Int32) (hx : G.2.2.2 ≤ x) (hI : In G x ca Φ) (hk_k : kd k = 1) (hab : a ≤ b) (hb : b ≤ 700) : Ct G l yX0_readData wsX0_readData ({ frames := 3, cells := 0, slots := 0, locals := 75 }) 0 0 [.ref (x + 132), .ref (x + (k)), .int (nI a), .int (nI b), .int d, .int f] Φ sz (fun v Φ1 sz1 => (∃ r9 : Int32, v = some (.int r9)) ∧ sz1 = sz ∧ In G x (ca) Φ1 ∧ Fr x (fun j9 => (121 ≤ j9 ∧ j9 < 133) ∨ (139 ≤ j9 ∧ j9 < 141)) Φ Φ1) := by
  refine Ct.of (cc := cX0_readData) (maxL := 9) (ret := (some .int)) (by decide) rfl (Nat.le_of_ble_eq_true rfl) ?_
  intro p9 e9 s9 m9 w9 t9 k9 B
  show Z p9 l e9 _ s9 m9 _ w9 t9 k9 _ G 9 0 [(0, .ref (x + 132)), (1, .ref (x + (k))), (2, .int (nI a)), (3, .int (nI b)), (4, .int d), (5, .int f)] [] Φ sz 0 0
  refine z_iload B dX0_readData_0 4 rfl ?_
  refine z_if_lt (tgt := 22) B dX0_readData_2 rfl (fun c_1 => ?_) (fun c_1 => ?_)
  · refine z_aload_n B dX0_readData_22 rfl 0 rfl ?_
    obtain ⟨n_1, v_1, v_2, h_1, b_1⟩ := in25 (k := 132) hI rfl
    have h_2 : Φ (x + 132) = some (o_ 2 [.ref (x + 3), .ref (x + 121), .ref (x + 133), .ref (x + 134), .ref (x + 135), .ref (x + 137), .ref (x + 138), .ref (x + 139), .ref (x + 140), .int (nI n_1), .int v_1, .int v_2]) := h_1
    refine z_get (ref := "FlowExporter$Collector") (C := RX0) (T := TX0) (N := 12) (ci := 2) (v := .ref (x + 139)) B (by decide +kernel) rfl 7 (by decide) (by decide +kernel) rfl h_2 rfl dX0_readData_23 ?_
    refine z_iconst (v := 3) B dX0_readData_26 rfl ?_
    refine z_dup2_11 B dX0_readData_27 rfl rfl ?_
    obtain ⟨f_1, h_3⟩ := in28 (k := 139) hI rfl
    have h_4 : Φ (x + 139) = some (al_ G 9 f_1) := h_3
    refine z_lald B h_4 (vin rfl) dX0_readData_28 ?_
    refine z_fl (fun v_3 => ?_)
    refine z_lconst (v := 1) B dX0_readData_29 rfl ?_
    refine z_ladd B dX0_readData_30 ?_
    refine z_fl (fun v_4 => ?_)
    refine z_last B h_4 (Nat.le_trans hx (Nat.le_add_right x 139)) (vin rfl) dX0_readData_31 (fun Φ1 hΦ1 => ?_)
    have h_5 : Φ1 (x + 139) = some (al_ G 9 (vp_updL f_1 (3 : Int32).toNatClampNeg v_4)) := fset_at hΦ1
    have hI1 : In G x (ca) Φ1 := In.put (k := 139) hI hΦ1 (ok28 (k := 139) rfl ⟨_, rfl⟩)
    refine z_iconst (v := 0) B dX0_readData_32 rfl ?_
    exact z_ret_i B dX0_readData_33 ⟨⟨_, rfl⟩, rfl, hI1, (fun b9 h9 => ((fset_fr hΦ1 (fun h8 => h9 (139) h8 (show (121 ≤ 139 ∧ 139 < 133) ∨ (139 ≤ 139 ∧ 139 < 141) by omega))).trans rfl))⟩
  · obtain ⟨n_2, e_1, rfl⟩ := nI_of c_1
    refine z_iload B dX0_readData_5 4 rfl ?_
    refine z_iconst (v := 4) B dX0_readData_7 rfl ?_
    refine z_icmp_ge (tgt := 22) B dX0_readData_8 rfl (fun c_2 => ?_) (fun c_2 => ?_)
    · have e_2 : 4 ≤ n_2 := (nI_leI (a := 4) (b := n_2) (by omega) (by omega)).mp c_2
      refine z_aload_n B dX0_readData_22 rfl 0 rfl ?_
      obtain ⟨n_3, v_5, v_6, h_6, b_2⟩ := in25 (k := 132) hI rfl
      have h_7 : Φ (x + 132) = some (o_ 2 [.ref (x + 3), .ref (x + 121), .ref (x + 133), .ref (x + 134), .ref (x + 135), .ref (x + 137), .ref (x + 138), .ref (x + 139), .ref (x + 140), .int (nI n_3), .int v_5, .int v_6]) := h_6
      refine z_get (ref := "FlowExporter$Collector") (C := RX0) (T := TX0) (N := 12) (ci := 2) (v := .ref (x + 139)) B (by decide +kernel) rfl 7 (by decide) (by decide +kernel) rfl h_7 rfl dX0_readData_23 ?_
      refine z_iconst (v := 3) B dX0_readData_26 rfl ?_
      refine z_dup2_11 B dX0_readData_27 rfl rfl ?_
      obtain ⟨f_2, h_8⟩ := in28 (k := 139) hI rfl
      have h_9 : Φ (x + 139) = some (al_ G 9 f_2) := h_8
      refine z_lald B h_9 (vin rfl) dX0_readData_28 ?_
      refine z_fl (fun v_7 => ?_)
      refine z_lconst (v := 1) B dX0_readData_29 rfl ?_
      refine z_ladd B dX0_readData_30 ?_
      refine z_fl (fun v_8 => ?_)
      refine z_last B h_9 (Nat.le_trans hx (Nat.le_add_right x 139)) (vin rfl) dX0_readData_31 (fun Φ2 hΦ2 => ?_)
      have h_10 : Φ2 (x + 139) = some (al_ G 9 (vp_updL f_2 (3 : Int32).toNatClampNeg v_8)) := fset_at hΦ2
      have hI2 : In G x (ca) Φ2 := In.put (k := 139) hI hΦ2 (ok28 (k := 139) rfl ⟨_, rfl⟩)
      refine z_iconst (v := 0) B dX0_readData_32 rfl ?_
      exact z_ret_i B dX0_readData_33 ⟨⟨_, rfl⟩, rfl, hI2, (fun b9 h9 => ((fset_fr hΦ2 (fun h8 => h9 (139) h8 (show (121 ≤ 139 ∧ 139 < 133) ∨ (139 ≤ 139 ∧ 139 < 141) by omega))).trans rfl))⟩
    · have e_3 : ¬ (4 ≤ n_2) := fun h9 => c_2 ((nI_leI (a := 4) (b := n_2) (by omega) (by omega)).mpr h9)
      refine z_aload_n B dX0_readData_11 rfl 0 rfl ?_
      refine z_iload B dX0_readData_12 4 rfl ?_
      refine z_iload B dX0_readData_14 5 rfl ?_
      obtain ⟨n_4, v_9, v_10, h_11, b_3⟩ := in25 (k := 132) hI rfl
      have h_12 : Φ (x + 132) = some (o_ 2 [.ref (x + 3), .ref (x + 121), .ref (x + 133), .ref (x + 134), .ref (x + 135), .ref (x + 137), .ref (x + 138), .ref (x + 139), .ref (x + 140), .int (nI n_4), .int v_9, .int v_10]) := h_11
      refine z_callV (As := [.int (nI n_2), .int f]) (rest := []) B (s_X0_isUsable G l Φ sz x (ca) (nI n_2) f hx hI ) (cwV 2 B.1.2.2.2.2 gX0_readData_X0_isUsable rfl rfl rfl (by decide +kernel) ⟨Nat.le_of_ble_eq_true rfl, Nat.le_of_ble_eq_true rfl⟩) h_12 rfl rfl rfl rfl (Nat.le_of_ble_eq_true rfl) dX0_readData_16 ⟨Nat.le_of_ble_eq_true rfl, Nat.le_of_ble_eq_true rfl⟩ (fun r_1 Φ3 sz1 st1 hp1 hs1 => ?_)
      obtain ⟨⟨v_11, rfl, b_4⟩, hq1, hI3, hF1⟩ := hp1
      subst sz1
      replace hs1 : st1 = [.int v_11] := hs1
      subst st1
      replace hI3 : In G x (ca) Φ3 := hI3
      refine z_if_ne (tgt := 34) B dX0_readData_19 rfl (fun c_3 => ?_) (fun c_3 => ?_)
      · refine z_aload_n B dX0_readData_34 rfl 0 rfl ?_
        have h_13 : Φ3 (x + 132) = some (o_ 2 [.ref (x + 3), .ref (x + 121), .ref (x + 133), .ref (x + 134), .ref (x + 135), .ref (x + 137), .ref (x + 138), .ref (x + 139), .ref (x + 140), .int (nI n_4), .int v_9, .int v_10]) := ((hF1 (x + 132) (fun j9 h8 h7 => (show False from h7).elim)).trans h_12)
        refine z_get (ref := "FlowExporter$Collector") (C := RX0) (T := TX0) (N := 12) (ci := 2) (v := .ref (x + 133)) B (by decide +kernel) rfl 2 (by decide) (by decide +kernel) rfl h_13 rfl dX0_readData_35 ?_
        refine z_iload B dX0_readData_38 4 rfl ?_
        obtain ⟨f_3, h_14, r_2⟩ := in26 (k := 133) hI3 rfl
        have h_15 : Φ3 (x + 133) = some (aq_ G 4 4 f_3) := h_14
        refine z_aald (b := x + (133 + 8 + 2 * n_2)) B rfl h_15 (vp_in_nI (by omega) (by omega)) ((congrArg f_3 (nI_clamp (by omega))).trans (r_2 n_2 (by omega))) dX0_readData_40 ?_
        refine z_astore (lv' := [(6, .ref (x + (133 + 8 + 2 * n_2))), (0, .ref (x + 132)), (1, .ref (x + (k))), (2, .int (nI a)), (3, .int (nI b)), (4, .int (nI n_2)), (5, .int f)]) B dX0_readData_41 (Nat.le_of_ble_eq_true rfl) rfl ?_
        refine z_iconst (v := 0) B dX0_readData_43 rfl ?_
        refine z_istore (lv' := [(7, .int 0), (6, .ref (x + (133 + 8 + 2 * n_2))), (0, .ref (x + 132)), (1, .ref (x + (k))), (2, .int (nI a)), (3, .int (nI b)), (4, .int (nI n_2)), (5, .int f)]) B dX0_readData_44 (Nat.le_of_ble_eq_true rfl) rfl ?_
        refine z_iload_n B dX0_readData_46 rfl 4 rfl ?_
        refine z_istore (lv' := [(8, .int (nI a)), (7, .int 0), (6, .ref (x + (133 + 8 + 2 * n_2))), (0, .ref (x + 132)), (1, .ref (x + (k))), (2, .int (nI a)), (3, .int (nI b)), (4, .int (nI n_2)), (5, .int f)]) B dX0_readData_47 (Nat.le_of_ble_eq_true rfl) rfl ?_
        refine z_lv [0, 1, 2, 3, 4, 5, 6, 7, 8] rfl ?_
        refine z_loop (α := Nat × Int32) (fun (a9 : Nat × Int32) Φi => In G x (ca) Φi ∧ Fr x (fun j9 => (121 ≤ j9 ∧ j9 < 133) ∨ (139 ≤ j9 ∧ j9 < 141)) Φ3 Φi ∧ (a9.1 ≤ b) ∧ True) (fun a9 => [(8, .int (nI (a9.1))), (7, .int a9.2), (6, .ref (x + (133 + 8 + 2 * n_2))), (0, .ref (x + 132)), (1, .ref (x + (k))), (2, .int (nI a)), (3, .int (nI b)), (4, .int (nI n_2)), (5, .int f)]) (fun a9 => b - a9.1) ?_ (a, 0) ⟨hI3, fun _ _ => rfl, (show a ≤ b by omega), trivial⟩
        rintro ⟨i_1, i_2⟩ Φl1 ⟨hI4, hF2, b_5, -⟩ ih1
        replace hI4 : In G x (ca) Φl1 := hI4
        replace b_5 : i_1 ≤ b := b_5
        show Z p9 l e9 _ s9 m9 _ w9 t9 k9 _ G 9 49 [(8, .int (nI i_1)), (7, .int i_2), (6, .ref (x + (133 + 8 + 2 * n_2))), (0, .ref (x + 132)), (1, .ref (x + (k))), (2, .int (nI a)), (3, .int (nI b)), (4, .int (nI n_2)), (5, .int f)] [] Φl1 _ _ _
        refine z_aload B dX0_readData_49 2 rfl ?_
        obtain ⟨n_5, v_12, v_13, h_16, b_6⟩ := in8 (k := 133 + 8 + 2 * n_2) hI4 (kd_k (by omega))
        have h_17 : Φl1 (x + (133 + 8 + 2 * n_2)) = some (o_ 12 [.ref (x + (133 + 8 + 2 * n_2 + 1)), .int (nI n_5), .int v_12, .int v_13]) := h_16
        refine z_get (ref := "FlowExporter$Template") (C := RX10) (T := TX10) (N := 4) (ci := 12) (v := .int v_13) B (by decide +kernel) rfl 3 (by decide) (by decide +kernel) rfl h_17 rfl dX0_readData_51 ?_
        refine z_if_le (tgt := 94) B dX0_readData_54 rfl (fun c_4 => ?_) (fun c_4 => ?_)
        · refine z_aload_n B dX0_readData_94 rfl 3 rfl ?_
          obtain ⟨n_6, v_14, v_15, h_18, b_7⟩ := in25 (k := 132) hI4 rfl
          have h_19 : Φl1 (x + 132) = some (o_ 2 [.ref (x + 3), .ref (x + 121), .ref (x + 133), .ref (x + 134), .ref (x + 135), .ref (x + 137), .ref (x + 138), .ref (x + 139), .ref (x + 140), .int (nI n_6), .int v_14, .int v_15]) := h_18
          refine z_get (ref := "FlowExporter$Collector") (C := RX0) (T := TX0) (N := 12) (ci := 2) (v := .ref (x + 139)) B (by decide +kernel) rfl 7 (by decide) (by decide +kernel) rfl h_19 rfl dX0_readData_95 ?_
          refine z_bipush (v := 7) B dX0_readData_98 rfl ?_
          refine z_dup2_11 B dX0_readData_100 rfl rfl ?_
          obtain ⟨f_4, h_20⟩ := in28 (k := 139) hI4 rfl
          have h_21 : Φl1 (x + 139) = some (al_ G 9 f_4) := h_20
          refine z_lald B h_21 (vin rfl) dX0_readData_101 ?_
          refine z_fl (fun v_16 => ?_)
          refine z_iload B dX0_readData_102 1 rfl ?_
          refine z_i2l (v := i_2.toInt64) B dX0_readData_104 rfl ?_
          refine z_fl (fun v_17 => ?_)
          refine z_ladd B dX0_readData_105 ?_
          refine z_fl (fun v_18 => ?_)
          refine z_last B h_21 (Nat.le_trans hx (Nat.le_add_right x 139)) (vin rfl) dX0_readData_106 (fun Φ4 hΦ3 => ?_)
          have h_22 : Φ4 (x + 139) = some (al_ G 9 (vp_updL f_4 (7 : Int32).toNatClampNeg v_18)) := fset_at hΦ3
          have hI5 : In G x (ca) Φ4 := In.put (k := 139) hI4 hΦ3 (ok28 (k := 139) rfl ⟨_, rfl⟩)
          refine z_iload B dX0_readData_107 1 rfl ?_
          exact z_ret_i B dX0_readData_109 ⟨⟨_, rfl⟩, rfl, hI5, (fun b9 h9 => ((fset_fr hΦ3 (fun h8 => h9 (139) h8 (show (121 ≤ 139 ∧ 139 < 133) ∨ (139 ≤ 139 ∧ 139 < 141) by omega))).trans ((hF2 b9 (fun j9 h8 h7 => h9 j9 h8 (show (121 ≤ j9 ∧ j9 < 133) ∨ (139 ≤ j9 ∧ j9 < 141) by have h6 : (121 ≤ j9 ∧ j9 < 133) ∨ (139 ≤ j9 ∧ j9 < 141) := h7; omega))).trans ((hF1 b9 (fun j9 h8 h7 => (show False from h7).elim)).trans rfl))))⟩
        · obtain ⟨n_7, e_5, e_4, rfl⟩ := nI_ofp c_4
          refine z_iload_n B dX0_readData_57 rfl 6 rfl ?_
          refine z_iload B dX0_readData_58 0 rfl ?_
          refine z_isub B dX0_readData_60 ?_
          refine z_top (st1 := [.int (nI (b - i_1))]) (congrArg (fun w9 : Int32 => ([.int w9] : List Value)) (nI_sub (show i_1 ≤ b by omega))) ?_
          refine z_aload B dX0_readData_61 2 rfl ?_
          refine z_get (ref := "FlowExporter$Template") (C := RX10) (T := TX10) (N := 4) (ci := 12) (v := .int (nI n_7)) B (by decide +kernel) rfl 3 (by decide) (by decide +kernel) rfl h_17 rfl dX0_readData_63 ?_
          refine z_icmp_lt (tgt := 94) B dX0_readData_66 rfl (fun c_5 => ?_) (fun c_5 => ?_)
          · have e_6 : b - i_1 < n_7 := (nI_ltI (a := b - i_1) (b := n_7) (by omega) (by omega)).mp c_5
            refine z_aload_n B dX0_readData_94 rfl 3 rfl ?_
            obtain ⟨n_8, v_19, v_20, h_23, b_8⟩ := in25 (k := 132) hI4 rfl
            have h_24 : Φl1 (x + 132) = some (o_ 2 [.ref (x + 3), .ref (x + 121), .ref (x + 133), .ref (x + 134), .ref (x + 135), .ref (x + 137), .ref (x + 138), .ref (x + 139), .ref (x + 140), .int (nI n_8), .int v_19, .int v_20]) := h_23
            refine z_get (ref := "FlowExporter$Collector") (C := RX0) (T := TX0) (N := 12) (ci := 2) (v := .ref (x + 139)) B (by decide +kernel) rfl 7 (by decide) (by decide +kernel) rfl h_24 rfl dX0_readData_95 ?_
            refine z_bipush (v := 7) B dX0_readData_98 rfl ?_
            refine z_dup2_11 B dX0_readData_100 rfl rfl ?_
            obtain ⟨f_5, h_25⟩ := in28 (k := 139) hI4 rfl
            have h_26 : Φl1 (x + 139) = some (al_ G 9 f_5) := h_25
            refine z_lald B h_26 (vin rfl) dX0_readData_101 ?_
            refine z_fl (fun v_21 => ?_)
            refine z_iload B dX0_readData_102 1 rfl ?_
            refine z_i2l (v := i_2.toInt64) B dX0_readData_104 rfl ?_
            refine z_fl (fun v_22 => ?_)
            refine z_ladd B dX0_readData_105 ?_
            refine z_fl (fun v_23 => ?_)
            refine z_last B h_26 (Nat.le_trans hx (Nat.le_add_right x 139)) (vin rfl) dX0_readData_106 (fun Φ5 hΦ4 => ?_)
            have h_27 : Φ5 (x + 139) = some (al_ G 9 (vp_updL f_5 (7 : Int32).toNatClampNeg v_23)) := fset_at hΦ4
            have hI6 : In G x (ca) Φ5 := In.put (k := 139) hI4 hΦ4 (ok28 (k := 139) rfl ⟨_, rfl⟩)
            refine z_iload B dX0_readData_107 1 rfl ?_
            exact z_ret_i B dX0_readData_109 ⟨⟨_, rfl⟩, rfl, hI6, (fun b9 h9 => ((fset_fr hΦ4 (fun h8 => h9 (139) h8 (show (121 ≤ 139 ∧ 139 < 133) ∨ (139 ≤ 139 ∧ 139 < 141) by omega))).trans ((hF2 b9 (fun j9 h8 h7 => h9 j9 h8 (show (121 ≤ j9 ∧ j9 < 133) ∨ (139 ≤ j9 ∧ j9 < 141) by have h6 : (121 ≤ j9 ∧ j9 < 133) ∨ (139 ≤ j9 ∧ j9 < 141) := h7; omega))).trans ((hF1 b9 (fun j9 h8 h7 => (show False from h7).elim)).trans rfl))))⟩
          · have e_7 : ¬ (b - i_1 < n_7) := fun h9 => c_5 ((nI_ltI (a := b - i_1) (b := n_7) (by omega) (by omega)).mpr h9)
            refine z_aload_n B dX0_readData_69 rfl 3 rfl ?_
            refine z_aload_n B dX0_readData_70 rfl 4 rfl ?_
            refine z_iload B dX0_readData_71 0 rfl ?_
            refine z_aload B dX0_readData_73 2 rfl ?_
            obtain ⟨n_9, v_24, v_25, h_28, b_9⟩ := in25 (k := 132) hI4 rfl
            have h_29 : Φl1 (x + 132) = some (o_ 2 [.ref (x + 3), .ref (x + 121), .ref (x + 133), .ref (x + 134), .ref (x + 135), .ref (x + 137), .ref (x + 138), .ref (x + 139), .ref (x + 140), .int (nI n_9), .int v_24, .int v_25]) := h_28
            refine z_callV (As := [.ref (x + (k)), .int (nI i_1), .ref (x + (133 + 8 + 2 * n_2))]) (rest := []) B (s_X0_decode G l Φl1 sz x (ca) k (nI i_1) (133 + 8 + 2 * n_2) hx hI4 hk_k (kd_k (by omega)) (show 141 ≤ (133 + 8 + 2 * n_2) by omega)) (cwV 3 B.1.2.2.2.2 gX0_readData_X0_decode rfl rfl rfl (by decide +kernel) ⟨Nat.le_of_ble_eq_true rfl, Nat.le_of_ble_eq_true rfl⟩) h_29 rfl rfl rfl rfl (Nat.le_of_ble_eq_true rfl) dX0_readData_75 ⟨Nat.le_of_ble_eq_true rfl, Nat.le_of_ble_eq_true rfl⟩ (fun r_3 Φ6 sz2 st2 hp2 hs2 => ?_)
            obtain ⟨rfl, hq2, hI7, hF3⟩ := hp2
            subst sz2
            replace hs2 : st2 = [] := hs2
            subst st2
            replace hI7 : In G x (ca) Φ6 := hI7
            refine z_iinc (k := 1) (v := i_2 + 1) (lv' := [(7, .int (i_2 + 1)), (8, .int (nI i_1)), (6, .ref (x + (133 + 8 + 2 * n_2))), (0, .ref (x + 132)), (1, .ref (x + (k))), (2, .int (nI a)), (3, .int (nI b)), (4, .int (nI n_2)), (5, .int f)]) B dX0_readData_78 rfl rfl (Nat.le_of_ble_eq_true rfl) rfl ?_
            refine z_iload B dX0_readData_81 1 rfl ?_
            refine z_aload B dX0_readData_83 2 rfl ?_
            have h_30 : Φ6 (x + (133 + 8 + 2 * n_2)) = some (o_ 12 [.ref (x + (133 + 8 + 2 * n_2 + 1)), .int (nI n_5), .int v_12, .int (nI n_7)]) := ((hF3 (x + (133 + 8 + 2 * n_2)) (fun j9 h8 h7 => by have h6 : (121 ≤ j9 ∧ j9 < 133) ∨ (139 ≤ j9 ∧ j9 < 141) := h7; omega)).trans h_17)
            refine z_get (ref := "FlowExporter$Template") (C := RX10) (T := TX10) (N := 4) (ci := 12) (v := .int (nI n_7)) B (by decide +kernel) rfl 3 (by decide) (by decide +kernel) rfl h_30 rfl dX0_readData_85 ?_
            refine z_iadd B dX0_readData_88 ?_
            refine z_top (st1 := [.int (nI (i_1 + n_7))]) (congrArg (fun w9 : Int32 => ([.int w9] : List Value)) (nI_add i_1 n_7)) ?_
            refine z_istore (lv' := [(8, .int (nI (i_1 + n_7))), (7, .int (i_2 + 1)), (6, .ref (x + (133 + 8 + 2 * n_2))), (0, .ref (x + 132)), (1, .ref (x + (k))), (2, .int (nI a)), (3, .int (nI b)), (4, .int (nI n_2)), (5, .int f)]) B dX0_readData_89 (Nat.le_of_ble_eq_true rfl) rfl ?_
            refine z_goto (tgt := 49) B dX0_readData_91 rfl ?_
            refine z_lv [0, 1, 2, 3, 4, 5, 6, 7, 8] rfl ?_
            exact ih1 (i_1 + n_7, i_2 + 1) Φ6 (show b - (i_1 + n_7) < b - i_1 by omega) ⟨hI7, (fun b9 h9 => ((hF3 b9 (fun j9 h8 h7 => h9 j9 h8 (show (121 ≤ j9 ∧ j9 < 133) ∨ (139 ≤ j9 ∧ j9 < 141) by have h6 : (121 ≤ j9 ∧ j9 < 133) ∨ (139 ≤ j9 ∧ j9 < 141) := h7; omega))).trans ((hF2 b9 (fun j9 h8 h7 => h9 j9 h8 (show (121 ≤ j9 ∧ j9 < 133) ∨ (139 ≤ j9 ∧ j9 < 141) by have h6 : (121 ≤ j9 ∧ j9 < 133) ∨ (139 ≤ j9 ∧ j9 < 141) := h7; omega))).trans rfl))), (show (i_1 + n_7) ≤ b by omega), trivial⟩
      · refine z_aload_n B dX0_readData_22 rfl 0 rfl ?_
        have h_31 : Φ3 (x + 132) = some (o_ 2 [.ref (x + 3), .ref (x + 121), .ref (x + 133), .ref (x + 134), .ref (x + 135), .ref (x + 137), .ref (x + 138), .ref (x + 139), .ref (x + 140), .int (nI n_4), .int v_9, .int v_10]) := ((hF1 (x + 132) (fun j9 h8 h7 => (show False from h7).elim)).trans h_12)
        refine z_get (ref := "FlowExporter$Collector") (C := RX0) (T := TX0) (N := 12) (ci := 2) (v := .ref (x + 139)) B (by decide +kernel) rfl 7 (by decide) (by decide +kernel) rfl h_31 rfl dX0_readData_23 ?_
        refine z_iconst (v := 3) B dX0_readData_26 rfl ?_
        refine z_dup2_11 B dX0_readData_27 rfl rfl ?_
        obtain ⟨f_6, h_32⟩ := in28 (k := 139) hI3 rfl
        have h_33 : Φ3 (x + 139) = some (al_ G 9 f_6) := h_32
        refine z_lald B h_33 (vin rfl) dX0_readData_28 ?_
        refine z_fl (fun v_26 => ?_)
        refine z_lconst (v := 1) B dX0_readData_29 rfl ?_
        refine z_ladd B dX0_readData_30 ?_
        refine z_fl (fun v_27 => ?_)
        refine z_last B h_33 (Nat.le_trans hx (Nat.le_add_right x 139)) (vin rfl) dX0_readData_31 (fun Φ7 hΦ5 => ?_)
        have h_34 : Φ7 (x + 139) = some (al_ G 9 (vp_updL f_6 (3 : Int32).toNatClampNeg v_27)) := fset_at hΦ5
        have hI8 : In G x (ca) Φ7 := In.put (k := 139) hI3 hΦ5 (ok28 (k := 139) rfl ⟨_, rfl⟩)
        refine z_iconst (v := 0) B dX0_readData_32 rfl ?_
        exact z_ret_i B dX0_readData_33 ⟨⟨_, rfl⟩, rfl, hI8, (fun b9 h9 => ((fset_fr hΦ5 (fun h8 => h9 (139) h8 (show (121 ≤ 139 ∧ 139 < 133) ∨ (139 ≤ 139 ∧ 139 < 141) by omega))).trans ((hF1 b9 (fun j9 h8 h7 => (show False from h7).elim)).trans rfl)))⟩

set_option maxHeartbeats 4000000 in
set_option maxRecDepth 100000 in
theorem s_X0_readSets (G : EnvG) (l : Launch) (Φ : Hm) (sz x ca : Nat) (k : Nat) (a : Int32) (hx : G.2.2.2 ≤ x) (hI : In G x ca Φ) (hk_k : kd k = 1) : Ct G l yX0_readSets wsX0_readSets ({ frames := 4, cells := 0, slots := 0, locals := 103 }) 0 0 [.ref (x + 132), .ref (x + (k)), .int a] Φ sz (fun v Φ1 sz1 => (∃ r9 : Int32, v = some (.int r9)) ∧ sz1 = sz ∧ In G x (ca) Φ1 ∧ Fr x (fun j9 => (121 ≤ j9 ∧ j9 < 149)) Φ Φ1) := by
  refine Ct.of (cc := cX0_readSets) (maxL := 10) (ret := (some .int)) (by decide) rfl (Nat.le_of_ble_eq_true rfl) ?_
  intro p9 e9 s9 m9 w9 t9 k9 B
  show Z p9 l e9 _ s9 m9 _ w9 t9 k9 _ G 10 0 [(0, .ref (x + 132)), (1, .ref (x + (k))), (2, .int a)] [] Φ sz 0 0
  refine z_iconst (v := 0) B dX0_readSets_0 rfl ?_
  refine z_istore_n (lv' := [(3, .int 0), (0, .ref (x + 132)), (1, .ref (x + (k))), (2, .int a)]) B dX0_readSets_1 rfl (Nat.le_of_ble_eq_true rfl) rfl ?_
  refine z_bipush (v := 16) B dX0_readSets_2 rfl ?_
  refine z_istore (lv' := [(4, .int 16), (3, .int 0), (0, .ref (x + 132)), (1, .ref (x + (k))), (2, .int a)]) B dX0_readSets_4 (Nat.le_of_ble_eq_true rfl) rfl ?_
  refine z_iconst (v := 0) B dX0_readSets_6 rfl ?_
  refine z_istore (lv' := [(5, .int 0), (4, .int 16), (3, .int 0), (0, .ref (x + 132)), (1, .ref (x + (k))), (2, .int a)]) B dX0_readSets_7 (Nat.le_of_ble_eq_true rfl) rfl ?_
  refine z_lv [0, 1, 2, 3, 4, 5] rfl ?_
  refine z_loop (α := Nat × Nat × Int32) (fun (a9 : Nat × Nat × Int32) Φi => In G x (ca) Φi ∧ Fr x (fun j9 => (121 ≤ j9 ∧ j9 < 149)) Φ Φi ∧ (a9.1 ≤ 701) ∧ (a9.2.1 ≤ 700) ∧ True) (fun a9 => [(5, .int (nI (a9.1))), (4, .int (nI (a9.2.1))), (3, .int a9.2.2), (0, .ref (x + 132)), (1, .ref (x + (k))), (2, .int a)]) (fun a9 => 701 - a9.1) ?_ (0, 16, 0) ⟨hI, fun _ _ => rfl, (show 0 ≤ 701 by omega), (show 16 ≤ 700 by omega), trivial⟩
  rintro ⟨i_1, i_2, i_3⟩ Φl1 ⟨hI1, hF1, b_1, b_2, -⟩ ih1
  replace hI1 : In G x (ca) Φl1 := hI1
  replace b_1 : i_1 ≤ 701 := b_1
  replace b_2 : i_2 ≤ 700 := b_2
  show Z p9 l e9 _ s9 m9 _ w9 t9 k9 _ G 10 9 [(5, .int (nI i_1)), (4, .int (nI i_2)), (3, .int i_3), (0, .ref (x + 132)), (1, .ref (x + (k))), (2, .int a)] [] Φl1 _ _ _
  refine z_iload B dX0_readSets_9 0 rfl ?_
  refine z_sipush (v := 700) B dX0_readSets_11 rfl ?_
  refine z_icmp_gt (tgt := 163) B dX0_readSets_14 rfl (fun c_1 => ?_) (fun c_1 => ?_)
  · have e_1 : 700 < i_1 := (nI_ltI (a := 700) (b := i_1) (by omega) (by omega)).mp c_1
    refine z_iload_n B dX0_readSets_163 rfl 2 rfl ?_
    exact z_ret_i B dX0_readSets_164 ⟨⟨_, rfl⟩, rfl, hI1, (fun b9 h9 => ((hF1 b9 (fun j9 h8 h7 => h9 j9 h8 (show (121 ≤ j9 ∧ j9 < 149) by have h6 : (121 ≤ j9 ∧ j9 < 149) := h7; omega))).trans rfl))⟩
  · have e_2 : ¬ (700 < i_1) := fun h9 => c_1 ((nI_ltI (a := 700) (b := i_1) (by omega) (by omega)).mpr h9)
    refine z_iload B dX0_readSets_17 1 rfl ?_
    refine z_aload_n B dX0_readSets_19 rfl 4 rfl ?_
    obtain ⟨n_1, h_1, b_3⟩ := in1 (k := k) hI1 hk_k
    replace b_3 : n_1 ≤ cap (k) := b_3
    have b_4 := cap_le (k)
    have h_2 : Φl1 (x + (k)) = some (o_ 7 [.ref (x + (k + 1)), .int (nI n_1)]) := h_1
    refine z_get (ref := "FlowExporter$Message") (C := RX5) (T := TX5) (N := 2) (ci := 7) (v := .int (nI n_1)) B (by decide +kernel) rfl 1 (by decide) (by decide +kernel) rfl h_2 rfl dX0_readSets_20 ?_
    refine z_icmp_ge (tgt := 163) B dX0_readSets_23 rfl (fun c_2 => ?_) (fun c_2 => ?_)
    · have e_3 : n_1 ≤ i_2 := (nI_leI (a := n_1) (b := i_2) (by omega) (by omega)).mp c_2
      refine z_iload_n B dX0_readSets_163 rfl 2 rfl ?_
      exact z_ret_i B dX0_readSets_164 ⟨⟨_, rfl⟩, rfl, hI1, (fun b9 h9 => ((hF1 b9 (fun j9 h8 h7 => h9 j9 h8 (show (121 ≤ j9 ∧ j9 < 149) by have h6 : (121 ≤ j9 ∧ j9 < 149) := h7; omega))).trans rfl))⟩
    · have e_4 : ¬ (n_1 ≤ i_2) := fun h9 => c_2 ((nI_leI (a := n_1) (b := i_2) (by omega) (by omega)).mpr h9)
      refine z_aload_n B dX0_readSets_26 rfl 4 rfl ?_
      refine z_get (ref := "FlowExporter$Message") (C := RX5) (T := TX5) (N := 2) (ci := 7) (v := .int (nI n_1)) B (by decide +kernel) rfl 1 (by decide) (by decide +kernel) rfl h_2 rfl dX0_readSets_27 ?_
      refine z_iload B dX0_readSets_30 1 rfl ?_
      refine z_isub B dX0_readSets_32 ?_
      refine z_top (st1 := [.int (nI (n_1 - i_2))]) (congrArg (fun w9 : Int32 => ([.int w9] : List Value)) (nI_sub (show i_2 ≤ n_1 by omega))) ?_
      refine z_istore (lv' := [(6, .int (nI (n_1 - i_2))), (5, .int (nI i_1)), (4, .int (nI i_2)), (3, .int i_3), (0, .ref (x + 132)), (1, .ref (x + (k))), (2, .int a)]) B dX0_readSets_33 (Nat.le_of_ble_eq_true rfl) rfl ?_
      refine z_iload B dX0_readSets_35 0 rfl ?_
      refine z_iconst (v := 4) B dX0_readSets_37 rfl ?_
      refine z_icmp_ge (tgt := 45) B dX0_readSets_38 rfl (fun c_3 => ?_) (fun c_3 => ?_)
      · have e_5 : 4 ≤ n_1 - i_2 := (nI_leI (a := 4) (b := n_1 - i_2) (by omega) (by omega)).mp c_3
        refine z_aload_n B dX0_readSets_45 rfl 5 rfl ?_
        refine z_iload B dX0_readSets_46 2 rfl ?_
        refine z_iconst (v := 2) B dX0_readSets_48 rfl ?_
        refine z_iadd B dX0_readSets_49 ?_
        refine z_top (st1 := [.int (nI (i_2 + 2)), .ref (x + (k))]) (congrArg (fun w9 : Int32 => ([.int w9, .ref (x + (k))] : List Value)) (nI_add i_2 2)) ?_
        refine z_iconst (v := 2) B dX0_readSets_50 rfl ?_
        refine z_callV (As := [.int (nI (i_2 + 2)), .int 2]) (rest := []) B (s_X5_intAt G l Φl1 sz x (ca) k (nI (i_2 + 2)) 2 hx hI1 hk_k (show 2 ≤ 8 by omega)) (cwV 2 B.1.2.2.2.2 gX0_readSets_X5_intAt rfl rfl rfl (by decide +kernel) ⟨Nat.le_of_ble_eq_true rfl, Nat.le_of_ble_eq_true rfl⟩) h_2 rfl rfl rfl rfl (Nat.le_of_ble_eq_true rfl) dX0_readSets_51 ⟨Nat.le_of_ble_eq_true rfl, Nat.le_of_ble_eq_true rfl⟩ (fun r_1 Φ1 sz1 st1 hp1 hs1 => ?_)
        obtain ⟨⟨v_1, rfl⟩, hq1, hI2, hF2⟩ := hp1
        subst sz1
        replace hs1 : st1 = [.int v_1] := hs1
        subst st1
        replace hI2 : In G x (ca) Φ1 := hI2
        refine z_istore (lv' := [(7, .int v_1), (6, .int (nI (n_1 - i_2))), (5, .int (nI i_1)), (4, .int (nI i_2)), (3, .int i_3), (0, .ref (x + 132)), (1, .ref (x + (k))), (2, .int a)]) B dX0_readSets_54 (Nat.le_of_ble_eq_true rfl) rfl ?_
        refine z_iload B dX0_readSets_56 0 rfl ?_
        refine z_iconst (v := 4) B dX0_readSets_58 rfl ?_
        refine z_icmp_lt (tgt := 69) B dX0_readSets_59 rfl (fun c_4 => ?_) (fun c_4 => ?_)
        · refine z_aload_n B dX0_readSets_69 rfl 5 rfl ?_
          obtain ⟨n_2, v_2, v_3, h_3, b_5⟩ := in25 (k := 132) hI2 rfl
          have h_4 : Φ1 (x + 132) = some (o_ 2 [.ref (x + 3), .ref (x + 121), .ref (x + 133), .ref (x + 134), .ref (x + 135), .ref (x + 137), .ref (x + 138), .ref (x + 139), .ref (x + 140), .int (nI n_2), .int v_2, .int v_3]) := h_3
          refine z_get (ref := "FlowExporter$Collector") (C := RX0) (T := TX0) (N := 12) (ci := 2) (v := .ref (x + 139)) B (by decide +kernel) rfl 7 (by decide) (by decide +kernel) rfl h_4 rfl dX0_readSets_70 ?_
          refine z_iconst (v := 4) B dX0_readSets_73 rfl ?_
          refine z_dup2_11 B dX0_readSets_74 rfl rfl ?_
          obtain ⟨f_1, h_5⟩ := in28 (k := 139) hI2 rfl
          have h_6 : Φ1 (x + 139) = some (al_ G 9 f_1) := h_5
          refine z_lald B h_6 (vin rfl) dX0_readSets_75 ?_
          refine z_fl (fun v_4 => ?_)
          refine z_lconst (v := 1) B dX0_readSets_76 rfl ?_
          refine z_ladd B dX0_readSets_77 ?_
          refine z_fl (fun v_5 => ?_)
          refine z_last B h_6 (Nat.le_trans hx (Nat.le_add_right x 139)) (vin rfl) dX0_readSets_78 (fun Φ2 hΦ1 => ?_)
          have h_7 : Φ2 (x + 139) = some (al_ G 9 (vp_updL f_1 (4 : Int32).toNatClampNeg v_5)) := fset_at hΦ1
          have hI3 : In G x (ca) Φ2 := In.put (k := 139) hI2 hΦ1 (ok28 (k := 139) rfl ⟨_, rfl⟩)
          refine z_iload_n B dX0_readSets_79 rfl 4 rfl ?_
          exact z_ret_i B dX0_readSets_80 ⟨⟨_, rfl⟩, rfl, hI3, (fun b9 h9 => ((fset_fr hΦ1 (fun h8 => h9 (139) h8 (show (121 ≤ 139 ∧ 139 < 149) by omega))).trans ((hF2 b9 (fun j9 h8 h7 => (show False from h7).elim)).trans ((hF1 b9 (fun j9 h8 h7 => h9 j9 h8 (show (121 ≤ j9 ∧ j9 < 149) by have h6 : (121 ≤ j9 ∧ j9 < 149) := h7; omega))).trans rfl))))⟩
        · obtain ⟨n_3, e_7, e_6, rfl⟩ := nI_ofge (c := 4) (by omega) c_4
          refine z_iload B dX0_readSets_62 0 rfl ?_
          refine z_iload B dX0_readSets_64 1 rfl ?_
          refine z_icmp_le (tgt := 81) B dX0_readSets_66 rfl (fun c_5 => ?_) (fun c_5 => ?_)
          · have e_8 : n_3 ≤ n_1 - i_2 := (nI_leI (a := n_3) (b := n_1 - i_2) (by omega) (by omega)).mp c_5
            refine z_aload_n B dX0_readSets_81 rfl 6 rfl ?_
            refine z_iload B dX0_readSets_82 3 rfl ?_
            refine z_iconst (v := 2) B dX0_readSets_84 rfl ?_
            have h_8 : Φ1 (x + (k)) = some (o_ 7 [.ref (x + (k + 1)), .int (nI n_1)]) := ((hF2 (x + (k)) (fun j9 h8 h7 => (show False from h7).elim)).trans h_2)
            refine z_callV (As := [.int (nI i_2), .int 2]) (rest := []) B (s_X5_intAt G l Φ1 sz x (ca) k (nI i_2) 2 hx hI2 hk_k (show 2 ≤ 8 by omega)) (cwV 2 B.1.2.2.2.2 gX0_readSets_X5_intAt rfl rfl rfl (by decide +kernel) ⟨Nat.le_of_ble_eq_true rfl, Nat.le_of_ble_eq_true rfl⟩) h_8 rfl rfl rfl rfl (Nat.le_of_ble_eq_true rfl) dX0_readSets_85 ⟨Nat.le_of_ble_eq_true rfl, Nat.le_of_ble_eq_true rfl⟩ (fun r_2 Φ3 sz2 st2 hp2 hs2 => ?_)
            obtain ⟨⟨v_6, rfl⟩, hq2, hI4, hF3⟩ := hp2
            subst sz2
            replace hs2 : st2 = [.int v_6] := hs2
            subst st2
            replace hI4 : In G x (ca) Φ3 := hI4
            refine z_istore (lv' := [(8, .int v_6), (7, .int (nI n_3)), (6, .int (nI (n_1 - i_2))), (5, .int (nI i_1)), (4, .int (nI i_2)), (3, .int i_3), (0, .ref (x + 132)), (1, .ref (x + (k))), (2, .int a)]) B dX0_readSets_88 (Nat.le_of_ble_eq_true rfl) rfl ?_
            refine z_iload B dX0_readSets_90 4 rfl ?_
            refine z_iconst (v := 4) B dX0_readSets_92 rfl ?_
            refine z_iadd B dX0_readSets_93 ?_
            refine z_top (st1 := [.int (nI (i_2 + 4))]) (congrArg (fun w9 : Int32 => ([.int w9] : List Value)) (nI_add i_2 4)) ?_
            refine z_istore (lv' := [(9, .int (nI (i_2 + 4))), (8, .int v_6), (7, .int (nI n_3)), (6, .int (nI (n_1 - i_2))), (5, .int (nI i_1)), (4, .int (nI i_2)), (3, .int i_3), (0, .ref (x + 132)), (1, .ref (x + (k))), (2, .int a)]) B dX0_readSets_94 (Nat.le_of_ble_eq_true rfl) rfl ?_
            refine z_iload B dX0_readSets_96 5 rfl ?_
            refine z_iload B dX0_readSets_98 2 rfl ?_
            refine z_iadd B dX0_readSets_100 ?_
            refine z_top (st1 := [.int (nI (i_2 + n_3))]) (congrArg (fun w9 : Int32 => ([.int w9] : List Value)) (nI_add i_2 n_3)) ?_
            refine z_istore (lv' := [(4, .int (nI (i_2 + n_3))), (9, .int (nI (i_2 + 4))), (8, .int v_6), (7, .int (nI n_3)), (6, .int (nI (n_1 - i_2))), (5, .int (nI i_1)), (3, .int i_3), (0, .ref (x + 132)), (1, .ref (x + (k))), (2, .int a)]) B dX0_readSets_101 (Nat.le_of_ble_eq_true rfl) rfl ?_
            refine z_iload B dX0_readSets_103 2 rfl ?_
            refine z_iconst (v := 2) B dX0_readSets_105 rfl ?_
            refine z_icmp_ne (tgt := 122) B dX0_readSets_106 rfl (fun c_6 => ?_) (fun c_6 => ?_)
            · refine z_iload B dX0_readSets_122 2 rfl ?_
              refine z_sipush (v := 256) B dX0_readSets_124 rfl ?_
              refine z_icmp_lt (tgt := 157) B dX0_readSets_127 rfl (fun c_7 => ?_) (fun c_7 => ?_)
              · refine z_iinc (k := 5) (v := nI (i_1 + 1)) (lv' := [(5, .int (nI (i_1 + 1))), (4, .int (nI (i_2 + n_3))), (9, .int (nI (i_2 + 4))), (8, .int v_6), (7, .int (nI n_3)), (6, .int (nI (n_1 - i_2))), (3, .int i_3), (0, .ref (x + 132)), (1, .ref (x + (k))), (2, .int a)]) B dX0_readSets_157 rfl (nI_add i_1 1) (Nat.le_of_ble_eq_true rfl) rfl ?_
                refine z_goto (tgt := 9) B dX0_readSets_160 rfl ?_
                refine z_lv [0, 1, 6, 7, 8, 9] rfl ?_
                exact ih1 (i_1 + 1, i_2 + n_3, i_3) Φ3 (show 701 - (i_1 + 1) < 701 - i_1 by omega) ⟨hI4, (fun b9 h9 => ((hF3 b9 (fun j9 h8 h7 => (show False from h7).elim)).trans ((hF2 b9 (fun j9 h8 h7 => (show False from h7).elim)).trans ((hF1 b9 (fun j9 h8 h7 => h9 j9 h8 (show (121 ≤ j9 ∧ j9 < 149) by have h6 : (121 ≤ j9 ∧ j9 < 149) := h7; omega))).trans rfl)))), (show (i_1 + 1) ≤ 701 by omega), (show (i_2 + n_3) ≤ 700 by omega), trivial⟩
              · obtain ⟨n_4, e_10, e_9, rfl⟩ := nI_ofge (c := 256) (by omega) c_7
                refine z_iload B dX0_readSets_130 2 rfl ?_
                refine z_sipush (v := 260) B dX0_readSets_132 rfl ?_
                refine z_icmp_ge (tgt := 157) B dX0_readSets_135 rfl (fun c_8 => ?_) (fun c_8 => ?_)
                · have e_11 : 260 ≤ n_4 := (nI_leI (a := 260) (b := n_4) (by omega) (by omega)).mp c_8
                  refine z_iinc (k := 5) (v := nI (i_1 + 1)) (lv' := [(5, .int (nI (i_1 + 1))), (4, .int (nI (i_2 + n_3))), (9, .int (nI (i_2 + 4))), (8, .int (nI n_4)), (7, .int (nI n_3)), (6, .int (nI (n_1 - i_2))), (3, .int i_3), (0, .ref (x + 132)), (1, .ref (x + (k))), (2, .int a)]) B dX0_readSets_157 rfl (nI_add i_1 1) (Nat.le_of_ble_eq_true rfl) rfl ?_
                  refine z_goto (tgt := 9) B dX0_readSets_160 rfl ?_
                  refine z_lv [0, 1, 6, 7, 8, 9] rfl ?_
                  exact ih1 (i_1 + 1, i_2 + n_3, i_3) Φ3 (show 701 - (i_1 + 1) < 701 - i_1 by omega) ⟨hI4, (fun b9 h9 => ((hF3 b9 (fun j9 h8 h7 => (show False from h7).elim)).trans ((hF2 b9 (fun j9 h8 h7 => (show False from h7).elim)).trans ((hF1 b9 (fun j9 h8 h7 => h9 j9 h8 (show (121 ≤ j9 ∧ j9 < 149) by have h6 : (121 ≤ j9 ∧ j9 < 149) := h7; omega))).trans rfl)))), (show (i_1 + 1) ≤ 701 by omega), (show (i_2 + n_3) ≤ 700 by omega), trivial⟩
                · have e_12 : ¬ (260 ≤ n_4) := fun h9 => c_8 ((nI_leI (a := 260) (b := n_4) (by omega) (by omega)).mpr h9)
                  refine z_iload_n B dX0_readSets_138 rfl 6 rfl ?_
                  refine z_aload_n B dX0_readSets_139 rfl 7 rfl ?_
                  refine z_aload_n B dX0_readSets_140 rfl 8 rfl ?_
                  refine z_iload B dX0_readSets_141 1 rfl ?_
                  refine z_iload B dX0_readSets_143 0 rfl ?_
                  refine z_iload B dX0_readSets_145 2 rfl ?_
                  refine z_sipush (v := 256) B dX0_readSets_147 rfl ?_
                  refine z_isub B dX0_readSets_150 ?_
                  refine z_top (st1 := [.int (nI (n_4 - 256)), .int (nI (i_2 + n_3)), .int (nI (i_2 + 4)), .ref (x + (k)), .ref (x + 132), .int i_3]) (congrArg (fun w9 : Int32 => ([.int w9, .int (nI (i_2 + n_3)), .int (nI (i_2 + 4)), .ref (x + (k)), .ref (x + 132), .int i_3] : List Value)) (nI_sub (show 256 ≤ n_4 by omega))) ?_
                  refine z_iload_n B dX0_readSets_151 rfl 9 rfl ?_
                  obtain ⟨n_5, v_7, v_8, h_9, b_6⟩ := in25 (k := 132) hI4 rfl
                  have h_10 : Φ3 (x + 132) = some (o_ 2 [.ref (x + 3), .ref (x + 121), .ref (x + 133), .ref (x + 134), .ref (x + 135), .ref (x + 137), .ref (x + 138), .ref (x + 139), .ref (x + 140), .int (nI n_5), .int v_7, .int v_8]) := h_9
                  refine z_callV (As := [.ref (x + (k)), .int (nI (i_2 + 4)), .int (nI (i_2 + n_3)), .int (nI (n_4 - 256)), .int a]) (rest := [.int i_3]) B (s_X0_readData G l Φ3 sz x (ca) k (i_2 + 4) (i_2 + n_3) (nI (n_4 - 256)) a hx hI4 hk_k (show (i_2 + 4) ≤ (i_2 + n_3) by omega) (show (i_2 + n_3) ≤ 700 by omega)) (cwV 5 B.1.2.2.2.2 gX0_readSets_X0_readData rfl rfl rfl (by decide +kernel) ⟨Nat.le_of_ble_eq_true rfl, Nat.le_of_ble_eq_true rfl⟩) h_10 rfl rfl rfl rfl (Nat.le_of_ble_eq_true rfl) dX0_readSets_152 ⟨Nat.le_of_ble_eq_true rfl, Nat.le_of_ble_eq_true rfl⟩ (fun r_3 Φ4 sz3 st3 hp3 hs3 => ?_)
                  obtain ⟨⟨v_9, rfl⟩, hq3, hI5, hF4⟩ := hp3
                  subst sz3
                  replace hs3 : st3 = [.int v_9, .int i_3] := hs3
                  subst st3
                  replace hI5 : In G x (ca) Φ4 := hI5
                  refine z_iadd B dX0_readSets_155 ?_
                  refine z_fi (fun v_10 => ?_)
                  refine z_istore_n (lv' := [(3, .int v_10), (4, .int (nI (i_2 + n_3))), (9, .int (nI (i_2 + 4))), (8, .int (nI n_4)), (7, .int (nI n_3)), (6, .int (nI (n_1 - i_2))), (5, .int (nI i_1)), (0, .ref (x + 132)), (1, .ref (x + (k))), (2, .int a)]) B dX0_readSets_156 rfl (Nat.le_of_ble_eq_true rfl) rfl ?_
                  refine z_iinc (k := 6) (v := nI (i_1 + 1)) (lv' := [(5, .int (nI (i_1 + 1))), (3, .int v_10), (4, .int (nI (i_2 + n_3))), (9, .int (nI (i_2 + 4))), (8, .int (nI n_4)), (7, .int (nI n_3)), (6, .int (nI (n_1 - i_2))), (0, .ref (x + 132)), (1, .ref (x + (k))), (2, .int a)]) B dX0_readSets_157 rfl (nI_add i_1 1) (Nat.le_of_ble_eq_true rfl) rfl ?_
                  refine z_goto (tgt := 9) B dX0_readSets_160 rfl ?_
                  refine z_lv [0, 2, 1, 7, 8, 9] rfl ?_
                  exact ih1 (i_1 + 1, i_2 + n_3, v_10) Φ4 (show 701 - (i_1 + 1) < 701 - i_1 by omega) ⟨hI5, (fun b9 h9 => ((hF4 b9 (fun j9 h8 h7 => h9 j9 h8 (show (121 ≤ j9 ∧ j9 < 149) by have h6 : (121 ≤ j9 ∧ j9 < 133) ∨ (139 ≤ j9 ∧ j9 < 141) := h7; omega))).trans ((hF3 b9 (fun j9 h8 h7 => (show False from h7).elim)).trans ((hF2 b9 (fun j9 h8 h7 => (show False from h7).elim)).trans ((hF1 b9 (fun j9 h8 h7 => h9 j9 h8 (show (121 ≤ j9 ∧ j9 < 149) by have h6 : (121 ≤ j9 ∧ j9 < 149) := h7; omega))).trans rfl))))), (show (i_1 + 1) ≤ 701 by omega), (show (i_2 + n_3) ≤ 700 by omega), trivial⟩
            · refine z_aload_n B dX0_readSets_109 rfl 7 rfl ?_
              refine z_aload_n B dX0_readSets_110 rfl 8 rfl ?_
              refine z_iload B dX0_readSets_111 1 rfl ?_
              refine z_iload B dX0_readSets_113 0 rfl ?_
              refine z_iload_n B dX0_readSets_115 rfl 9 rfl ?_
              obtain ⟨n_6, v_11, v_12, h_11, b_7⟩ := in25 (k := 132) hI4 rfl
              have h_12 : Φ3 (x + 132) = some (o_ 2 [.ref (x + 3), .ref (x + 121), .ref (x + 133), .ref (x + 134), .ref (x + 135), .ref (x + 137), .ref (x + 138), .ref (x + 139), .ref (x + 140), .int (nI n_6), .int v_11, .int v_12]) := h_11
              refine z_callV (As := [.ref (x + (k)), .int (nI (i_2 + 4)), .int (nI (i_2 + n_3)), .int a]) (rest := []) B (s_X0_readTemplates G l Φ3 sz x (ca) k (nI (i_2 + 4)) (nI (i_2 + n_3)) a hx hI4 hk_k) (cwV 4 B.1.2.2.2.2 gX0_readSets_X0_readTemplates rfl rfl rfl (by decide +kernel) ⟨Nat.le_of_ble_eq_true rfl, Nat.le_of_ble_eq_true rfl⟩) h_12 rfl rfl rfl rfl (Nat.le_of_ble_eq_true rfl) dX0_readSets_116 ⟨Nat.le_of_ble_eq_true rfl, Nat.le_of_ble_eq_true rfl⟩ (fun r_4 Φ5 sz4 st4 hp4 hs4 => ?_)
              obtain ⟨rfl, hq4, hI6, hF5⟩ := hp4
              subst sz4
              replace hs4 : st4 = [] := hs4
              subst st4
              replace hI6 : In G x (ca) Φ5 := hI6
              refine z_goto (tgt := 157) B dX0_readSets_119 rfl ?_
              refine z_iinc (k := 5) (v := nI (i_1 + 1)) (lv' := [(5, .int (nI (i_1 + 1))), (4, .int (nI (i_2 + n_3))), (9, .int (nI (i_2 + 4))), (8, .int v_6), (7, .int (nI n_3)), (6, .int (nI (n_1 - i_2))), (3, .int i_3), (0, .ref (x + 132)), (1, .ref (x + (k))), (2, .int a)]) B dX0_readSets_157 rfl (nI_add i_1 1) (Nat.le_of_ble_eq_true rfl) rfl ?_
              refine z_goto (tgt := 9) B dX0_readSets_160 rfl ?_
              refine z_lv [0, 1, 6, 7, 8, 9] rfl ?_
              exact ih1 (i_1 + 1, i_2 + n_3, i_3) Φ5 (show 701 - (i_1 + 1) < 701 - i_1 by omega) ⟨hI6, (fun b9 h9 => ((hF5 b9 (fun j9 h8 h7 => h9 j9 h8 (show (121 ≤ j9 ∧ j9 < 149) by have h6 : (134 ≤ j9 ∧ j9 < 137) ∨ (141 ≤ j9 ∧ j9 < 149) := h7; omega))).trans ((hF3 b9 (fun j9 h8 h7 => (show False from h7).elim)).trans ((hF2 b9 (fun j9 h8 h7 => (show False from h7).elim)).trans ((hF1 b9 (fun j9 h8 h7 => h9 j9 h8 (show (121 ≤ j9 ∧ j9 < 149) by have h6 : (121 ≤ j9 ∧ j9 < 149) := h7; omega))).trans rfl))))), (show (i_1 + 1) ≤ 701 by omega), (show (i_2 + n_3) ≤ 700 by omega), trivial⟩
          · have e_13 : ¬ (n_3 ≤ n_1 - i_2) := fun h9 => c_5 ((nI_leI (a := n_3) (b := n_1 - i_2) (by omega) (by omega)).mpr h9)
            refine z_aload_n B dX0_readSets_69 rfl 5 rfl ?_
            obtain ⟨n_7, v_13, v_14, h_13, b_8⟩ := in25 (k := 132) hI2 rfl
            have h_14 : Φ1 (x + 132) = some (o_ 2 [.ref (x + 3), .ref (x + 121), .ref (x + 133), .ref (x + 134), .ref (x + 135), .ref (x + 137), .ref (x + 138), .ref (x + 139), .ref (x + 140), .int (nI n_7), .int v_13, .int v_14]) := h_13
            refine z_get (ref := "FlowExporter$Collector") (C := RX0) (T := TX0) (N := 12) (ci := 2) (v := .ref (x + 139)) B (by decide +kernel) rfl 7 (by decide) (by decide +kernel) rfl h_14 rfl dX0_readSets_70 ?_
            refine z_iconst (v := 4) B dX0_readSets_73 rfl ?_
            refine z_dup2_11 B dX0_readSets_74 rfl rfl ?_
            obtain ⟨f_2, h_15⟩ := in28 (k := 139) hI2 rfl
            have h_16 : Φ1 (x + 139) = some (al_ G 9 f_2) := h_15
            refine z_lald B h_16 (vin rfl) dX0_readSets_75 ?_
            refine z_fl (fun v_15 => ?_)
            refine z_lconst (v := 1) B dX0_readSets_76 rfl ?_
            refine z_ladd B dX0_readSets_77 ?_
            refine z_fl (fun v_16 => ?_)
            refine z_last B h_16 (Nat.le_trans hx (Nat.le_add_right x 139)) (vin rfl) dX0_readSets_78 (fun Φ6 hΦ2 => ?_)
            have h_17 : Φ6 (x + 139) = some (al_ G 9 (vp_updL f_2 (4 : Int32).toNatClampNeg v_16)) := fset_at hΦ2
            have hI7 : In G x (ca) Φ6 := In.put (k := 139) hI2 hΦ2 (ok28 (k := 139) rfl ⟨_, rfl⟩)
            refine z_iload_n B dX0_readSets_79 rfl 4 rfl ?_
            exact z_ret_i B dX0_readSets_80 ⟨⟨_, rfl⟩, rfl, hI7, (fun b9 h9 => ((fset_fr hΦ2 (fun h8 => h9 (139) h8 (show (121 ≤ 139 ∧ 139 < 149) by omega))).trans ((hF2 b9 (fun j9 h8 h7 => (show False from h7).elim)).trans ((hF1 b9 (fun j9 h8 h7 => h9 j9 h8 (show (121 ≤ j9 ∧ j9 < 149) by have h6 : (121 ≤ j9 ∧ j9 < 149) := h7; omega))).trans rfl))))⟩
      · have e_14 : ¬ (4 ≤ n_1 - i_2) := fun h9 => c_3 ((nI_leI (a := 4) (b := n_1 - i_2) (by omega) (by omega)).mpr h9)
        refine z_iconst (v := 0) B dX0_readSets_41 rfl ?_
        refine z_goto (tgt := 54) B dX0_readSets_42 rfl ?_
        refine z_istore (lv' := [(7, .int 0), (6, .int (nI (n_1 - i_2))), (5, .int (nI i_1)), (4, .int (nI i_2)), (3, .int i_3), (0, .ref (x + 132)), (1, .ref (x + (k))), (2, .int a)]) B dX0_readSets_54 (Nat.le_of_ble_eq_true rfl) rfl ?_
        refine z_iload B dX0_readSets_56 0 rfl ?_
        refine z_iconst (v := 4) B dX0_readSets_58 rfl ?_
        refine z_icmp_lt (tgt := 69) B dX0_readSets_59 rfl (fun c_9 => ?_) (fun h9 => absurd (by decide) h9)
        refine z_aload_n B dX0_readSets_69 rfl 5 rfl ?_
        obtain ⟨n_8, v_17, v_18, h_18, b_9⟩ := in25 (k := 132) hI1 rfl
        have h_19 : Φl1 (x + 132) = some (o_ 2 [.ref (x + 3), .ref (x + 121), .ref (x + 133), .ref (x + 134), .ref (x + 135), .ref (x + 137), .ref (x + 138), .ref (x + 139), .ref (x + 140), .int (nI n_8), .int v_17, .int v_18]) := h_18
        refine z_get (ref := "FlowExporter$Collector") (C := RX0) (T := TX0) (N := 12) (ci := 2) (v := .ref (x + 139)) B (by decide +kernel) rfl 7 (by decide) (by decide +kernel) rfl h_19 rfl dX0_readSets_70 ?_
        refine z_iconst (v := 4) B dX0_readSets_73 rfl ?_
        refine z_dup2_11 B dX0_readSets_74 rfl rfl ?_
        obtain ⟨f_3, h_20⟩ := in28 (k := 139) hI1 rfl
        have h_21 : Φl1 (x + 139) = some (al_ G 9 f_3) := h_20
        refine z_lald B h_21 (vin rfl) dX0_readSets_75 ?_
        refine z_fl (fun v_19 => ?_)
        refine z_lconst (v := 1) B dX0_readSets_76 rfl ?_
        refine z_ladd B dX0_readSets_77 ?_
        refine z_fl (fun v_20 => ?_)
        refine z_last B h_21 (Nat.le_trans hx (Nat.le_add_right x 139)) (vin rfl) dX0_readSets_78 (fun Φ7 hΦ3 => ?_)
        have h_22 : Φ7 (x + 139) = some (al_ G 9 (vp_updL f_3 (4 : Int32).toNatClampNeg v_20)) := fset_at hΦ3
        have hI8 : In G x (ca) Φ7 := In.put (k := 139) hI1 hΦ3 (ok28 (k := 139) rfl ⟨_, rfl⟩)
        refine z_iload_n B dX0_readSets_79 rfl 4 rfl ?_
        exact z_ret_i B dX0_readSets_80 ⟨⟨_, rfl⟩, rfl, hI8, (fun b9 h9 => ((fset_fr hΦ3 (fun h8 => h9 (139) h8 (show (121 ≤ 139 ∧ 139 < 149) by omega))).trans ((hF1 b9 (fun j9 h8 h7 => h9 j9 h8 (show (121 ≤ j9 ∧ j9 < 149) by have h6 : (121 ≤ j9 ∧ j9 < 149) := h7; omega))).trans rfl)))⟩

set_option maxHeartbeats 4000000 in
set_option maxRecDepth 100000 in
theorem s_X0_take (G : EnvG) (l : Launch) (Φ : Hm) (sz x ca : Nat) (k : Nat) (a : Int32) (hx : G.2.2.2 ≤ x) (hI : In G x ca Φ) (hk_k : kd k = 1) (hca : ca < 1000000) : Ct G l yX0_take wsX0_take ({ frames := 5, cells := 0, slots := 0, locals := 132 }) 0 0 [.ref (x + 132), .ref (x + (k)), .int a] Φ sz (fun v Φ1 sz1 => (∃ r9 : Int32, v = some (.int r9)) ∧ sz1 = sz ∧ In G x (ca + 1) Φ1 ∧ Fr x (fun j9 => (121 ≤ j9 ∧ j9 < 149)) Φ Φ1) := by
  refine Ct.of (cc := cX0_take) (maxL := 5) (ret := (some .int)) (by decide) rfl (Nat.le_of_ble_eq_true rfl) ?_
  intro p9 e9 s9 m9 w9 t9 k9 B
  show Z p9 l e9 _ s9 m9 _ w9 t9 k9 _ G 5 0 [(0, .ref (x + 132)), (1, .ref (x + (k))), (2, .int a)] [] Φ sz 0 0
  refine z_aload_n B dX0_take_0 rfl 0 rfl ?_
  obtain ⟨n_1, v_1, v_2, h_1, b_1⟩ := in25 (k := 132) hI rfl
  have h_2 : Φ (x + 132) = some (o_ 2 [.ref (x + 3), .ref (x + 121), .ref (x + 133), .ref (x + 134), .ref (x + 135), .ref (x + 137), .ref (x + 138), .ref (x + 139), .ref (x + 140), .int (nI n_1), .int v_1, .int v_2]) := h_1
  refine z_get (ref := "FlowExporter$Collector") (C := RX0) (T := TX0) (N := 12) (ci := 2) (v := .ref (x + 139)) B (by decide +kernel) rfl 7 (by decide) (by decide +kernel) rfl h_2 rfl dX0_take_1 ?_
  refine z_bipush (v := 8) B dX0_take_4 rfl ?_
  refine z_dup2_11 B dX0_take_6 rfl rfl ?_
  obtain ⟨f_1, h_3⟩ := in28 (k := 139) hI rfl
  have h_4 : Φ (x + 139) = some (al_ G 9 f_1) := h_3
  refine z_lald B h_4 (vin rfl) dX0_take_7 ?_
  refine z_fl (fun v_3 => ?_)
  refine z_lconst (v := 1) B dX0_take_8 rfl ?_
  refine z_ladd B dX0_take_9 ?_
  refine z_fl (fun v_4 => ?_)
  refine z_last B h_4 (Nat.le_trans hx (Nat.le_add_right x 139)) (vin rfl) dX0_take_10 (fun Φ1 hΦ1 => ?_)
  have h_5 : Φ1 (x + 139) = some (al_ G 9 (vp_updL f_1 (8 : Int32).toNatClampNeg v_4)) := fset_at hΦ1
  have hI1 : In G x (ca) Φ1 := In.put (k := 139) hI hΦ1 (ok28 (k := 139) rfl ⟨_, rfl⟩)
  refine z_aload_n B dX0_take_11 rfl 1 rfl ?_
  obtain ⟨n_2, h_6, b_2⟩ := in1 (k := k) hI1 hk_k
  replace b_2 : n_2 ≤ cap (k) := b_2
  have b_3 := cap_le (k)
  have h_7 : Φ1 (x + (k)) = some (o_ 7 [.ref (x + (k + 1)), .int (nI n_2)]) := h_6
  refine z_get (ref := "FlowExporter$Message") (C := RX5) (T := TX5) (N := 2) (ci := 7) (v := .int (nI n_2)) B (by decide +kernel) rfl 1 (by decide) (by decide +kernel) rfl h_7 rfl dX0_take_12 ?_
  refine z_bipush (v := 16) B dX0_take_15 rfl ?_
  refine z_icmp_lt (tgt := 44) B dX0_take_17 rfl (fun c_1 => ?_) (fun c_1 => ?_)
  · have e_1 : n_2 < 16 := (nI_ltI (a := n_2) (b := 16) (by omega) (by omega)).mp c_1
    refine z_aload_n B dX0_take_44 rfl 0 rfl ?_
    have h_8 : Φ1 (x + 132) = some (o_ 2 [.ref (x + 3), .ref (x + 121), .ref (x + 133), .ref (x + 134), .ref (x + 135), .ref (x + 137), .ref (x + 138), .ref (x + 139), .ref (x + 140), .int (nI n_1), .int v_1, .int v_2]) := ((fset_fr hΦ1 (ne_off (x := x) (i := 132) (j := 139) rfl)).trans h_2)
    refine z_get (ref := "FlowExporter$Collector") (C := RX0) (T := TX0) (N := 12) (ci := 2) (v := .ref (x + 139)) B (by decide +kernel) rfl 7 (by decide) (by decide +kernel) rfl h_8 rfl dX0_take_45 ?_
    refine z_iconst (v := 4) B dX0_take_48 rfl ?_
    refine z_dup2_11 B dX0_take_49 rfl rfl ?_
    obtain ⟨f_2, h_9⟩ := in28 (k := 139) hI1 rfl
    have h_10 : Φ1 (x + 139) = some (al_ G 9 f_2) := h_9
    refine z_lald B h_10 (vin rfl) dX0_take_50 ?_
    refine z_fl (fun v_5 => ?_)
    refine z_lconst (v := 1) B dX0_take_51 rfl ?_
    refine z_ladd B dX0_take_52 ?_
    refine z_fl (fun v_6 => ?_)
    refine z_last B h_10 (Nat.le_trans hx (Nat.le_add_right x 139)) (vin rfl) dX0_take_53 (fun Φ2 hΦ2 => ?_)
    have h_11 : Φ2 (x + 139) = some (al_ G 9 (vp_updL f_2 (4 : Int32).toNatClampNeg v_6)) := fset_at hΦ2
    have hI2 : In G x (ca) Φ2 := In.put (k := 139) hI1 hΦ2 (ok28 (k := 139) rfl ⟨_, rfl⟩)
    refine z_iconst (v := 0) B dX0_take_54 rfl ?_
    exact z_ret_i B dX0_take_55 ⟨⟨_, rfl⟩, rfl, (In.mono hI2 (by omega)), (fun b9 h9 => ((fset_fr hΦ2 (fun h8 => h9 (139) h8 (show (121 ≤ 139 ∧ 139 < 149) by omega))).trans ((fset_fr hΦ1 (fun h8 => h9 (139) h8 (show (121 ≤ 139 ∧ 139 < 149) by omega))).trans rfl)))⟩
  · have e_2 : ¬ (n_2 < 16) := fun h9 => c_1 ((nI_ltI (a := n_2) (b := 16) (by omega) (by omega)).mpr h9)
    refine z_aload_n B dX0_take_20 rfl 1 rfl ?_
    refine z_iconst (v := 0) B dX0_take_21 rfl ?_
    refine z_iconst (v := 2) B dX0_take_22 rfl ?_
    refine z_callV (As := [.int 0, .int 2]) (rest := []) B (s_X5_intAt G l Φ1 sz x (ca) k 0 2 hx hI1 hk_k (show 2 ≤ 8 by omega)) (cwV 2 B.1.2.2.2.2 gX0_take_X5_intAt rfl rfl rfl (by decide +kernel) ⟨Nat.le_of_ble_eq_true rfl, Nat.le_of_ble_eq_true rfl⟩) h_7 rfl rfl rfl rfl (Nat.le_of_ble_eq_true rfl) dX0_take_23 ⟨Nat.le_of_ble_eq_true rfl, Nat.le_of_ble_eq_true rfl⟩ (fun r_1 Φ3 sz1 st1 hp1 hs1 => ?_)
    obtain ⟨⟨v_7, rfl⟩, hq1, hI3, hF1⟩ := hp1
    subst sz1
    replace hs1 : st1 = [.int v_7] := hs1
    subst st1
    replace hI3 : In G x (ca) Φ3 := hI3
    refine z_bipush (v := 10) B dX0_take_26 rfl ?_
    refine z_icmp_ne (tgt := 44) B dX0_take_28 rfl (fun c_2 => ?_) (fun c_2 => ?_)
    · refine z_aload_n B dX0_take_44 rfl 0 rfl ?_
      have h_12 : Φ3 (x + 132) = some (o_ 2 [.ref (x + 3), .ref (x + 121), .ref (x + 133), .ref (x + 134), .ref (x + 135), .ref (x + 137), .ref (x + 138), .ref (x + 139), .ref (x + 140), .int (nI n_1), .int v_1, .int v_2]) := ((hF1 (x + 132) (fun j9 h8 h7 => (show False from h7).elim)).trans ((fset_fr hΦ1 (ne_off (x := x) (i := 132) (j := 139) rfl)).trans h_2))
      refine z_get (ref := "FlowExporter$Collector") (C := RX0) (T := TX0) (N := 12) (ci := 2) (v := .ref (x + 139)) B (by decide +kernel) rfl 7 (by decide) (by decide +kernel) rfl h_12 rfl dX0_take_45 ?_
      refine z_iconst (v := 4) B dX0_take_48 rfl ?_
      refine z_dup2_11 B dX0_take_49 rfl rfl ?_
      obtain ⟨f_3, h_13⟩ := in28 (k := 139) hI3 rfl
      have h_14 : Φ3 (x + 139) = some (al_ G 9 f_3) := h_13
      refine z_lald B h_14 (vin rfl) dX0_take_50 ?_
      refine z_fl (fun v_8 => ?_)
      refine z_lconst (v := 1) B dX0_take_51 rfl ?_
      refine z_ladd B dX0_take_52 ?_
      refine z_fl (fun v_9 => ?_)
      refine z_last B h_14 (Nat.le_trans hx (Nat.le_add_right x 139)) (vin rfl) dX0_take_53 (fun Φ4 hΦ3 => ?_)
      have h_15 : Φ4 (x + 139) = some (al_ G 9 (vp_updL f_3 (4 : Int32).toNatClampNeg v_9)) := fset_at hΦ3
      have hI4 : In G x (ca) Φ4 := In.put (k := 139) hI3 hΦ3 (ok28 (k := 139) rfl ⟨_, rfl⟩)
      refine z_iconst (v := 0) B dX0_take_54 rfl ?_
      exact z_ret_i B dX0_take_55 ⟨⟨_, rfl⟩, rfl, (In.mono hI4 (by omega)), (fun b9 h9 => ((fset_fr hΦ3 (fun h8 => h9 (139) h8 (show (121 ≤ 139 ∧ 139 < 149) by omega))).trans ((hF1 b9 (fun j9 h8 h7 => (show False from h7).elim)).trans ((fset_fr hΦ1 (fun h8 => h9 (139) h8 (show (121 ≤ 139 ∧ 139 < 149) by omega))).trans rfl))))⟩
    · refine z_aload_n B dX0_take_31 rfl 1 rfl ?_
      refine z_iconst (v := 2) B dX0_take_32 rfl ?_
      refine z_iconst (v := 2) B dX0_take_33 rfl ?_
      have h_16 : Φ3 (x + (k)) = some (o_ 7 [.ref (x + (k + 1)), .int (nI n_2)]) := ((hF1 (x + (k)) (fun j9 h8 h7 => (show False from h7).elim)).trans h_7)
      refine z_callV (As := [.int 2, .int 2]) (rest := []) B (s_X5_intAt G l Φ3 sz x (ca) k 2 2 hx hI3 hk_k (show 2 ≤ 8 by omega)) (cwV 2 B.1.2.2.2.2 gX0_take_X5_intAt rfl rfl rfl (by decide +kernel) ⟨Nat.le_of_ble_eq_true rfl, Nat.le_of_ble_eq_true rfl⟩) h_16 rfl rfl rfl rfl (Nat.le_of_ble_eq_true rfl) dX0_take_34 ⟨Nat.le_of_ble_eq_true rfl, Nat.le_of_ble_eq_true rfl⟩ (fun r_2 Φ5 sz2 st2 hp2 hs2 => ?_)
      obtain ⟨⟨v_10, rfl⟩, hq2, hI5, hF2⟩ := hp2
      subst sz2
      replace hs2 : st2 = [.int v_10] := hs2
      subst st2
      replace hI5 : In G x (ca) Φ5 := hI5
      refine z_aload_n B dX0_take_37 rfl 1 rfl ?_
      have h_17 : Φ5 (x + (k)) = some (o_ 7 [.ref (x + (k + 1)), .int (nI n_2)]) := ((hF2 (x + (k)) (fun j9 h8 h7 => (show False from h7).elim)).trans h_16)
      refine z_get (ref := "FlowExporter$Message") (C := RX5) (T := TX5) (N := 2) (ci := 7) (v := .int (nI n_2)) B (by decide +kernel) rfl 1 (by decide) (by decide +kernel) rfl h_17 rfl dX0_take_38 ?_
      refine z_icmp_eq (tgt := 56) B dX0_take_41 rfl (fun c_3 => ?_) (fun c_3 => ?_)
      · refine z_aload_n B dX0_take_56 rfl 1 rfl ?_
        refine z_iconst (v := 4) B dX0_take_57 rfl ?_
        refine z_iconst (v := 4) B dX0_take_58 rfl ?_
        refine z_callV (As := [.int 4, .int 4]) (rest := []) B (s_X5_intAt G l Φ5 sz x (ca) k 4 4 hx hI5 hk_k (show 4 ≤ 8 by omega)) (cwV 2 B.1.2.2.2.2 gX0_take_X5_intAt rfl rfl rfl (by decide +kernel) ⟨Nat.le_of_ble_eq_true rfl, Nat.le_of_ble_eq_true rfl⟩) h_17 rfl rfl rfl rfl (Nat.le_of_ble_eq_true rfl) dX0_take_59 ⟨Nat.le_of_ble_eq_true rfl, Nat.le_of_ble_eq_true rfl⟩ (fun r_3 Φ6 sz3 st3 hp3 hs3 => ?_)
        obtain ⟨⟨v_11, rfl⟩, hq3, hI6, hF3⟩ := hp3
        subst sz3
        replace hs3 : st3 = [.int v_11] := hs3
        subst st3
        replace hI6 : In G x (ca) Φ6 := hI6
        refine z_istore_n (lv' := [(3, .int v_11), (0, .ref (x + 132)), (1, .ref (x + (k))), (2, .int a)]) B dX0_take_62 rfl (Nat.le_of_ble_eq_true rfl) rfl ?_
        refine z_aload_n B dX0_take_63 rfl 2 rfl ?_
        refine z_bipush (v := 8) B dX0_take_64 rfl ?_
        refine z_iconst (v := 4) B dX0_take_66 rfl ?_
        have h_18 : Φ6 (x + (k)) = some (o_ 7 [.ref (x + (k + 1)), .int (nI n_2)]) := ((hF3 (x + (k)) (fun j9 h8 h7 => (show False from h7).elim)).trans h_17)
        refine z_callV (As := [.int 8, .int 4]) (rest := []) B (s_X5_intAt G l Φ6 sz x (ca) k 8 4 hx hI6 hk_k (show 4 ≤ 8 by omega)) (cwV 2 B.1.2.2.2.2 gX0_take_X5_intAt rfl rfl rfl (by decide +kernel) ⟨Nat.le_of_ble_eq_true rfl, Nat.le_of_ble_eq_true rfl⟩) h_18 rfl rfl rfl rfl (Nat.le_of_ble_eq_true rfl) dX0_take_67 ⟨Nat.le_of_ble_eq_true rfl, Nat.le_of_ble_eq_true rfl⟩ (fun r_4 Φ7 sz4 st4 hp4 hs4 => ?_)
        obtain ⟨⟨v_12, rfl⟩, hq4, hI7, hF4⟩ := hp4
        subst sz4
        replace hs4 : st4 = [.int v_12] := hs4
        subst st4
        replace hI7 : In G x (ca) Φ7 := hI7
        refine z_istore (lv' := [(4, .int v_12), (3, .int v_11), (0, .ref (x + 132)), (1, .ref (x + (k))), (2, .int a)]) B dX0_take_70 (Nat.le_of_ble_eq_true rfl) rfl ?_
        refine z_aload_n B dX0_take_72 rfl 2 rfl ?_
        refine z_iload B dX0_take_73 0 rfl ?_
        refine z_iload_n B dX0_take_75 rfl 1 rfl ?_
        have h_19 : Φ7 (x + 132) = some (o_ 2 [.ref (x + 3), .ref (x + 121), .ref (x + 133), .ref (x + 134), .ref (x + 135), .ref (x + 137), .ref (x + 138), .ref (x + 139), .ref (x + 140), .int (nI n_1), .int v_1, .int v_2]) := ((hF4 (x + 132) (fun j9 h8 h7 => (show False from h7).elim)).trans ((hF3 (x + 132) (fun j9 h8 h7 => (show False from h7).elim)).trans ((hF2 (x + 132) (fun j9 h8 h7 => (show False from h7).elim)).trans ((hF1 (x + 132) (fun j9 h8 h7 => (show False from h7).elim)).trans ((fset_fr hΦ1 (ne_off (x := x) (i := 132) (j := 139) rfl)).trans h_2)))))
        refine z_callV (As := [.int v_12, .int v_11]) (rest := []) B (s_X0_isRecent G l Φ7 sz x (ca) v_12 v_11 hx hI7 (show ca < 1000000 by omega)) (cwV 2 B.1.2.2.2.2 gX0_take_X0_isRecent rfl rfl rfl (by decide +kernel) ⟨Nat.le_of_ble_eq_true rfl, Nat.le_of_ble_eq_true rfl⟩) h_19 rfl rfl rfl rfl (Nat.le_of_ble_eq_true rfl) dX0_take_76 ⟨Nat.le_of_ble_eq_true rfl, Nat.le_of_ble_eq_true rfl⟩ (fun r_5 Φ8 sz5 st5 hp5 hs5 => ?_)
        obtain ⟨⟨v_13, rfl, b_4⟩, hq5, hI8, hF5⟩ := hp5
        subst sz5
        replace hs5 : st5 = [.int v_13] := hs5
        subst st5
        replace hI8 : In G x (ca) Φ8 := hI8
        refine z_if_eq (tgt := 94) B dX0_take_79 rfl (fun c_4 => ?_) (fun c_4 => ?_)
        · refine z_aload_n B dX0_take_94 rfl 2 rfl ?_
          refine z_iload B dX0_take_95 0 rfl ?_
          refine z_iload_n B dX0_take_97 rfl 1 rfl ?_
          refine z_iconst (v := 0) B dX0_take_98 rfl ?_
          refine z_aload_n B dX0_take_99 rfl 3 rfl ?_
          refine z_bipush (v := 12) B dX0_take_100 rfl ?_
          refine z_iconst (v := 4) B dX0_take_102 rfl ?_
          have h_20 : Φ8 (x + (k)) = some (o_ 7 [.ref (x + (k + 1)), .int (nI n_2)]) := ((hF5 (x + (k)) (fun j9 h8 h7 => (show False from h7).elim)).trans ((hF4 (x + (k)) (fun j9 h8 h7 => (show False from h7).elim)).trans h_18))
          refine z_callV (As := [.int 12, .int 4]) (rest := [.int 0, .int v_11, .int v_12, .ref (x + 132)]) B (s_X5_intAt G l Φ8 sz x (ca) k 12 4 hx hI8 hk_k (show 4 ≤ 8 by omega)) (cwV 2 B.1.2.2.2.2 gX0_take_X5_intAt rfl rfl rfl (by decide +kernel) ⟨Nat.le_of_ble_eq_true rfl, Nat.le_of_ble_eq_true rfl⟩) h_20 rfl rfl rfl rfl (Nat.le_of_ble_eq_true rfl) dX0_take_103 ⟨Nat.le_of_ble_eq_true rfl, Nat.le_of_ble_eq_true rfl⟩ (fun r_6 Φ9 sz6 st6 hp6 hs6 => ?_)
          obtain ⟨⟨v_14, rfl⟩, hq6, hI9, hF6⟩ := hp6
          subst sz6
          replace hs6 : st6 = [.int v_14, .int 0, .int v_11, .int v_12, .ref (x + 132)] := hs6
          subst st6
          replace hI9 : In G x (ca) Φ9 := hI9
          refine z_mmax B (by decide +kernel) (by decide +kernel) (by decide +kernel) (by decide +kernel) rfl ⟨Nat.le_of_ble_eq_true rfl, Nat.le_of_ble_eq_true rfl⟩ ⟨Nat.le_of_ble_eq_true rfl, Nat.le_of_ble_eq_true rfl⟩ dX0_take_106 ?_
          refine z_fi (fun v_15 => ?_)
          have h_21 : Φ9 (x + 132) = some (o_ 2 [.ref (x + 3), .ref (x + 121), .ref (x + 133), .ref (x + 134), .ref (x + 135), .ref (x + 137), .ref (x + 138), .ref (x + 139), .ref (x + 140), .int (nI n_1), .int v_1, .int v_2]) := ((hF6 (x + 132) (fun j9 h8 h7 => (show False from h7).elim)).trans ((hF5 (x + 132) (fun j9 h8 h7 => (show False from h7).elim)).trans h_19))
          refine z_callV (As := [.int v_12, .int v_11, .int v_15]) (rest := []) B (s_X0_account G l Φ9 sz x (ca) v_12 v_11 v_15 hx hI9 (show ca < 1000000 by omega)) (cwV 3 B.1.2.2.2.2 gX0_take_X0_account rfl rfl rfl (by decide +kernel) ⟨Nat.le_of_ble_eq_true rfl, Nat.le_of_ble_eq_true rfl⟩) h_21 rfl rfl rfl rfl (Nat.le_of_ble_eq_true rfl) dX0_take_109 ⟨Nat.le_of_ble_eq_true rfl, Nat.le_of_ble_eq_true rfl⟩ (fun r_7 Φ10 sz7 st7 hp7 hs7 => ?_)
          obtain ⟨rfl, hq7, hI10, hF7⟩ := hp7
          subst sz7
          replace hs7 : st7 = [] := hs7
          subst st7
          replace hI10 : In G x (ca + 1) Φ10 := hI10
          refine z_aload_n B dX0_take_112 rfl 2 rfl ?_
          refine z_aload_n B dX0_take_113 rfl 3 rfl ?_
          refine z_iload_n B dX0_take_114 rfl 4 rfl ?_
          obtain ⟨n_3, v_16, v_17, h_22, b_5⟩ := in25 (k := 132) hI10 rfl
          have h_23 : Φ10 (x + 132) = some (o_ 2 [.ref (x + 3), .ref (x + 121), .ref (x + 133), .ref (x + 134), .ref (x + 135), .ref (x + 137), .ref (x + 138), .ref (x + 139), .ref (x + 140), .int (nI n_3), .int v_16, .int v_17]) := h_22
          refine z_callV (As := [.ref (x + (k)), .int a]) (rest := []) B (s_X0_readSets G l Φ10 sz x (ca + 1) k a hx hI10 hk_k) (cwV 2 B.1.2.2.2.2 gX0_take_X0_readSets rfl rfl rfl (by decide +kernel) ⟨Nat.le_of_ble_eq_true rfl, Nat.le_of_ble_eq_true rfl⟩) h_23 rfl rfl rfl rfl (Nat.le_of_ble_eq_true rfl) dX0_take_115 ⟨Nat.le_of_ble_eq_true rfl, Nat.le_of_ble_eq_true rfl⟩ (fun r_8 Φ11 sz8 st8 hp8 hs8 => ?_)
          obtain ⟨⟨v_18, rfl⟩, hq8, hI11, hF8⟩ := hp8
          subst sz8
          replace hs8 : st8 = [.int v_18] := hs8
          subst st8
          replace hI11 : In G x (ca + 1) Φ11 := hI11
          exact z_ret_i B dX0_take_118 ⟨⟨_, rfl⟩, rfl, hI11, (fun b9 h9 => ((hF8 b9 (fun j9 h8 h7 => h9 j9 h8 (show (121 ≤ j9 ∧ j9 < 149) by have h6 : (121 ≤ j9 ∧ j9 < 149) := h7; omega))).trans ((hF7 b9 (fun j9 h8 h7 => h9 j9 h8 (show (121 ≤ j9 ∧ j9 < 149) by have h6 : 132 ≤ j9 ∧ j9 < 140 := h7; omega))).trans ((hF6 b9 (fun j9 h8 h7 => (show False from h7).elim)).trans ((hF5 b9 (fun j9 h8 h7 => (show False from h7).elim)).trans ((hF4 b9 (fun j9 h8 h7 => (show False from h7).elim)).trans ((hF3 b9 (fun j9 h8 h7 => (show False from h7).elim)).trans ((hF2 b9 (fun j9 h8 h7 => (show False from h7).elim)).trans ((hF1 b9 (fun j9 h8 h7 => (show False from h7).elim)).trans ((fset_fr hΦ1 (fun h8 => h9 (139) h8 (show (121 ≤ 139 ∧ 139 < 149) by omega))).trans rfl))))))))))⟩
        · refine z_aload_n B dX0_take_82 rfl 2 rfl ?_
          have h_24 : Φ8 (x + 132) = some (o_ 2 [.ref (x + 3), .ref (x + 121), .ref (x + 133), .ref (x + 134), .ref (x + 135), .ref (x + 137), .ref (x + 138), .ref (x + 139), .ref (x + 140), .int (nI n_1), .int v_1, .int v_2]) := ((hF5 (x + 132) (fun j9 h8 h7 => (show False from h7).elim)).trans h_19)
          refine z_get (ref := "FlowExporter$Collector") (C := RX0) (T := TX0) (N := 12) (ci := 2) (v := .ref (x + 139)) B (by decide +kernel) rfl 7 (by decide) (by decide +kernel) rfl h_24 rfl dX0_take_83 ?_
          refine z_iconst (v := 2) B dX0_take_86 rfl ?_
          refine z_dup2_11 B dX0_take_87 rfl rfl ?_
          obtain ⟨f_4, h_25⟩ := in28 (k := 139) hI8 rfl
          have h_26 : Φ8 (x + 139) = some (al_ G 9 f_4) := h_25
          refine z_lald B h_26 (vin rfl) dX0_take_88 ?_
          refine z_fl (fun v_19 => ?_)
          refine z_lconst (v := 1) B dX0_take_89 rfl ?_
          refine z_ladd B dX0_take_90 ?_
          refine z_fl (fun v_20 => ?_)
          refine z_last B h_26 (Nat.le_trans hx (Nat.le_add_right x 139)) (vin rfl) dX0_take_91 (fun Φ12 hΦ4 => ?_)
          have h_27 : Φ12 (x + 139) = some (al_ G 9 (vp_updL f_4 (2 : Int32).toNatClampNeg v_20)) := fset_at hΦ4
          have hI12 : In G x (ca) Φ12 := In.put (k := 139) hI8 hΦ4 (ok28 (k := 139) rfl ⟨_, rfl⟩)
          refine z_iconst (v := 0) B dX0_take_92 rfl ?_
          exact z_ret_i B dX0_take_93 ⟨⟨_, rfl⟩, rfl, (In.mono hI12 (by omega)), (fun b9 h9 => ((fset_fr hΦ4 (fun h8 => h9 (139) h8 (show (121 ≤ 139 ∧ 139 < 149) by omega))).trans ((hF5 b9 (fun j9 h8 h7 => (show False from h7).elim)).trans ((hF4 b9 (fun j9 h8 h7 => (show False from h7).elim)).trans ((hF3 b9 (fun j9 h8 h7 => (show False from h7).elim)).trans ((hF2 b9 (fun j9 h8 h7 => (show False from h7).elim)).trans ((hF1 b9 (fun j9 h8 h7 => (show False from h7).elim)).trans ((fset_fr hΦ1 (fun h8 => h9 (139) h8 (show (121 ≤ 139 ∧ 139 < 149) by omega))).trans rfl))))))))⟩
      · refine z_aload_n B dX0_take_44 rfl 0 rfl ?_
        have h_28 : Φ5 (x + 132) = some (o_ 2 [.ref (x + 3), .ref (x + 121), .ref (x + 133), .ref (x + 134), .ref (x + 135), .ref (x + 137), .ref (x + 138), .ref (x + 139), .ref (x + 140), .int (nI n_1), .int v_1, .int v_2]) := ((hF2 (x + 132) (fun j9 h8 h7 => (show False from h7).elim)).trans ((hF1 (x + 132) (fun j9 h8 h7 => (show False from h7).elim)).trans ((fset_fr hΦ1 (ne_off (x := x) (i := 132) (j := 139) rfl)).trans h_2)))
        refine z_get (ref := "FlowExporter$Collector") (C := RX0) (T := TX0) (N := 12) (ci := 2) (v := .ref (x + 139)) B (by decide +kernel) rfl 7 (by decide) (by decide +kernel) rfl h_28 rfl dX0_take_45 ?_
        refine z_iconst (v := 4) B dX0_take_48 rfl ?_
        refine z_dup2_11 B dX0_take_49 rfl rfl ?_
        obtain ⟨f_5, h_29⟩ := in28 (k := 139) hI5 rfl
        have h_30 : Φ5 (x + 139) = some (al_ G 9 f_5) := h_29
        refine z_lald B h_30 (vin rfl) dX0_take_50 ?_
        refine z_fl (fun v_21 => ?_)
        refine z_lconst (v := 1) B dX0_take_51 rfl ?_
        refine z_ladd B dX0_take_52 ?_
        refine z_fl (fun v_22 => ?_)
        refine z_last B h_30 (Nat.le_trans hx (Nat.le_add_right x 139)) (vin rfl) dX0_take_53 (fun Φ13 hΦ5 => ?_)
        have h_31 : Φ13 (x + 139) = some (al_ G 9 (vp_updL f_5 (4 : Int32).toNatClampNeg v_22)) := fset_at hΦ5
        have hI13 : In G x (ca) Φ13 := In.put (k := 139) hI5 hΦ5 (ok28 (k := 139) rfl ⟨_, rfl⟩)
        refine z_iconst (v := 0) B dX0_take_54 rfl ?_
        exact z_ret_i B dX0_take_55 ⟨⟨_, rfl⟩, rfl, (In.mono hI13 (by omega)), (fun b9 h9 => ((fset_fr hΦ5 (fun h8 => h9 (139) h8 (show (121 ≤ 139 ∧ 139 < 149) by omega))).trans ((hF2 b9 (fun j9 h8 h7 => (show False from h7).elim)).trans ((hF1 b9 (fun j9 h8 h7 => (show False from h7).elim)).trans ((fset_fr hΦ1 (fun h8 => h9 (139) h8 (show (121 ≤ 139 ∧ 139 < 149) by omega))).trans rfl)))))⟩

set_option maxHeartbeats 4000000 in
set_option maxRecDepth 100000 in
theorem s_X11_startAnew (G : EnvG) (l : Launch) (Φ : Hm) (sz x ca : Nat)  (hx : G.2.2.2 ≤ x) (hI : In G x ca Φ)  : Ct G l yX11_startAnew wsX11_startAnew ({ frames := 4, cells := 0, slots := 0, locals := 89 }) 0 0 [.ref x] Φ sz (fun v Φ1 sz1 => (v = none) ∧ sz1 = sz ∧ In G x (ca) Φ1 ∧ Fr x (fun j9 => (3 ≤ j9 ∧ j9 < 24) ∨ (46 ≤ j9 ∧ j9 < 149)) Φ Φ1) := by
  refine Ct.of (cc := cX11_startAnew) (maxL := 1) (ret := none) (by decide) rfl (Nat.le_of_ble_eq_true rfl) ?_
  intro p9 e9 s9 m9 w9 t9 k9 B
  show Z p9 l e9 _ s9 m9 _ w9 t9 k9 _ G 1 0 [(0, .ref x)] [] Φ sz 0 0
  refine z_aload_n B dX11_startAnew_0 rfl 0 rfl ?_
  have h_1 := in0 (k := 0) hI rfl
  have h_2 : Φ x = some (o_ 13 [.ref (x + 1), .ref (x + 3), .ref (x + 24), .ref (x + 46), .ref (x + 74), .ref (x + 80), .ref (x + 132), .ref (x + 121)]) := h_1
  refine z_get (ref := "FlowExporter") (C := RX11) (T := TX11) (N := 8) (ci := 13) (v := .ref (x + 3)) B (by decide +kernel) rfl 1 (by decide) (by decide +kernel) rfl h_2 rfl dX11_startAnew_1 ?_
  refine z_aload_n B dX11_startAnew_4 rfl 0 rfl ?_
  refine z_get (ref := "FlowExporter") (C := RX11) (T := TX11) (N := 8) (ci := 13) (v := .ref (x + 24)) B (by decide +kernel) rfl 2 (by decide) (by decide +kernel) rfl h_2 rfl dX11_startAnew_5 ?_
  obtain ⟨v_1, v_2, v_3, v_4, v_5, v_6, h_3⟩ := in10 (k := 24) hI rfl
  have h_4 : Φ (x + 24) = some (o_ 8 [.ref (x + 25), .int v_1, .int v_2, .ref (x + 1), .int v_3, .int v_4, .int v_5, .int v_6]) := h_3
  refine z_get (ref := "FlowExporter$Parser") (C := RX6) (T := TX6) (N := 8) (ci := 8) (v := .ref (x + 25)) B (by decide +kernel) rfl 0 (by decide) (by decide +kernel) rfl h_4 rfl dX11_startAnew_8 ?_
  obtain ⟨v_7, v_8, h_5⟩ := in3 (k := 3) hI rfl
  have h_6 : Φ (x + 3) = some (o_ 3 [.ref (x + 4), .ref (x + 5), .ref (x + 6), .ref (x + 7), .int v_7, .int v_8]) := h_5
  refine z_callV (As := [.ref (x + 25)]) (rest := []) B (s_X1_copyFrom G l Φ sz x (ca)  hx hI ) (cwV 1 B.1.2.2.2.2 gX11_startAnew_X1_copyFrom rfl rfl rfl (by decide +kernel) ⟨Nat.le_of_ble_eq_true rfl, Nat.le_of_ble_eq_true rfl⟩) h_6 rfl rfl rfl rfl (Nat.le_of_ble_eq_true rfl) dX11_startAnew_11 ⟨Nat.le_of_ble_eq_true rfl, Nat.le_of_ble_eq_true rfl⟩ (fun r_1 Φ1 sz1 st1 hp1 hs1 => ?_)
  obtain ⟨rfl, hq1, hI1, hF1⟩ := hp1
  subst sz1
  replace hs1 : st1 = [] := hs1
  subst st1
  replace hI1 : In G x (ca) Φ1 := hI1
  refine z_aload_n B dX11_startAnew_14 rfl 0 rfl ?_
  have h_7 : Φ1 x = some (o_ 13 [.ref (x + 1), .ref (x + 3), .ref (x + 24), .ref (x + 46), .ref (x + 74), .ref (x + 80), .ref (x + 132), .ref (x + 121)]) := ((hF1 x (fun j9 h8 h7 => by have h6 : 3 ≤ j9 ∧ j9 < 24 := h7; omega)).trans h_2)
  refine z_get (ref := "FlowExporter") (C := RX11) (T := TX11) (N := 8) (ci := 13) (v := .ref (x + 46)) B (by decide +kernel) rfl 3 (by decide) (by decide +kernel) rfl h_7 rfl dX11_startAnew_15 ?_
  obtain ⟨n_1, v_9, h_8, b_1⟩ := in11 (k := 46) hI1 rfl
  have h_9 : Φ1 (x + 46) = some (o_ 9 [.ref (x + 47), .int (nI n_1), .int v_9]) := h_8
  refine z_callV (As := []) (rest := []) B (s_X7_clear G l Φ1 sz x (ca)  hx hI1 ) (cwV 0 B.1.2.2.2.2 gX11_startAnew_X7_clear rfl rfl rfl (by decide +kernel) ⟨Nat.le_of_ble_eq_true rfl, Nat.le_of_ble_eq_true rfl⟩) h_9 rfl rfl rfl rfl (Nat.le_of_ble_eq_true rfl) dX11_startAnew_18 ⟨Nat.le_of_ble_eq_true rfl, Nat.le_of_ble_eq_true rfl⟩ (fun r_2 Φ2 sz2 st2 hp2 hs2 => ?_)
  obtain ⟨rfl, hq2, hI2, hF2⟩ := hp2
  subst sz2
  replace hs2 : st2 = [] := hs2
  subst st2
  replace hI2 : In G x (ca) Φ2 := hI2
  refine z_aload_n B dX11_startAnew_21 rfl 0 rfl ?_
  have h_10 : Φ2 x = some (o_ 13 [.ref (x + 1), .ref (x + 3), .ref (x + 24), .ref (x + 46), .ref (x + 74), .ref (x + 80), .ref (x + 132), .ref (x + 121)]) := ((hF2 x (fun j9 h8 h7 => by have h6 : j9 = 46 := h7; omega)).trans h_7)
  refine z_get (ref := "FlowExporter") (C := RX11) (T := TX11) (N := 8) (ci := 13) (v := .ref (x + 74)) B (by decide +kernel) rfl 4 (by decide) (by decide +kernel) rfl h_10 rfl dX11_startAnew_22 ?_
  obtain ⟨n_2, v_10, v_11, v_12, h_11, b_2⟩ := in13 (k := 74) hI2 rfl
  have h_12 : Φ2 (x + 74) = some (o_ 10 [.ref (x + 3), .ref (x + 46), .ref (x + 75), .ref (x + 77), .int (nI n_2), .ref (x + 78), .ref (x + 79), .int v_10, .long v_11, .int v_12]) := h_11
  refine z_callV (As := []) (rest := []) B (s_X8_clear G l Φ2 sz x (ca)  hx hI2 ) (cwV 0 B.1.2.2.2.2 gX11_startAnew_X8_clear rfl rfl rfl (by decide +kernel) ⟨Nat.le_of_ble_eq_true rfl, Nat.le_of_ble_eq_true rfl⟩) h_12 rfl rfl rfl rfl (Nat.le_of_ble_eq_true rfl) dX11_startAnew_25 ⟨Nat.le_of_ble_eq_true rfl, Nat.le_of_ble_eq_true rfl⟩ (fun r_3 Φ3 sz3 st3 hp3 hs3 => ?_)
  obtain ⟨rfl, hq3, hI3, hF3⟩ := hp3
  subst sz3
  replace hs3 : st3 = [] := hs3
  subst st3
  replace hI3 : In G x (ca) Φ3 := hI3
  refine z_aload_n B dX11_startAnew_28 rfl 0 rfl ?_
  have h_13 : Φ3 x = some (o_ 13 [.ref (x + 1), .ref (x + 3), .ref (x + 24), .ref (x + 46), .ref (x + 74), .ref (x + 80), .ref (x + 132), .ref (x + 121)]) := ((hF3 x (fun j9 h8 h7 => by have h6 : 74 ≤ j9 ∧ j9 < 80 := h7; omega)).trans h_10)
  refine z_get (ref := "FlowExporter") (C := RX11) (T := TX11) (N := 8) (ci := 13) (v := .ref (x + 80)) B (by decide +kernel) rfl 5 (by decide) (by decide +kernel) rfl h_13 rfl dX11_startAnew_29 ?_
  obtain ⟨v_13, v_14, v_15, v_16, v_17, v_18, v_19, v_20, v_21, h_14, b_3⟩ := in16 (k := 80) hI3 rfl
  have h_15 : Φ3 (x + 80) = some (o_ 4 [.ref (x + 3), .ref (x + 74), .ref (x + 81), .ref (x + 95), .int v_13, .int v_14, .int v_15, .int v_16, .int v_17, .int v_18, .long v_19, .long v_20, .long v_21]) := h_14
  refine z_callV (As := []) (rest := []) B (s_X2_clear G l Φ3 sz x (ca)  hx hI3 ) (cwV 0 B.1.2.2.2.2 gX11_startAnew_X2_clear rfl rfl rfl (by decide +kernel) ⟨Nat.le_of_ble_eq_true rfl, Nat.le_of_ble_eq_true rfl⟩) h_15 rfl rfl rfl rfl (Nat.le_of_ble_eq_true rfl) dX11_startAnew_32 ⟨Nat.le_of_ble_eq_true rfl, Nat.le_of_ble_eq_true rfl⟩ (fun r_4 Φ4 sz4 st4 hp4 hs4 => ?_)
  obtain ⟨rfl, hq4, hI4, hF4⟩ := hp4
  subst sz4
  replace hs4 : st4 = [] := hs4
  subst st4
  replace hI4 : In G x (ca) Φ4 := hI4
  refine z_aload_n B dX11_startAnew_35 rfl 0 rfl ?_
  have h_16 : Φ4 x = some (o_ 13 [.ref (x + 1), .ref (x + 3), .ref (x + 24), .ref (x + 46), .ref (x + 74), .ref (x + 80), .ref (x + 132), .ref (x + 121)]) := ((hF4 x (fun j9 h8 h7 => by have h6 : j9 = 80 ∨ j9 = 81 ∨ j9 = 95 := h7; omega)).trans h_13)
  refine z_get (ref := "FlowExporter") (C := RX11) (T := TX11) (N := 8) (ci := 13) (v := .ref (x + 121)) B (by decide +kernel) rfl 7 (by decide) (by decide +kernel) rfl h_16 rfl dX11_startAnew_36 ?_
  refine z_iconst (v := 0) B dX11_startAnew_39 rfl ?_
  obtain ⟨n_3, h_17, b_4⟩ := in20 (k := 121) hI4 rfl
  have h_18 : Φ4 (x + 121) = some (o_ 11 [.ref (x + 122), .ref (x + 123), .ref (x + 126), .ref (x + 129), .int (nI n_3)]) := h_17
  refine z_put (ref := "FlowExporter$Sums") (C := RX9) (T := TX9) (N := 5) (ci := 11) (v := .int 0) B (by decide +kernel) tyX9 tyX9_ok nmX9 rfl 4 (by decide) (by decide +kernel) rfl (Or.inl rfl) h_18 (Nat.le_trans hx (Nat.le_add_right x 121)) rfl rfl (Nat.le_of_ble_eq_true rfl) dX11_startAnew_40 (fun Φ5 hΦ1 => ?_)
  have h_19 : Φ5 (x + 121) = some (o_ 11 [.ref (x + 122), .ref (x + 123), .ref (x + 126), .ref (x + 129), .int 0]) := fset_at hΦ1
  have hI5 : In G x (ca) Φ5 := In.put (k := 121) hI4 hΦ1 (ok20 (k := 121) rfl ⟨0, rfl, (show 0 ≤ 24 by omega)⟩)
  refine z_aload_n B dX11_startAnew_43 rfl 0 rfl ?_
  have h_20 : Φ5 x = some (o_ 13 [.ref (x + 1), .ref (x + 3), .ref (x + 24), .ref (x + 46), .ref (x + 74), .ref (x + 80), .ref (x + 132), .ref (x + 121)]) := ((fset_fr hΦ1 (ne_off (x := x) (i := 0) (j := 121) rfl)).trans h_16)
  refine z_get (ref := "FlowExporter") (C := RX11) (T := TX11) (N := 8) (ci := 13) (v := .ref (x + 132)) B (by decide +kernel) rfl 6 (by decide) (by decide +kernel) rfl h_20 rfl dX11_startAnew_44 ?_
  obtain ⟨n_4, v_22, v_23, h_21, b_5⟩ := in25 (k := 132) hI5 rfl
  have h_22 : Φ5 (x + 132) = some (o_ 2 [.ref (x + 3), .ref (x + 121), .ref (x + 133), .ref (x + 134), .ref (x + 135), .ref (x + 137), .ref (x + 138), .ref (x + 139), .ref (x + 140), .int (nI n_4), .int v_22, .int v_23]) := h_21
  refine z_callV (As := []) (rest := []) B (s_X0_clear G l Φ5 sz x (ca)  hx hI5 ) (cwV 0 B.1.2.2.2.2 gX11_startAnew_X0_clear rfl rfl rfl (by decide +kernel) ⟨Nat.le_of_ble_eq_true rfl, Nat.le_of_ble_eq_true rfl⟩) h_22 rfl rfl rfl rfl (Nat.le_of_ble_eq_true rfl) dX11_startAnew_47 ⟨Nat.le_of_ble_eq_true rfl, Nat.le_of_ble_eq_true rfl⟩ (fun r_5 Φ6 sz5 st5 hp5 hs5 => ?_)
  obtain ⟨rfl, hq5, hI6, hF5⟩ := hp5
  subst sz5
  replace hs5 : st5 = [] := hs5
  subst st5
  replace hI6 : In G x (ca) Φ6 := hI6
  exact z_ret_v B dX11_startAnew_50 ⟨rfl, rfl, hI6, (fun b9 h9 => ((hF5 b9 (fun j9 h8 h7 => h9 j9 h8 (show (3 ≤ j9 ∧ j9 < 24) ∨ (46 ≤ j9 ∧ j9 < 149) by have h6 : 132 ≤ j9 ∧ j9 < 149 := h7; omega))).trans ((fset_fr hΦ1 (fun h8 => h9 (121) h8 (show (3 ≤ 121 ∧ 121 < 24) ∨ (46 ≤ 121 ∧ 121 < 149) by omega))).trans ((hF4 b9 (fun j9 h8 h7 => h9 j9 h8 (show (3 ≤ j9 ∧ j9 < 24) ∨ (46 ≤ j9 ∧ j9 < 149) by have h6 : j9 = 80 ∨ j9 = 81 ∨ j9 = 95 := h7; omega))).trans ((hF3 b9 (fun j9 h8 h7 => h9 j9 h8 (show (3 ≤ j9 ∧ j9 < 24) ∨ (46 ≤ j9 ∧ j9 < 149) by have h6 : 74 ≤ j9 ∧ j9 < 80 := h7; omega))).trans ((hF2 b9 (fun j9 h8 h7 => h9 j9 h8 (show (3 ≤ j9 ∧ j9 < 24) ∨ (46 ≤ j9 ∧ j9 < 149) by have h6 : j9 = 46 := h7; omega))).trans ((hF1 b9 (fun j9 h8 h7 => h9 j9 h8 (show (3 ≤ j9 ∧ j9 < 24) ∨ (46 ≤ j9 ∧ j9 < 149) by have h6 : 3 ≤ j9 ∧ j9 < 24 := h7; omega))).trans rfl)))))))⟩

set_option maxHeartbeats 4000000 in
set_option maxRecDepth 100000 in
theorem s_X11_errorCode (G : EnvG) (l : Launch) (Φ : Hm) (sz x ca : Nat)  (hx : G.2.2.2 ≤ x) (hI : In G x ca Φ)  : Ct G l yX11_errorCode wsX11_errorCode ({ frames := 0, cells := 0, slots := 0, locals := 0 }) 0 0 [.ref x] Φ sz (fun v Φ1 sz1 => (∃ r9 : Int32, v = some (.int r9)) ∧ sz1 = sz ∧ In G x (ca) Φ1 ∧ Fr x (fun j9 => (3 ≤ j9 ∧ j9 < 24) ∨ (46 ≤ j9 ∧ j9 < 149)) Φ Φ1) := by
  refine Ct.of (cc := cX11_errorCode) (maxL := 1) (ret := (some .int)) (by decide) rfl (Nat.le_of_ble_eq_true rfl) ?_
  intro p9 e9 s9 m9 w9 t9 k9 B
  show Z p9 l e9 _ s9 m9 _ w9 t9 k9 _ G 1 0 [(0, .ref x)] [] Φ sz 0 0
  refine z_aload_n B dX11_errorCode_0 rfl 0 rfl ?_
  have h_1 := in0 (k := 0) hI rfl
  have h_2 : Φ x = some (o_ 13 [.ref (x + 1), .ref (x + 3), .ref (x + 24), .ref (x + 46), .ref (x + 74), .ref (x + 80), .ref (x + 132), .ref (x + 121)]) := h_1
  refine z_get (ref := "FlowExporter") (C := RX11) (T := TX11) (N := 8) (ci := 13) (v := .ref (x + 24)) B (by decide +kernel) rfl 2 (by decide) (by decide +kernel) rfl h_2 rfl dX11_errorCode_1 ?_
  obtain ⟨v_1, v_2, v_3, v_4, v_5, v_6, h_3⟩ := in10 (k := 24) hI rfl
  have h_4 : Φ (x + 24) = some (o_ 8 [.ref (x + 25), .int v_1, .int v_2, .ref (x + 1), .int v_3, .int v_4, .int v_5, .int v_6]) := h_3
  refine z_get (ref := "FlowExporter$Parser") (C := RX6) (T := TX6) (N := 8) (ci := 8) (v := .int v_1) B (by decide +kernel) rfl 1 (by decide) (by decide +kernel) rfl h_4 rfl dX11_errorCode_4 ?_
  exact z_ret_i B dX11_errorCode_7 ⟨⟨_, rfl⟩, rfl, hI, (fun b9 h9 => rfl)⟩

set_option maxHeartbeats 4000000 in
set_option maxRecDepth 100000 in
theorem s_X11_errorPosition (G : EnvG) (l : Launch) (Φ : Hm) (sz x ca : Nat)  (hx : G.2.2.2 ≤ x) (hI : In G x ca Φ)  : Ct G l yX11_errorPosition wsX11_errorPosition ({ frames := 0, cells := 0, slots := 0, locals := 0 }) 0 0 [.ref x] Φ sz (fun v Φ1 sz1 => (∃ r9 : Int32, v = some (.int r9)) ∧ sz1 = sz ∧ In G x (ca) Φ1 ∧ Fr x (fun j9 => (3 ≤ j9 ∧ j9 < 24) ∨ (46 ≤ j9 ∧ j9 < 149)) Φ Φ1) := by
  refine Ct.of (cc := cX11_errorPosition) (maxL := 1) (ret := (some .int)) (by decide) rfl (Nat.le_of_ble_eq_true rfl) ?_
  intro p9 e9 s9 m9 w9 t9 k9 B
  show Z p9 l e9 _ s9 m9 _ w9 t9 k9 _ G 1 0 [(0, .ref x)] [] Φ sz 0 0
  refine z_aload_n B dX11_errorPosition_0 rfl 0 rfl ?_
  have h_1 := in0 (k := 0) hI rfl
  have h_2 : Φ x = some (o_ 13 [.ref (x + 1), .ref (x + 3), .ref (x + 24), .ref (x + 46), .ref (x + 74), .ref (x + 80), .ref (x + 132), .ref (x + 121)]) := h_1
  refine z_get (ref := "FlowExporter") (C := RX11) (T := TX11) (N := 8) (ci := 13) (v := .ref (x + 24)) B (by decide +kernel) rfl 2 (by decide) (by decide +kernel) rfl h_2 rfl dX11_errorPosition_1 ?_
  obtain ⟨v_1, v_2, v_3, v_4, v_5, v_6, h_3⟩ := in10 (k := 24) hI rfl
  have h_4 : Φ (x + 24) = some (o_ 8 [.ref (x + 25), .int v_1, .int v_2, .ref (x + 1), .int v_3, .int v_4, .int v_5, .int v_6]) := h_3
  refine z_get (ref := "FlowExporter$Parser") (C := RX6) (T := TX6) (N := 8) (ci := 8) (v := .int v_2) B (by decide +kernel) rfl 2 (by decide) (by decide +kernel) rfl h_4 rfl dX11_errorPosition_4 ?_
  exact z_ret_i B dX11_errorPosition_7 ⟨⟨_, rfl⟩, rfl, hI, (fun b9 h9 => rfl)⟩

set_option maxHeartbeats 4000000 in
set_option maxRecDepth 100000 in
theorem s_X11_now (G : EnvG) (l : Launch) (Φ : Hm) (sz x ca : Nat)  (hx : G.2.2.2 ≤ x) (hI : In G x ca Φ)  : Ct G l yX11_now wsX11_now ({ frames := 0, cells := 0, slots := 0, locals := 0 }) 0 0 [.ref x] Φ sz (fun v Φ1 sz1 => (∃ r9 : Int32, v = some (.int r9)) ∧ sz1 = sz ∧ In G x (ca) Φ1 ∧ Fr x (fun j9 => (3 ≤ j9 ∧ j9 < 24) ∨ (46 ≤ j9 ∧ j9 < 149)) Φ Φ1) := by
  refine Ct.of (cc := cX11_now) (maxL := 1) (ret := (some .int)) (by decide) rfl (Nat.le_of_ble_eq_true rfl) ?_
  intro p9 e9 s9 m9 w9 t9 k9 B
  show Z p9 l e9 _ s9 m9 _ w9 t9 k9 _ G 1 0 [(0, .ref x)] [] Φ sz 0 0
  refine z_aload_n B dX11_now_0 rfl 0 rfl ?_
  have h_1 := in0 (k := 0) hI rfl
  have h_2 : Φ x = some (o_ 13 [.ref (x + 1), .ref (x + 3), .ref (x + 24), .ref (x + 46), .ref (x + 74), .ref (x + 80), .ref (x + 132), .ref (x + 121)]) := h_1
  refine z_get (ref := "FlowExporter") (C := RX11) (T := TX11) (N := 8) (ci := 13) (v := .ref (x + 80)) B (by decide +kernel) rfl 5 (by decide) (by decide +kernel) rfl h_2 rfl dX11_now_1 ?_
  obtain ⟨v_1, v_2, v_3, v_4, v_5, v_6, v_7, v_8, v_9, h_3, b_1⟩ := in16 (k := 80) hI rfl
  have h_4 : Φ (x + 80) = some (o_ 4 [.ref (x + 3), .ref (x + 74), .ref (x + 81), .ref (x + 95), .int v_1, .int v_2, .int v_3, .int v_4, .int v_5, .int v_6, .long v_7, .long v_8, .long v_9]) := h_3
  refine z_get (ref := "FlowExporter$Exporter") (C := RX2) (T := TX2) (N := 13) (ci := 4) (v := .int v_1) B (by decide +kernel) rfl 4 (by decide) (by decide +kernel) rfl h_4 rfl dX11_now_4 ?_
  exact z_ret_i B dX11_now_7 ⟨⟨_, rfl⟩, rfl, hI, (fun b9 h9 => rfl)⟩

set_option maxHeartbeats 4000000 in
set_option maxRecDepth 100000 in
theorem s_X11_flush (G : EnvG) (l : Launch) (Φ : Hm) (sz x ca : Nat)  (hx : G.2.2.2 ≤ x) (hI : In G x ca Φ)  : Ct G l yX11_flush wsX11_flush ({ frames := 6, cells := 0, slots := 0, locals := 146 }) 0 0 [.ref x] Φ sz (fun v Φ1 sz1 => (∃ n9 : Nat, v = some (.int (nI n9)) ∧ n9 ≤ 12) ∧ sz1 = sz ∧ In G x (ca) Φ1 ∧ Fr x (fun j9 => (3 ≤ j9 ∧ j9 < 24) ∨ (46 ≤ j9 ∧ j9 < 149)) Φ Φ1) := by
  refine Ct.of (cc := cX11_flush) (maxL := 1) (ret := (some .int)) (by decide) rfl (Nat.le_of_ble_eq_true rfl) ?_
  intro p9 e9 s9 m9 w9 t9 k9 B
  show Z p9 l e9 _ s9 m9 _ w9 t9 k9 _ G 1 0 [(0, .ref x)] [] Φ sz 0 0
  refine z_aload_n B dX11_flush_0 rfl 0 rfl ?_
  have h_1 := in0 (k := 0) hI rfl
  have h_2 : Φ x = some (o_ 13 [.ref (x + 1), .ref (x + 3), .ref (x + 24), .ref (x + 46), .ref (x + 74), .ref (x + 80), .ref (x + 132), .ref (x + 121)]) := h_1
  refine z_get (ref := "FlowExporter") (C := RX11) (T := TX11) (N := 8) (ci := 13) (v := .ref (x + 80)) B (by decide +kernel) rfl 5 (by decide) (by decide +kernel) rfl h_2 rfl dX11_flush_1 ?_
  obtain ⟨v_1, v_2, v_3, v_4, v_5, v_6, v_7, v_8, v_9, h_3, b_1⟩ := in16 (k := 80) hI rfl
  have h_4 : Φ (x + 80) = some (o_ 4 [.ref (x + 3), .ref (x + 74), .ref (x + 81), .ref (x + 95), .int v_1, .int v_2, .int v_3, .int v_4, .int v_5, .int v_6, .long v_7, .long v_8, .long v_9]) := h_3
  refine z_callV (As := []) (rest := []) B (s_X2_exportAllAndSend G l Φ sz x (ca)  hx hI ) (cwV 0 B.1.2.2.2.2 gX11_flush_X2_exportAllAndSend rfl rfl rfl (by decide +kernel) ⟨Nat.le_of_ble_eq_true rfl, Nat.le_of_ble_eq_true rfl⟩) h_4 rfl rfl rfl rfl (Nat.le_of_ble_eq_true rfl) dX11_flush_4 ⟨Nat.le_of_ble_eq_true rfl, Nat.le_of_ble_eq_true rfl⟩ (fun r_1 Φ1 sz1 st1 hp1 hs1 => ?_)
  obtain ⟨⟨n_1, rfl, b_2⟩, hq1, hI1, hF1⟩ := hp1
  subst sz1
  replace hs1 : st1 = [.int (nI n_1)] := hs1
  subst st1
  replace hI1 : In G x (ca) Φ1 := hI1
  replace b_2 : n_1 ≤ 12 := b_2
  exact z_ret_i B dX11_flush_7 ⟨⟨n_1, rfl, (show n_1 ≤ 12 by omega)⟩, rfl, hI1, (fun b9 h9 => ((hF1 b9 (fun j9 h8 h7 => h9 j9 h8 (show (3 ≤ j9 ∧ j9 < 24) ∨ (46 ≤ j9 ∧ j9 < 149) by have h6 : 46 ≤ j9 ∧ j9 < 95 := h7; omega))).trans rfl))⟩

set_option maxHeartbeats 4000000 in
set_option maxRecDepth 100000 in
theorem s_X11_cacheSize (G : EnvG) (l : Launch) (Φ : Hm) (sz x ca : Nat)  (hx : G.2.2.2 ≤ x) (hI : In G x ca Φ)  : Ct G l yX11_cacheSize wsX11_cacheSize ({ frames := 0, cells := 0, slots := 0, locals := 0 }) 0 0 [.ref x] Φ sz (fun v Φ1 sz1 => (∃ r9 : Int32, v = some (.int r9)) ∧ sz1 = sz ∧ In G x (ca) Φ1 ∧ Fr x (fun j9 => (3 ≤ j9 ∧ j9 < 24) ∨ (46 ≤ j9 ∧ j9 < 149)) Φ Φ1) := by
  refine Ct.of (cc := cX11_cacheSize) (maxL := 1) (ret := (some .int)) (by decide) rfl (Nat.le_of_ble_eq_true rfl) ?_
  intro p9 e9 s9 m9 w9 t9 k9 B
  show Z p9 l e9 _ s9 m9 _ w9 t9 k9 _ G 1 0 [(0, .ref x)] [] Φ sz 0 0
  refine z_aload_n B dX11_cacheSize_0 rfl 0 rfl ?_
  have h_1 := in0 (k := 0) hI rfl
  have h_2 : Φ x = some (o_ 13 [.ref (x + 1), .ref (x + 3), .ref (x + 24), .ref (x + 46), .ref (x + 74), .ref (x + 80), .ref (x + 132), .ref (x + 121)]) := h_1
  refine z_get (ref := "FlowExporter") (C := RX11) (T := TX11) (N := 8) (ci := 13) (v := .ref (x + 80)) B (by decide +kernel) rfl 5 (by decide) (by decide +kernel) rfl h_2 rfl dX11_cacheSize_1 ?_
  obtain ⟨v_1, v_2, v_3, v_4, v_5, v_6, v_7, v_8, v_9, h_3, b_1⟩ := in16 (k := 80) hI rfl
  have h_4 : Φ (x + 80) = some (o_ 4 [.ref (x + 3), .ref (x + 74), .ref (x + 81), .ref (x + 95), .int v_1, .int v_2, .int v_3, .int v_4, .int v_5, .int v_6, .long v_7, .long v_8, .long v_9]) := h_3
  refine z_get (ref := "FlowExporter$Exporter") (C := RX2) (T := TX2) (N := 13) (ci := 4) (v := .ref (x + 81)) B (by decide +kernel) rfl 2 (by decide) (by decide +kernel) rfl h_4 rfl dX11_cacheSize_4 ?_
  obtain ⟨n_1, h_5, b_2⟩ := in17 (k := 81) hI rfl
  replace b_2 : n_1 ≤ 12 := b_2
  have h_6 : Φ (x + 81) = some (o_ 6 [.ref (x + 82), .int (nI n_1)]) := h_5
  refine z_get (ref := "FlowExporter$FlowTable") (C := RX4) (T := TX4) (N := 2) (ci := 6) (v := .int (nI n_1)) B (by decide +kernel) rfl 1 (by decide) (by decide +kernel) rfl h_6 rfl dX11_cacheSize_7 ?_
  exact z_ret_i B dX11_cacheSize_10 ⟨⟨_, rfl⟩, rfl, hI, (fun b9 h9 => rfl)⟩

set_option maxHeartbeats 4000000 in
set_option maxRecDepth 100000 in
theorem s_X11_rate (G : EnvG) (l : Launch) (Φ : Hm) (sz x ca : Nat)  (hx : G.2.2.2 ≤ x) (hI : In G x ca Φ)  : Ct G l yX11_rate wsX11_rate ({ frames := 0, cells := 0, slots := 0, locals := 0 }) 0 0 [.ref x] Φ sz (fun v Φ1 sz1 => (∃ r9 : Int32, v = some (.int r9)) ∧ sz1 = sz ∧ In G x (ca) Φ1 ∧ Fr x (fun j9 => (3 ≤ j9 ∧ j9 < 24) ∨ (46 ≤ j9 ∧ j9 < 149)) Φ Φ1) := by
  refine Ct.of (cc := cX11_rate) (maxL := 1) (ret := (some .int)) (by decide) rfl (Nat.le_of_ble_eq_true rfl) ?_
  intro p9 e9 s9 m9 w9 t9 k9 B
  show Z p9 l e9 _ s9 m9 _ w9 t9 k9 _ G 1 0 [(0, .ref x)] [] Φ sz 0 0
  refine z_aload_n B dX11_rate_0 rfl 0 rfl ?_
  have h_1 := in0 (k := 0) hI rfl
  have h_2 : Φ x = some (o_ 13 [.ref (x + 1), .ref (x + 3), .ref (x + 24), .ref (x + 46), .ref (x + 74), .ref (x + 80), .ref (x + 132), .ref (x + 121)]) := h_1
  refine z_get (ref := "FlowExporter") (C := RX11) (T := TX11) (N := 8) (ci := 13) (v := .ref (x + 80)) B (by decide +kernel) rfl 5 (by decide) (by decide +kernel) rfl h_2 rfl dX11_rate_1 ?_
  obtain ⟨v_1, v_2, v_3, v_4, v_5, v_6, v_7, v_8, v_9, h_3, b_1⟩ := in16 (k := 80) hI rfl
  have h_4 : Φ (x + 80) = some (o_ 4 [.ref (x + 3), .ref (x + 74), .ref (x + 81), .ref (x + 95), .int v_1, .int v_2, .int v_3, .int v_4, .int v_5, .int v_6, .long v_7, .long v_8, .long v_9]) := h_3
  refine z_get (ref := "FlowExporter$Exporter") (C := RX2) (T := TX2) (N := 13) (ci := 4) (v := .int v_2) B (by decide +kernel) rfl 5 (by decide) (by decide +kernel) rfl h_4 rfl dX11_rate_4 ?_
  exact z_ret_i B dX11_rate_7 ⟨⟨_, rfl⟩, rfl, hI, (fun b9 h9 => rfl)⟩

set_option maxHeartbeats 4000000 in
set_option maxRecDepth 100000 in
theorem s_X11_rateBits (G : EnvG) (l : Launch) (Φ : Hm) (sz x ca : Nat)  (hx : G.2.2.2 ≤ x) (hI : In G x ca Φ)  : Ct G l yX11_rateBits wsX11_rateBits ({ frames := 1, cells := 0, slots := 0, locals := 23 }) 0 0 [.ref x] Φ sz (fun v Φ1 sz1 => (∃ r9 : Int32, v = some (.int r9)) ∧ sz1 = sz ∧ In G x (ca) Φ1 ∧ Fr x (fun j9 => (3 ≤ j9 ∧ j9 < 24) ∨ (46 ≤ j9 ∧ j9 < 149)) Φ Φ1) := by
  refine Ct.of (cc := cX11_rateBits) (maxL := 1) (ret := (some .int)) (by decide) rfl (Nat.le_of_ble_eq_true rfl) ?_
  intro p9 e9 s9 m9 w9 t9 k9 B
  show Z p9 l e9 _ s9 m9 _ w9 t9 k9 _ G 1 0 [(0, .ref x)] [] Φ sz 0 0
  refine z_aload_n B dX11_rateBits_0 rfl 0 rfl ?_
  have h_1 := in0 (k := 0) hI rfl
  have h_2 : Φ x = some (o_ 13 [.ref (x + 1), .ref (x + 3), .ref (x + 24), .ref (x + 46), .ref (x + 74), .ref (x + 80), .ref (x + 132), .ref (x + 121)]) := h_1
  refine z_get (ref := "FlowExporter") (C := RX11) (T := TX11) (N := 8) (ci := 13) (v := .ref (x + 80)) B (by decide +kernel) rfl 5 (by decide) (by decide +kernel) rfl h_2 rfl dX11_rateBits_1 ?_
  obtain ⟨v_1, v_2, v_3, v_4, v_5, v_6, v_7, v_8, v_9, h_3, b_1⟩ := in16 (k := 80) hI rfl
  have h_4 : Φ (x + 80) = some (o_ 4 [.ref (x + 3), .ref (x + 74), .ref (x + 81), .ref (x + 95), .int v_1, .int v_2, .int v_3, .int v_4, .int v_5, .int v_6, .long v_7, .long v_8, .long v_9]) := h_3
  refine z_get (ref := "FlowExporter$Exporter") (C := RX2) (T := TX2) (N := 13) (ci := 4) (v := .int v_2) B (by decide +kernel) rfl 5 (by decide) (by decide +kernel) rfl h_4 rfl dX11_rateBits_4 ?_
  refine z_callS (As := [.int v_2]) (rest := []) B (s_X2_bitsOfInverse G l Φ sz x (ca) v_2 hx hI ) (va_cwS 1 B.1.2.2.2.2 gX11_rateBits_X2_bitsOfInverse rfl rfl rfl (by decide +kernel) ⟨Nat.le_of_ble_eq_true rfl, Nat.le_of_ble_eq_true rfl⟩) rfl rfl (Nat.le_of_ble_eq_true rfl) dX11_rateBits_7 ⟨Nat.le_of_ble_eq_true rfl, Nat.le_of_ble_eq_true rfl⟩ (fun r_1 Φ1 sz1 st1 hp1 hs1 => ?_)
  obtain ⟨⟨v_10, rfl⟩, hq1, hI1, hF1⟩ := hp1
  subst sz1
  replace hs1 : st1 = [.int v_10] := hs1
  subst st1
  replace hI1 : In G x (ca) Φ1 := hI1
  exact z_ret_i B dX11_rateBits_10 ⟨⟨_, rfl⟩, rfl, hI1, (fun b9 h9 => ((hF1 b9 (fun j9 h8 h7 => (show False from h7).elim)).trans rfl))⟩

set_option maxRecDepth 20000 in
theorem ggX8_beginMessage_X7_freeMessage : GoodIn wsX8_beginMessage wsX7_freeMessage := (goodIn_ca (goodIn_ca (goodIn_r _ [8, 9, 10, 11, 12, 13, 7, 14, 15] rfl (by decide +kernel)) (goodIn_sub (fun _ h => List.mem_cons_of_mem _ (List.mem_append_left _ (List.mem_append_left _ (List.mem_append_left _ (List.mem_append_left _ (List.mem_append_right _ h)))))) gw_wsX70)) (goodIn_sub (fun _ h => List.mem_cons_of_mem _ (List.mem_append_left _ (List.mem_append_left _ (List.mem_append_left _ (List.mem_append_right _ h))))) gw_wsX50))
set_option maxRecDepth 20000 in
theorem gX8_beginMessage_X7_freeMessage : GoodIn wsX8_beginMessage (wsV RX8 129 RX7 yX7_freeMessage wsX7_freeMessage) := goodIn_app (goodIn_of _ (by decide +kernel)) ggX8_beginMessage_X7_freeMessage
set_option maxRecDepth 20000 in
theorem ggX8_beginMessage_X5_put : GoodIn wsX8_beginMessage wsX5_put := goodIn_ca ((goodIn_ca (goodIn_r _ [20, 21, 22] rfl (by decide +kernel)) (goodIn_sub (fun _ h => List.mem_cons_of_mem _ (List.mem_append_left _ (List.mem_append_left _ (List.mem_append_left _ (List.mem_append_right _ h))))) gw_wsX50))) (goodIn_sub (fun _ h => List.mem_cons_of_mem _ (List.mem_append_right _ h)) (all_fg _))
set_option maxRecDepth 20000 in
theorem gX8_beginMessage_X5_put : GoodIn wsX8_beginMessage (wsV RX8 106 RX5 yX5_put wsX5_put) := goodIn_app (goodIn_of _ (by decide +kernel)) ggX8_beginMessage_X5_put
set_option maxRecDepth 20000 in
theorem ggX8_beginMessage_X8_putTemplateSet : GoodIn wsX8_beginMessage wsX8_putTemplateSet := goodIn_ca ((goodIn_ca (goodIn_ca (goodIn_ca (goodIn_ca (goodIn_r _ [27, 28, 29, 30, 31, 32, 33, 34, 35, 26, 36, 37, 38, 39, 40, 41, 42, 43, 44, 45, 46, 47, 48, 49, 16, 17, 18, 19, 20, 21, 22, 50, 51, 52, 53, 54, 55, 56, 57, 58, 59, 60, 61, 62, 63, 64, 65, 66, 67, 68] rfl (by decide +kernel)) (goodIn_sub (fun _ h => List.mem_cons_of_mem _ (List.mem_append_left _ (List.mem_append_left _ (List.mem_append_left _ (List.mem_append_right _ h))))) gw_wsX50)) (goodIn_sub (fun _ h => List.mem_cons_of_mem _ (List.mem_append_left _ (List.mem_append_left _ (List.mem_append_left _ (List.mem_append_left _ (List.mem_append_left _ (List.mem_append_right _ h))))))) gw_wsX80)) (goodIn_sub (fun _ h => List.mem_cons_of_mem _ (List.mem_append_left _ (List.mem_append_left _ (List.mem_append_right _ h)))) gw_wsX100)) (goodIn_sub (fun _ h => List.mem_cons_of_mem _ (List.mem_append_left _ (List.mem_append_right _ h))) gw_wsX10))) (goodIn_sub (fun _ h => List.mem_cons_of_mem _ (List.mem_append_right _ h)) (all_fg _))
set_option maxRecDepth 20000 in
theorem gX8_beginMessage_X8_putTemplateSet : GoodIn wsX8_beginMessage (wsV RX8 137 RX8 yX8_putTemplateSet wsX8_putTemplateSet) := goodIn_app (goodIn_of _ (by decide +kernel)) ggX8_beginMessage_X8_putTemplateSet
theorem dX8_beginMessage_0 : decode cX8_beginMessage 0 = .ok (.aload_n 0, 1) := by decide +kernel
theorem dX8_beginMessage_1 : decode cX8_beginMessage 1 = .ok (.getfield 48, 3) := by decide +kernel
theorem dX8_beginMessage_4 : decode cX8_beginMessage 4 = .ok (.invokevirtual 129, 3) := by decide +kernel
theorem dX8_beginMessage_7 : decode cX8_beginMessage 7 = .ok (.astore_n 2, 1) := by decide +kernel
theorem dX8_beginMessage_8 : decode cX8_beginMessage 8 = .ok (.aload_n 2, 1) := by decide +kernel
theorem dX8_beginMessage_9 : decode cX8_beginMessage 9 = .ok (.ldc2_w 135, 3) := by decide +kernel
theorem dX8_beginMessage_12 : decode cX8_beginMessage 12 = .ok (.iconst 2, 1) := by decide +kernel
theorem dX8_beginMessage_13 : decode cX8_beginMessage 13 = .ok (.invokevirtual 106, 3) := by decide +kernel
theorem dX8_beginMessage_16 : decode cX8_beginMessage 16 = .ok (.aload_n 2, 1) := by decide +kernel
theorem dX8_beginMessage_17 : decode cX8_beginMessage 17 = .ok (.lconst 0, 1) := by decide +kernel
theorem dX8_beginMessage_18 : decode cX8_beginMessage 18 = .ok (.iconst 2, 1) := by decide +kernel
theorem dX8_beginMessage_19 : decode cX8_beginMessage 19 = .ok (.invokevirtual 106, 3) := by decide +kernel
theorem dX8_beginMessage_22 : decode cX8_beginMessage 22 = .ok (.aload_n 2, 1) := by decide +kernel
theorem dX8_beginMessage_23 : decode cX8_beginMessage 23 = .ok (.iload_n 1, 1) := by decide +kernel
theorem dX8_beginMessage_24 : decode cX8_beginMessage 24 = .ok (.i2l, 1) := by decide +kernel
theorem dX8_beginMessage_25 : decode cX8_beginMessage 25 = .ok (.iconst 4, 1) := by decide +kernel
theorem dX8_beginMessage_26 : decode cX8_beginMessage 26 = .ok (.invokevirtual 106, 3) := by decide +kernel
theorem dX8_beginMessage_29 : decode cX8_beginMessage 29 = .ok (.aload_n 2, 1) := by decide +kernel
theorem dX8_beginMessage_30 : decode cX8_beginMessage 30 = .ok (.aload_n 0, 1) := by decide +kernel
theorem dX8_beginMessage_31 : decode cX8_beginMessage 31 = .ok (.getfield 41, 3) := by decide +kernel
theorem dX8_beginMessage_34 : decode cX8_beginMessage 34 = .ok (.i2l, 1) := by decide +kernel
theorem dX8_beginMessage_35 : decode cX8_beginMessage 35 = .ok (.iconst 4, 1) := by decide +kernel
theorem dX8_beginMessage_36 : decode cX8_beginMessage 36 = .ok (.invokevirtual 106, 3) := by decide +kernel
theorem dX8_beginMessage_39 : decode cX8_beginMessage 39 = .ok (.aload_n 2, 1) := by decide +kernel
theorem dX8_beginMessage_40 : decode cX8_beginMessage 40 = .ok (.lconst 0, 1) := by decide +kernel
theorem dX8_beginMessage_41 : decode cX8_beginMessage 41 = .ok (.iconst 4, 1) := by decide +kernel
theorem dX8_beginMessage_42 : decode cX8_beginMessage 42 = .ok (.invokevirtual 106, 3) := by decide +kernel
theorem dX8_beginMessage_45 : decode cX8_beginMessage 45 = .ok (.aload_n 0, 1) := by decide +kernel
theorem dX8_beginMessage_46 : decode cX8_beginMessage 46 = .ok (.aload_n 2, 1) := by decide +kernel
theorem dX8_beginMessage_47 : decode cX8_beginMessage 47 = .ok (.iload_n 1, 1) := by decide +kernel
theorem dX8_beginMessage_48 : decode cX8_beginMessage 48 = .ok (.invokevirtual 137, 3) := by decide +kernel
theorem dX8_beginMessage_51 : decode cX8_beginMessage 51 = .ok (.aload_n 2, 1) := by decide +kernel
theorem dX8_beginMessage_52 : decode cX8_beginMessage 52 = .ok (.areturn, 1) := by decide +kernel
set_option maxRecDepth 20000 in
theorem ggX8_endMessage_X5_putAt : GoodIn wsX8_endMessage wsX5_putAt := goodIn_ca ((goodIn_ca (goodIn_r _ [10, 11, 12] rfl (by decide +kernel)) (goodIn_sub (fun _ h => List.mem_cons_of_mem _ (List.mem_append_left _ (List.mem_append_left _ (List.mem_append_left _ (List.mem_append_right _ h))))) gw_wsX50))) (goodIn_sub (fun _ h => List.mem_cons_of_mem _ (List.mem_append_right _ h)) (all_fg _))
set_option maxRecDepth 20000 in
theorem gX8_endMessage_X5_putAt : GoodIn wsX8_endMessage (wsV RX8 125 RX5 yX5_putAt wsX5_putAt) := goodIn_app (goodIn_of _ (by decide +kernel)) ggX8_endMessage_X5_putAt
set_option maxRecDepth 20000 in
theorem ggX8_endMessage_X7_addFreeMessage : GoodIn wsX8_endMessage wsX7_addFreeMessage := (goodIn_ca (goodIn_r _ [17, 18, 19] rfl (by decide +kernel)) (goodIn_sub (fun _ h => List.mem_cons_of_mem _ (List.mem_append_left _ (List.mem_append_right _ h))) gw_wsX70))
set_option maxRecDepth 20000 in
theorem gX8_endMessage_X7_addFreeMessage : GoodIn wsX8_endMessage (wsV RX8 140 RX7 yX7_addFreeMessage wsX7_addFreeMessage) := goodIn_app (goodIn_of _ (by decide +kernel)) ggX8_endMessage_X7_addFreeMessage
theorem dX8_endMessage_0 : decode cX8_endMessage 0 = .ok (.aload_n 1, 1) := by decide +kernel
theorem dX8_endMessage_1 : decode cX8_endMessage 1 = .ok (.iconst 2, 1) := by decide +kernel
theorem dX8_endMessage_2 : decode cX8_endMessage 2 = .ok (.aload_n 1, 1) := by decide +kernel
theorem dX8_endMessage_3 : decode cX8_endMessage 3 = .ok (.getfield 61, 3) := by decide +kernel
theorem dX8_endMessage_6 : decode cX8_endMessage 6 = .ok (.i2l, 1) := by decide +kernel
theorem dX8_endMessage_7 : decode cX8_endMessage 7 = .ok (.iconst 2, 1) := by decide +kernel
theorem dX8_endMessage_8 : decode cX8_endMessage 8 = .ok (.invokevirtual 125, 3) := by decide +kernel
theorem dX8_endMessage_11 : decode cX8_endMessage 11 = .ok (.aload_n 1, 1) := by decide +kernel
theorem dX8_endMessage_12 : decode cX8_endMessage 12 = .ok (.bipush 12, 2) := by decide +kernel
theorem dX8_endMessage_14 : decode cX8_endMessage 14 = .ok (.iload_n 2, 1) := by decide +kernel
theorem dX8_endMessage_15 : decode cX8_endMessage 15 = .ok (.i2l, 1) := by decide +kernel
theorem dX8_endMessage_16 : decode cX8_endMessage 16 = .ok (.iconst 4, 1) := by decide +kernel
theorem dX8_endMessage_17 : decode cX8_endMessage 17 = .ok (.invokevirtual 125, 3) := by decide +kernel
theorem dX8_endMessage_20 : decode cX8_endMessage 20 = .ok (.aload_n 0, 1) := by decide +kernel
theorem dX8_endMessage_21 : decode cX8_endMessage 21 = .ok (.getfield 48, 3) := by decide +kernel
theorem dX8_endMessage_24 : decode cX8_endMessage 24 = .ok (.invokevirtual 140, 3) := by decide +kernel
theorem dX8_endMessage_27 : decode cX8_endMessage 27 = .ok (.aload_n 0, 1) := by decide +kernel
theorem dX8_endMessage_28 : decode cX8_endMessage 28 = .ok (.dup, 1) := by decide +kernel
theorem dX8_endMessage_29 : decode cX8_endMessage 29 = .ok (.getfield 34, 3) := by decide +kernel
theorem dX8_endMessage_32 : decode cX8_endMessage 32 = .ok (.iconst 1, 1) := by decide +kernel
theorem dX8_endMessage_33 : decode cX8_endMessage 33 = .ok (.iadd, 1) := by decide +kernel
theorem dX8_endMessage_34 : decode cX8_endMessage 34 = .ok (.putfield 34, 3) := by decide +kernel
theorem dX8_endMessage_37 : decode cX8_endMessage 37 = .ok (.aload_n 0, 1) := by decide +kernel
theorem dX8_endMessage_38 : decode cX8_endMessage 38 = .ok (.dup, 1) := by decide +kernel
theorem dX8_endMessage_39 : decode cX8_endMessage 39 = .ok (.getfield 37, 3) := by decide +kernel
theorem dX8_endMessage_42 : decode cX8_endMessage 42 = .ok (.iload_n 2, 1) := by decide +kernel
theorem dX8_endMessage_43 : decode cX8_endMessage 43 = .ok (.i2l, 1) := by decide +kernel
theorem dX8_endMessage_44 : decode cX8_endMessage 44 = .ok (.ladd, 1) := by decide +kernel
theorem dX8_endMessage_45 : decode cX8_endMessage 45 = .ok (.putfield 37, 3) := by decide +kernel
theorem dX8_endMessage_48 : decode cX8_endMessage 48 = .ok (.aload_n 0, 1) := by decide +kernel
theorem dX8_endMessage_49 : decode cX8_endMessage 49 = .ok (.dup, 1) := by decide +kernel
theorem dX8_endMessage_50 : decode cX8_endMessage 50 = .ok (.getfield 41, 3) := by decide +kernel
theorem dX8_endMessage_53 : decode cX8_endMessage 53 = .ok (.iload_n 2, 1) := by decide +kernel
theorem dX8_endMessage_54 : decode cX8_endMessage 54 = .ok (.iadd, 1) := by decide +kernel
theorem dX8_endMessage_55 : decode cX8_endMessage 55 = .ok (.putfield 41, 3) := by decide +kernel
theorem dX8_endMessage_58 : decode cX8_endMessage 58 = .ok (.return_, 1) := by decide +kernel
set_option maxRecDepth 20000 in
theorem ggX8_putTemplateSet_X8_mustSend : GoodIn wsX8_putTemplateSet wsX8_mustSend := goodIn_ca ((goodIn_ca (goodIn_ca (goodIn_ca (goodIn_r _ [10, 11, 12, 3, 4, 5, 13, 14, 15, 16, 17, 18, 19, 20, 21, 22, 23] rfl (by decide +kernel)) (goodIn_sub (fun _ h => List.mem_cons_of_mem _ (List.mem_append_left _ (List.mem_append_left _ (List.mem_append_left _ (List.mem_append_right _ h))))) gw_wsX80)) (goodIn_sub (fun _ h => List.mem_cons_of_mem _ (List.mem_append_left _ (List.mem_append_left _ (List.mem_append_right _ h)))) gw_wsX100)) (goodIn_sub (fun _ h => List.mem_cons_of_mem _ (List.mem_append_left _ (List.mem_append_right _ h))) gw_wsX10))) (goodIn_sub (fun _ h => List.mem_cons_of_mem _ (List.mem_append_right _ h)) (all_fg _))
set_option maxRecDepth 20000 in
theorem gX8_putTemplateSet_X8_mustSend : GoodIn wsX8_putTemplateSet (wsV RX8 143 RX8 yX8_mustSend wsX8_mustSend) := goodIn_app (goodIn_of _ (by decide +kernel)) ggX8_putTemplateSet_X8_mustSend
set_option maxRecDepth 20000 in
theorem ggX8_putTemplateSet_X5_put : GoodIn wsX8_putTemplateSet wsX5_put := goodIn_ca ((goodIn_ca (goodIn_r _ [28, 29, 30] rfl (by decide +kernel)) (goodIn_sub (fun _ h => List.mem_cons_of_mem _ (List.mem_append_left _ (List.mem_append_left _ (List.mem_append_left _ (List.mem_append_left _ (List.mem_append_right _ h)))))) gw_wsX50))) (goodIn_sub (fun _ h => List.mem_cons_of_mem _ (List.mem_append_right _ h)) (all_fg _))
set_option maxRecDepth 20000 in
theorem gX8_putTemplateSet_X5_put : GoodIn wsX8_putTemplateSet (wsV RX8 106 RX5 yX5_put wsX5_put) := goodIn_app (goodIn_of _ (by decide +kernel)) ggX8_putTemplateSet_X5_put
set_option maxRecDepth 20000 in
theorem ggX8_putTemplateSet_X8_putTemplate : GoodIn wsX8_putTemplateSet wsX8_putTemplate := goodIn_ca ((goodIn_ca (goodIn_ca (goodIn_ca (goodIn_ca (goodIn_r _ [34, 11, 12, 13, 14, 15, 16, 17, 18, 24, 25, 26, 27, 28, 29, 30, 35, 36, 37, 38, 39, 40, 41, 42, 43, 44, 45] rfl (by decide +kernel)) (goodIn_sub (fun _ h => List.mem_cons_of_mem _ (List.mem_append_left _ (List.mem_append_left _ (List.mem_append_left _ (List.mem_append_right _ h))))) gw_wsX80)) (goodIn_sub (fun _ h => List.mem_cons_of_mem _ (List.mem_append_left _ (List.mem_append_left _ (List.mem_append_right _ h)))) gw_wsX100)) (goodIn_sub (fun _ h => List.mem_cons_of_mem _ (List.mem_append_left _ (List.mem_append_right _ h))) gw_wsX10)) (goodIn_sub (fun _ h => List.mem_cons_of_mem _ (List.mem_append_left _ (List.mem_append_left _ (List.mem_append_left _ (List.mem_append_left _ (List.mem_append_right _ h)))))) gw_wsX50))) (goodIn_sub (fun _ h => List.mem_cons_of_mem _ (List.mem_append_right _ h)) (all_fg _))
set_option maxRecDepth 20000 in
theorem gX8_putTemplateSet_X8_putTemplate : GoodIn wsX8_putTemplateSet (wsV RX8 149 RX8 yX8_putTemplate wsX8_putTemplate) := goodIn_app (goodIn_of _ (by decide +kernel)) ggX8_putTemplateSet_X8_putTemplate
set_option maxRecDepth 20000 in
theorem ggX8_putTemplateSet_X5_putAt : GoodIn wsX8_putTemplateSet wsX5_putAt := goodIn_ca ((goodIn_ca (goodIn_r _ [49, 29, 30] rfl (by decide +kernel)) (goodIn_sub (fun _ h => List.mem_cons_of_mem _ (List.mem_append_left _ (List.mem_append_left _ (List.mem_append_left _ (List.mem_append_left _ (List.mem_append_right _ h)))))) gw_wsX50))) (goodIn_sub (fun _ h => List.mem_cons_of_mem _ (List.mem_append_right _ h)) (all_fg _))
set_option maxRecDepth 20000 in
theorem gX8_putTemplateSet_X5_putAt : GoodIn wsX8_putTemplateSet (wsV RX8 125 RX5 yX5_putAt wsX5_putAt) := goodIn_app (goodIn_of _ (by decide +kernel)) ggX8_putTemplateSet_X5_putAt
theorem dX8_putTemplateSet_0 : decode cX8_putTemplateSet 0 = .ok (.aload_n 1, 1) := by decide +kernel
theorem dX8_putTemplateSet_1 : decode cX8_putTemplateSet 1 = .ok (.getfield 61, 3) := by decide +kernel
theorem dX8_putTemplateSet_4 : decode cX8_putTemplateSet 4 = .ok (.istore_n 3, 1) := by decide +kernel
theorem dX8_putTemplateSet_5 : decode cX8_putTemplateSet 5 = .ok (.iconst 0, 1) := by decide +kernel
theorem dX8_putTemplateSet_6 : decode cX8_putTemplateSet 6 = .ok (.istore 4, 2) := by decide +kernel
theorem dX8_putTemplateSet_8 : decode cX8_putTemplateSet 8 = .ok (.iload 4, 2) := by decide +kernel
theorem dX8_putTemplateSet_10 : decode cX8_putTemplateSet 10 = .ok (.iconst 4, 1) := by decide +kernel
theorem dX8_putTemplateSet_11 : decode cX8_putTemplateSet 11 = .ok (.if_icmp .ge 69, 3) := by decide +kernel
theorem dX8_putTemplateSet_14 : decode cX8_putTemplateSet 14 = .ok (.aload_n 0, 1) := by decide +kernel
theorem dX8_putTemplateSet_15 : decode cX8_putTemplateSet 15 = .ok (.iload 4, 2) := by decide +kernel
theorem dX8_putTemplateSet_17 : decode cX8_putTemplateSet 17 = .ok (.iload_n 2, 1) := by decide +kernel
theorem dX8_putTemplateSet_18 : decode cX8_putTemplateSet 18 = .ok (.invokevirtual 143, 3) := by decide +kernel
theorem dX8_putTemplateSet_21 : decode cX8_putTemplateSet 21 = .ok (.ifCond .eq 53, 3) := by decide +kernel
theorem dX8_putTemplateSet_24 : decode cX8_putTemplateSet 24 = .ok (.aload_n 1, 1) := by decide +kernel
theorem dX8_putTemplateSet_25 : decode cX8_putTemplateSet 25 = .ok (.getfield 61, 3) := by decide +kernel
theorem dX8_putTemplateSet_28 : decode cX8_putTemplateSet 28 = .ok (.iload_n 3, 1) := by decide +kernel
theorem dX8_putTemplateSet_29 : decode cX8_putTemplateSet 29 = .ok (.if_icmp .ne 17, 3) := by decide +kernel
theorem dX8_putTemplateSet_32 : decode cX8_putTemplateSet 32 = .ok (.aload_n 1, 1) := by decide +kernel
theorem dX8_putTemplateSet_33 : decode cX8_putTemplateSet 33 = .ok (.ldc2_w 147, 3) := by decide +kernel
theorem dX8_putTemplateSet_36 : decode cX8_putTemplateSet 36 = .ok (.iconst 2, 1) := by decide +kernel
theorem dX8_putTemplateSet_37 : decode cX8_putTemplateSet 37 = .ok (.invokevirtual 106, 3) := by decide +kernel
theorem dX8_putTemplateSet_40 : decode cX8_putTemplateSet 40 = .ok (.aload_n 1, 1) := by decide +kernel
theorem dX8_putTemplateSet_41 : decode cX8_putTemplateSet 41 = .ok (.lconst 0, 1) := by decide +kernel
theorem dX8_putTemplateSet_42 : decode cX8_putTemplateSet 42 = .ok (.iconst 2, 1) := by decide +kernel
theorem dX8_putTemplateSet_43 : decode cX8_putTemplateSet 43 = .ok (.invokevirtual 106, 3) := by decide +kernel
theorem dX8_putTemplateSet_46 : decode cX8_putTemplateSet 46 = .ok (.aload_n 0, 1) := by decide +kernel
theorem dX8_putTemplateSet_47 : decode cX8_putTemplateSet 47 = .ok (.aload_n 1, 1) := by decide +kernel
theorem dX8_putTemplateSet_48 : decode cX8_putTemplateSet 48 = .ok (.iload 4, 2) := by decide +kernel
theorem dX8_putTemplateSet_50 : decode cX8_putTemplateSet 50 = .ok (.invokevirtual 149, 3) := by decide +kernel
theorem dX8_putTemplateSet_53 : decode cX8_putTemplateSet 53 = .ok (.aload_n 0, 1) := by decide +kernel
theorem dX8_putTemplateSet_54 : decode cX8_putTemplateSet 54 = .ok (.getfield 28, 3) := by decide +kernel
theorem dX8_putTemplateSet_57 : decode cX8_putTemplateSet 57 = .ok (.iload 4, 2) := by decide +kernel
theorem dX8_putTemplateSet_59 : decode cX8_putTemplateSet 59 = .ok (.aload_n 0, 1) := by decide +kernel
theorem dX8_putTemplateSet_60 : decode cX8_putTemplateSet 60 = .ok (.getfield 34, 3) := by decide +kernel
theorem dX8_putTemplateSet_63 : decode cX8_putTemplateSet 63 = .ok (.iconst 1, 1) := by decide +kernel
theorem dX8_putTemplateSet_64 : decode cX8_putTemplateSet 64 = .ok (.iadd, 1) := by decide +kernel
theorem dX8_putTemplateSet_65 : decode cX8_putTemplateSet 65 = .ok (.iastore, 1) := by decide +kernel
theorem dX8_putTemplateSet_66 : decode cX8_putTemplateSet 66 = .ok (.aload_n 0, 1) := by decide +kernel
theorem dX8_putTemplateSet_67 : decode cX8_putTemplateSet 67 = .ok (.getfield 31, 3) := by decide +kernel
theorem dX8_putTemplateSet_70 : decode cX8_putTemplateSet 70 = .ok (.iload 4, 2) := by decide +kernel
theorem dX8_putTemplateSet_72 : decode cX8_putTemplateSet 72 = .ok (.iload_n 2, 1) := by decide +kernel
theorem dX8_putTemplateSet_73 : decode cX8_putTemplateSet 73 = .ok (.iastore, 1) := by decide +kernel
theorem dX8_putTemplateSet_74 : decode cX8_putTemplateSet 74 = .ok (.iinc 4 1, 3) := by decide +kernel
theorem dX8_putTemplateSet_77 : decode cX8_putTemplateSet 77 = .ok (.goto (-69), 3) := by decide +kernel
theorem dX8_putTemplateSet_80 : decode cX8_putTemplateSet 80 = .ok (.aload_n 1, 1) := by decide +kernel
theorem dX8_putTemplateSet_81 : decode cX8_putTemplateSet 81 = .ok (.getfield 61, 3) := by decide +kernel
theorem dX8_putTemplateSet_84 : decode cX8_putTemplateSet 84 = .ok (.iload_n 3, 1) := by decide +kernel
theorem dX8_putTemplateSet_85 : decode cX8_putTemplateSet 85 = .ok (.if_icmp .le 18, 3) := by decide +kernel
theorem dX8_putTemplateSet_88 : decode cX8_putTemplateSet 88 = .ok (.aload_n 1, 1) := by decide +kernel
theorem dX8_putTemplateSet_89 : decode cX8_putTemplateSet 89 = .ok (.iload_n 3, 1) := by decide +kernel
theorem dX8_putTemplateSet_90 : decode cX8_putTemplateSet 90 = .ok (.iconst 2, 1) := by decide +kernel
theorem dX8_putTemplateSet_91 : decode cX8_putTemplateSet 91 = .ok (.iadd, 1) := by decide +kernel
theorem dX8_putTemplateSet_92 : decode cX8_putTemplateSet 92 = .ok (.aload_n 1, 1) := by decide +kernel
theorem dX8_putTemplateSet_93 : decode cX8_putTemplateSet 93 = .ok (.getfield 61, 3) := by decide +kernel
theorem dX8_putTemplateSet_96 : decode cX8_putTemplateSet 96 = .ok (.iload_n 3, 1) := by decide +kernel
theorem dX8_putTemplateSet_97 : decode cX8_putTemplateSet 97 = .ok (.isub, 1) := by decide +kernel
theorem dX8_putTemplateSet_98 : decode cX8_putTemplateSet 98 = .ok (.i2l, 1) := by decide +kernel
theorem dX8_putTemplateSet_99 : decode cX8_putTemplateSet 99 = .ok (.iconst 2, 1) := by decide +kernel
theorem dX8_putTemplateSet_100 : decode cX8_putTemplateSet 100 = .ok (.invokevirtual 125, 3) := by decide +kernel
theorem dX8_putTemplateSet_103 : decode cX8_putTemplateSet 103 = .ok (.return_, 1) := by decide +kernel
set_option maxHeartbeats 4000000 in
set_option maxRecDepth 100000 in
theorem s_X8_putTemplateSet (G : EnvG) (l : Launch) (Φ : Hm) (sz x ca : Nat) (k : Nat) (a : Int32) (hx : G.2.2.2 ≤ x) (hI : In G x ca Φ) (hk_k : kd k = 1) (hq1 : 48 ≤ k) (hq2 : k < 73) : Ct G l yX8_putTemplateSet wsX8_putTemplateSet ({ frames := 2, cells := 0, slots := 0, locals := 49 }) 0 0 [.ref (x + 74), .ref (x + (k)), .int a] Φ sz (fun v Φ1 sz1 => (v = none) ∧ sz1 = sz ∧ In G x (ca) Φ1 ∧ Fr x (fun j9 => 48 ≤ j9 ∧ j9 < 80) Φ Φ1) := by
  refine Ct.of (cc := cX8_putTemplateSet) (maxL := 5) (ret := none) (by decide) rfl (Nat.le_of_ble_eq_true rfl) ?_
  intro p9 e9 s9 m9 w9 t9 k9 B
  show Z p9 l e9 _ s9 m9 _ w9 t9 k9 _ G 5 0 [(0, .ref (x + 74)), (1, .ref (x + (k))), (2, .int a)] [] Φ sz 0 0
  refine z_aload_n B dX8_putTemplateSet_0 rfl 1 rfl ?_
  obtain ⟨n_1, h_1, b_1⟩ := in1 (k := k) hI hk_k
  replace b_1 : n_1 ≤ cap (k) := b_1
  have b_2 := cap_le (k)
  have h_2 : Φ (x + (k)) = some (o_ 7 [.ref (x + (k + 1)), .int (nI n_1)]) := h_1
  refine z_get (ref := "FlowExporter$Message") (C := RX5) (T := TX5) (N := 2) (ci := 7) (v := .int (nI n_1)) B (by decide +kernel) rfl 1 (by decide) (by decide +kernel) rfl h_2 rfl dX8_putTemplateSet_1 ?_
  refine z_istore_n (lv' := [(3, .int (nI n_1)), (0, .ref (x + 74)), (1, .ref (x + (k))), (2, .int a)]) B dX8_putTemplateSet_4 rfl (Nat.le_of_ble_eq_true rfl) rfl ?_
  refine z_iconst (v := 0) B dX8_putTemplateSet_5 rfl ?_
  refine z_istore (lv' := [(4, .int 0), (3, .int (nI n_1)), (0, .ref (x + 74)), (1, .ref (x + (k))), (2, .int a)]) B dX8_putTemplateSet_6 (Nat.le_of_ble_eq_true rfl) rfl ?_
  refine z_lv [0, 1, 2, 3, 4] rfl ?_
  refine z_loop (α := Nat) (fun (a9 : Nat) Φi => In G x (ca) Φi ∧ Fr x (fun j9 => 48 ≤ j9 ∧ j9 < 80) Φ Φi ∧ (a9 ≤ 4) ∧ True) (fun a9 => [(4, .int (nI a9)), (3, .int (nI n_1)), (0, .ref (x + 74)), (1, .ref (x + (k))), (2, .int a)]) (fun a9 => 4 - a9) ?_ (0) ⟨hI, fun _ _ => rfl, (show 0 ≤ 4 by omega), trivial⟩
  rintro i_1 Φl1 ⟨hI1, hF1, b_3, -⟩ ih1
  replace hI1 : In G x (ca) Φl1 := hI1
  replace b_3 : i_1 ≤ 4 := b_3
  show Z p9 l e9 _ s9 m9 _ w9 t9 k9 _ G 5 8 [(4, .int (nI i_1)), (3, .int (nI n_1)), (0, .ref (x + 74)), (1, .ref (x + (k))), (2, .int a)] [] Φl1 _ _ _
  refine z_iload B dX8_putTemplateSet_8 0 rfl ?_
  refine z_iconst (v := 4) B dX8_putTemplateSet_10 rfl ?_
  refine z_icmp_ge (tgt := 80) B dX8_putTemplateSet_11 rfl (fun c_1 => ?_) (fun c_1 => ?_)
  · have e_1 : 4 ≤ i_1 := (nI_leI (a := 4) (b := i_1) (by omega) (by omega)).mp c_1
    refine z_aload_n B dX8_putTemplateSet_80 rfl 3 rfl ?_
    obtain ⟨n_2, h_3, b_4⟩ := in1 (k := k) hI1 hk_k
    replace b_4 : n_2 ≤ cap (k) := b_4
    have b_5 := cap_le (k)
    have h_4 : Φl1 (x + (k)) = some (o_ 7 [.ref (x + (k + 1)), .int (nI n_2)]) := h_3
    refine z_get (ref := "FlowExporter$Message") (C := RX5) (T := TX5) (N := 2) (ci := 7) (v := .int (nI n_2)) B (by decide +kernel) rfl 1 (by decide) (by decide +kernel) rfl h_4 rfl dX8_putTemplateSet_81 ?_
    refine z_iload_n B dX8_putTemplateSet_84 rfl 1 rfl ?_
    refine z_icmp_le (tgt := 103) B dX8_putTemplateSet_85 rfl (fun c_2 => ?_) (fun c_2 => ?_)
    · have e_2 : n_2 ≤ n_1 := (nI_leI (a := n_2) (b := n_1) (by omega) (by omega)).mp c_2
      exact z_ret_v B dX8_putTemplateSet_103 ⟨rfl, rfl, hI1, (fun b9 h9 => ((hF1 b9 (fun j9 h8 h7 => h9 j9 h8 (show 48 ≤ j9 ∧ j9 < 80 by have h6 : 48 ≤ j9 ∧ j9 < 80 := h7; omega))).trans rfl))⟩
    · have e_3 : ¬ (n_2 ≤ n_1) := fun h9 => c_2 ((nI_leI (a := n_2) (b := n_1) (by omega) (by omega)).mpr h9)
      refine z_aload_n B dX8_putTemplateSet_88 rfl 3 rfl ?_
      refine z_iload_n B dX8_putTemplateSet_89 rfl 1 rfl ?_
      refine z_iconst (v := 2) B dX8_putTemplateSet_90 rfl ?_
      refine z_iadd B dX8_putTemplateSet_91 ?_
      refine z_top (st1 := [.int (nI (n_1 + 2)), .ref (x + (k))]) (congrArg (fun w9 : Int32 => ([.int w9, .ref (x + (k))] : List Value)) (nI_add n_1 2)) ?_
      refine z_aload_n B dX8_putTemplateSet_92 rfl 3 rfl ?_
      refine z_get (ref := "FlowExporter$Message") (C := RX5) (T := TX5) (N := 2) (ci := 7) (v := .int (nI n_2)) B (by decide +kernel) rfl 1 (by decide) (by decide +kernel) rfl h_4 rfl dX8_putTemplateSet_93 ?_
      refine z_iload_n B dX8_putTemplateSet_96 rfl 1 rfl ?_
      refine z_isub B dX8_putTemplateSet_97 ?_
      refine z_fi (fun v_1 => ?_)
      refine z_i2l (v := v_1.toInt64) B dX8_putTemplateSet_98 rfl ?_
      refine z_fl (fun v_2 => ?_)
      refine z_iconst (v := 2) B dX8_putTemplateSet_99 rfl ?_
      refine z_callV (As := [.int (nI (n_1 + 2)), .long v_2, .int 2]) (rest := []) B (s_X5_putAt G l Φl1 sz x (ca) k (nI (n_1 + 2)) v_2 2 hx hI1 hk_k (show 2 ≤ 8 by omega)) (cwV 3 B.1.2.2.2.2 gX8_putTemplateSet_X5_putAt rfl rfl rfl (by decide +kernel) ⟨Nat.le_of_ble_eq_true rfl, Nat.le_of_ble_eq_true rfl⟩) h_4 rfl rfl rfl rfl (Nat.le_of_ble_eq_true rfl) dX8_putTemplateSet_100 ⟨Nat.le_of_ble_eq_true rfl, Nat.le_of_ble_eq_true rfl⟩ (fun r_1 Φ1 sz1 st1 hp1 hs1 => ?_)
      obtain ⟨rfl, hq1, hI2, hF2⟩ := hp1
      subst sz1
      replace hs1 : st1 = [] := hs1
      subst st1
      replace hI2 : In G x (ca) Φ1 := hI2
      exact z_ret_v B dX8_putTemplateSet_103 ⟨rfl, rfl, hI2, (fun b9 h9 => ((hF2 b9 (fun j9 h8 h7 => h9 j9 h8 (show 48 ≤ j9 ∧ j9 < 80 by have h6 : j9 = k + 1 := h7; omega))).trans ((hF1 b9 (fun j9 h8 h7 => h9 j9 h8 (show 48 ≤ j9 ∧ j9 < 80 by have h6 : 48 ≤ j9 ∧ j9 < 80 := h7; omega))).trans rfl)))⟩
  · have e_4 : ¬ (4 ≤ i_1) := fun h9 => c_1 ((nI_leI (a := 4) (b := i_1) (by omega) (by omega)).mpr h9)
    refine z_aload_n B dX8_putTemplateSet_14 rfl 2 rfl ?_
    refine z_iload B dX8_putTemplateSet_15 0 rfl ?_
    refine z_iload_n B dX8_putTemplateSet_17 rfl 4 rfl ?_
    obtain ⟨n_3, v_3, v_4, v_5, h_5, b_6⟩ := in13 (k := 74) hI1 rfl
    have h_6 : Φl1 (x + 74) = some (o_ 10 [.ref (x + 3), .ref (x + 46), .ref (x + 75), .ref (x + 77), .int (nI n_3), .ref (x + 78), .ref (x + 79), .int v_3, .long v_4, .int v_5]) := h_5
    refine z_callV (As := [.int (nI i_1), .int a]) (rest := []) B (s_X8_mustSend G l Φl1 sz x (ca) (nI i_1) a hx hI1 ) (cwV 2 B.1.2.2.2.2 gX8_putTemplateSet_X8_mustSend rfl rfl rfl (by decide +kernel) ⟨Nat.le_of_ble_eq_true rfl, Nat.le_of_ble_eq_true rfl⟩) h_6 rfl rfl rfl rfl (Nat.le_of_ble_eq_true rfl) dX8_putTemplateSet_18 ⟨Nat.le_of_ble_eq_true rfl, Nat.le_of_ble_eq_true rfl⟩ (fun r_2 Φ2 sz2 st2 hp2 hs2 => ?_)
    obtain ⟨⟨v_6, rfl, b_7⟩, hq2, hI3, hF3⟩ := hp2
    subst sz2
    replace hs2 : st2 = [.int v_6] := hs2
    subst st2
    replace hI3 : In G x (ca) Φ2 := hI3
    refine z_if_eq (tgt := 74) B dX8_putTemplateSet_21 rfl (fun c_3 => ?_) (fun c_3 => ?_)
    · refine z_iinc (k := 0) (v := nI (i_1 + 1)) (lv' := [(4, .int (nI (i_1 + 1))), (3, .int (nI n_1)), (0, .ref (x + 74)), (1, .ref (x + (k))), (2, .int a)]) B dX8_putTemplateSet_74 rfl (nI_add i_1 1) (Nat.le_of_ble_eq_true rfl) rfl ?_
      refine z_goto (tgt := 8) B dX8_putTemplateSet_77 rfl ?_
      refine z_lv [0, 1, 2, 3, 4] rfl ?_
      exact ih1 (i_1 + 1) Φ2 (show 4 - (i_1 + 1) < 4 - i_1 by omega) ⟨hI3, (fun b9 h9 => ((hF3 b9 (fun j9 h8 h7 => (show False from h7).elim)).trans ((hF1 b9 (fun j9 h8 h7 => h9 j9 h8 (show 48 ≤ j9 ∧ j9 < 80 by have h6 : 48 ≤ j9 ∧ j9 < 80 := h7; omega))).trans rfl))), (show (i_1 + 1) ≤ 4 by omega), trivial⟩
    · refine z_aload_n B dX8_putTemplateSet_24 rfl 3 rfl ?_
      obtain ⟨n_4, h_7, b_8⟩ := in1 (k := k) hI3 hk_k
      replace b_8 : n_4 ≤ cap (k) := b_8
      have b_9 := cap_le (k)
      have h_8 : Φ2 (x + (k)) = some (o_ 7 [.ref (x + (k + 1)), .int (nI n_4)]) := h_7
      refine z_get (ref := "FlowExporter$Message") (C := RX5) (T := TX5) (N := 2) (ci := 7) (v := .int (nI n_4)) B (by decide +kernel) rfl 1 (by decide) (by decide +kernel) rfl h_8 rfl dX8_putTemplateSet_25 ?_
      refine z_iload_n B dX8_putTemplateSet_28 rfl 1 rfl ?_
      refine z_icmp_ne (tgt := 46) B dX8_putTemplateSet_29 rfl (fun c_4 => ?_) (fun c_4 => ?_)
      · have e_5 : ¬ (n_4 = n_1) := fun h9 => c_4 ((nI_eq (a := n_4) (b := n_1) (by omega) (by omega)).mpr h9)
        refine z_aload_n B dX8_putTemplateSet_46 rfl 2 rfl ?_
        refine z_aload_n B dX8_putTemplateSet_47 rfl 3 rfl ?_
        refine z_iload B dX8_putTemplateSet_48 0 rfl ?_
        have h_9 : Φ2 (x + 74) = some (o_ 10 [.ref (x + 3), .ref (x + 46), .ref (x + 75), .ref (x + 77), .int (nI n_3), .ref (x + 78), .ref (x + 79), .int v_3, .long v_4, .int v_5]) := ((hF3 (x + 74) (fun j9 h8 h7 => (show False from h7).elim)).trans h_6)
        refine z_callV (As := [.ref (x + (k)), .int (nI i_1)]) (rest := []) B (s_X8_putTemplate G l Φ2 sz x (ca) k (nI i_1) hx hI3 hk_k (show 48 ≤ k by omega) (show k < 73 by omega)) (cwV 2 B.1.2.2.2.2 gX8_putTemplateSet_X8_putTemplate rfl rfl rfl (by decide +kernel) ⟨Nat.le_of_ble_eq_true rfl, Nat.le_of_ble_eq_true rfl⟩) h_9 rfl rfl rfl rfl (Nat.le_of_ble_eq_true rfl) dX8_putTemplateSet_50 ⟨Nat.le_of_ble_eq_true rfl, Nat.le_of_ble_eq_true rfl⟩ (fun r_3 Φ3 sz3 st3 hp3 hs3 => ?_)
        obtain ⟨rfl, hq3, hI4, hF4⟩ := hp3
        subst sz3
        replace hs3 : st3 = [] := hs3
        subst st3
        replace hI4 : In G x (ca) Φ3 := hI4
        refine z_aload_n B dX8_putTemplateSet_53 rfl 2 rfl ?_
        have h_10 : Φ3 (x + 74) = some (o_ 10 [.ref (x + 3), .ref (x + 46), .ref (x + 75), .ref (x + 77), .int (nI n_3), .ref (x + 78), .ref (x + 79), .int v_3, .long v_4, .int v_5]) := ((hF4 (x + 74) (fun j9 h8 h7 => by have h6 : 48 ≤ j9 ∧ j9 < 74 := h7; omega)).trans h_9)
        refine z_get (ref := "FlowExporter$Sender") (C := RX8) (T := TX8) (N := 10) (ci := 10) (v := .ref (x + 78)) B (by decide +kernel) rfl 5 (by decide) (by decide +kernel) rfl h_10 rfl dX8_putTemplateSet_54 ?_
        refine z_iload B dX8_putTemplateSet_57 0 rfl ?_
        refine z_aload_n B dX8_putTemplateSet_59 rfl 2 rfl ?_
        refine z_get (ref := "FlowExporter$Sender") (C := RX8) (T := TX8) (N := 10) (ci := 10) (v := .int v_3) B (by decide +kernel) rfl 7 (by decide) (by decide +kernel) rfl h_10 rfl dX8_putTemplateSet_60 ?_
        refine z_iconst (v := 1) B dX8_putTemplateSet_63 rfl ?_
        refine z_iadd B dX8_putTemplateSet_64 ?_
        refine z_fi (fun v_7 => ?_)
        obtain ⟨f_1, h_11⟩ := in15 (k := 78) hI4 rfl
        have h_12 : Φ3 (x + 78) = some (ai_ G 4 f_1) := h_11
        refine z_iast B h_12 (Nat.le_trans hx (Nat.le_add_right x 78)) (vp_in_nI (by omega) (by omega)) dX8_putTemplateSet_65 (fun Φ4 hΦ1 => ?_)
        have h_13 : Φ4 (x + 78) = some (ai_ G 4 (upd f_1 (nI i_1).toNatClampNeg v_7)) := fset_at hΦ1
        have hI5 : In G x (ca) Φ4 := In.put (k := 78) hI4 hΦ1 (ok15 (k := 78) rfl ⟨_, rfl⟩)
        refine z_aload_n B dX8_putTemplateSet_66 rfl 2 rfl ?_
        have h_14 : Φ4 (x + 74) = some (o_ 10 [.ref (x + 3), .ref (x + 46), .ref (x + 75), .ref (x + 77), .int (nI n_3), .ref (x + 78), .ref (x + 79), .int v_3, .long v_4, .int v_5]) := ((fset_fr hΦ1 (ne_off (x := x) (i := 74) (j := 78) rfl)).trans h_10)
        refine z_get (ref := "FlowExporter$Sender") (C := RX8) (T := TX8) (N := 10) (ci := 10) (v := .ref (x + 79)) B (by decide +kernel) rfl 6 (by decide) (by decide +kernel) rfl h_14 rfl dX8_putTemplateSet_67 ?_
        refine z_iload B dX8_putTemplateSet_70 0 rfl ?_
        refine z_iload_n B dX8_putTemplateSet_72 rfl 4 rfl ?_
        obtain ⟨f_2, h_15⟩ := in15 (k := 79) hI5 rfl
        have h_16 : Φ4 (x + 79) = some (ai_ G 4 f_2) := h_15
        refine z_iast B h_16 (Nat.le_trans hx (Nat.le_add_right x 79)) (vp_in_nI (by omega) (by omega)) dX8_putTemplateSet_73 (fun Φ5 hΦ2 => ?_)
        have h_17 : Φ5 (x + 79) = some (ai_ G 4 (upd f_2 (nI i_1).toNatClampNeg a)) := fset_at hΦ2
        have hI6 : In G x (ca) Φ5 := In.put (k := 79) hI5 hΦ2 (ok15 (k := 79) rfl ⟨_, rfl⟩)
        refine z_iinc (k := 0) (v := nI (i_1 + 1)) (lv' := [(4, .int (nI (i_1 + 1))), (3, .int (nI n_1)), (0, .ref (x + 74)), (1, .ref (x + (k))), (2, .int a)]) B dX8_putTemplateSet_74 rfl (nI_add i_1 1) (Nat.le_of_ble_eq_true rfl) rfl ?_
        refine z_goto (tgt := 8) B dX8_putTemplateSet_77 rfl ?_
        refine z_lv [0, 1, 2, 3, 4] rfl ?_
        exact ih1 (i_1 + 1) Φ5 (show 4 - (i_1 + 1) < 4 - i_1 by omega) ⟨hI6, (fun b9 h9 => ((fset_fr hΦ2 (fun h8 => h9 (79) h8 (show 48 ≤ 79 ∧ 79 < 80 by omega))).trans ((fset_fr hΦ1 (fun h8 => h9 (78) h8 (show 48 ≤ 78 ∧ 78 < 80 by omega))).trans ((hF4 b9 (fun j9 h8 h7 => h9 j9 h8 (show 48 ≤ j9 ∧ j9 < 80 by have h6 : 48 ≤ j9 ∧ j9 < 74 := h7; omega))).trans ((hF3 b9 (fun j9 h8 h7 => (show False from h7).elim)).trans ((hF1 b9 (fun j9 h8 h7 => h9 j9 h8 (show 48 ≤ j9 ∧ j9 < 80 by have h6 : 48 ≤ j9 ∧ j9 < 80 := h7; omega))).trans rfl)))))), (show (i_1 + 1) ≤ 4 by omega), trivial⟩
      · have e_6 : n_4 = n_1 := (nI_eq (a := n_4) (b := n_1) (by omega) (by omega)).mp c_4
        refine z_aload_n B dX8_putTemplateSet_32 rfl 3 rfl ?_
        refine z_ldc2 (v := 2) B (by decide +kernel) dX8_putTemplateSet_33 ?_
        refine z_iconst (v := 2) B dX8_putTemplateSet_36 rfl ?_
        refine z_callV (As := [.long 2, .int 2]) (rest := []) B (s_X5_put G l Φ2 sz x (ca) k 2 2 hx hI3 hk_k (show 2 ≤ 8 by omega)) (cwV 2 B.1.2.2.2.2 gX8_putTemplateSet_X5_put rfl rfl rfl (by decide +kernel) ⟨Nat.le_of_ble_eq_true rfl, Nat.le_of_ble_eq_true rfl⟩) h_8 rfl rfl rfl rfl (Nat.le_of_ble_eq_true rfl) dX8_putTemplateSet_37 ⟨Nat.le_of_ble_eq_true rfl, Nat.le_of_ble_eq_true rfl⟩ (fun r_4 Φ6 sz4 st4 hp4 hs4 => ?_)
        obtain ⟨rfl, hq4, hI7, hF5⟩ := hp4
        subst sz4
        replace hs4 : st4 = [] := hs4
        subst st4
        replace hI7 : In G x (ca) Φ6 := hI7
        refine z_aload_n B dX8_putTemplateSet_40 rfl 3 rfl ?_
        refine z_lconst (v := 0) B dX8_putTemplateSet_41 rfl ?_
        refine z_iconst (v := 2) B dX8_putTemplateSet_42 rfl ?_
        obtain ⟨n_5, h_18, b_10⟩ := in1 (k := k) hI7 hk_k
        replace b_10 : n_5 ≤ cap (k) := b_10
        have b_11 := cap_le (k)
        have h_19 : Φ6 (x + (k)) = some (o_ 7 [.ref (x + (k + 1)), .int (nI n_5)]) := h_18
        refine z_callV (As := [.long 0, .int 2]) (rest := []) B (s_X5_put G l Φ6 sz x (ca) k 0 2 hx hI7 hk_k (show 2 ≤ 8 by omega)) (cwV 2 B.1.2.2.2.2 gX8_putTemplateSet_X5_put rfl rfl rfl (by decide +kernel) ⟨Nat.le_of_ble_eq_true rfl, Nat.le_of_ble_eq_true rfl⟩) h_19 rfl rfl rfl rfl (Nat.le_of_ble_eq_true rfl) dX8_putTemplateSet_43 ⟨Nat.le_of_ble_eq_true rfl, Nat.le_of_ble_eq_true rfl⟩ (fun r_5 Φ7 sz5 st5 hp5 hs5 => ?_)
        obtain ⟨rfl, hq5, hI8, hF6⟩ := hp5
        subst sz5
        replace hs5 : st5 = [] := hs5
        subst st5
        replace hI8 : In G x (ca) Φ7 := hI8
        refine z_aload_n B dX8_putTemplateSet_46 rfl 2 rfl ?_
        refine z_aload_n B dX8_putTemplateSet_47 rfl 3 rfl ?_
        refine z_iload B dX8_putTemplateSet_48 0 rfl ?_
        have h_20 : Φ7 (x + 74) = some (o_ 10 [.ref (x + 3), .ref (x + 46), .ref (x + 75), .ref (x + 77), .int (nI n_3), .ref (x + 78), .ref (x + 79), .int v_3, .long v_4, .int v_5]) := ((hF6 (x + 74) (fun j9 h8 h7 => by have h6 : j9 = k ∨ j9 = k + 1 := h7; omega)).trans ((hF5 (x + 74) (fun j9 h8 h7 => by have h6 : j9 = k ∨ j9 = k + 1 := h7; omega)).trans ((hF3 (x + 74) (fun j9 h8 h7 => (show False from h7).elim)).trans h_6)))
        refine z_callV (As := [.ref (x + (k)), .int (nI i_1)]) (rest := []) B (s_X8_putTemplate G l Φ7 sz x (ca) k (nI i_1) hx hI8 hk_k (show 48 ≤ k by omega) (show k < 73 by omega)) (cwV 2 B.1.2.2.2.2 gX8_putTemplateSet_X8_putTemplate rfl rfl rfl (by decide +kernel) ⟨Nat.le_of_ble_eq_true rfl, Nat.le_of_ble_eq_true rfl⟩) h_20 rfl rfl rfl rfl (Nat.le_of_ble_eq_true rfl) dX8_putTemplateSet_50 ⟨Nat.le_of_ble_eq_true rfl, Nat.le_of_ble_eq_true rfl⟩ (fun r_6 Φ8 sz6 st6 hp6 hs6 => ?_)
        obtain ⟨rfl, hq6, hI9, hF7⟩ := hp6
        subst sz6
        replace hs6 : st6 = [] := hs6
        subst st6
        replace hI9 : In G x (ca) Φ8 := hI9
        refine z_aload_n B dX8_putTemplateSet_53 rfl 2 rfl ?_
        have h_21 : Φ8 (x + 74) = some (o_ 10 [.ref (x + 3), .ref (x + 46), .ref (x + 75), .ref (x + 77), .int (nI n_3), .ref (x + 78), .ref (x + 79), .int v_3, .long v_4, .int v_5]) := ((hF7 (x + 74) (fun j9 h8 h7 => by have h6 : 48 ≤ j9 ∧ j9 < 74 := h7; omega)).trans h_20)
        refine z_get (ref := "FlowExporter$Sender") (C := RX8) (T := TX8) (N := 10) (ci := 10) (v := .ref (x + 78)) B (by decide +kernel) rfl 5 (by decide) (by decide +kernel) rfl h_21 rfl dX8_putTemplateSet_54 ?_
        refine z_iload B dX8_putTemplateSet_57 0 rfl ?_
        refine z_aload_n B dX8_putTemplateSet_59 rfl 2 rfl ?_
        refine z_get (ref := "FlowExporter$Sender") (C := RX8) (T := TX8) (N := 10) (ci := 10) (v := .int v_3) B (by decide +kernel) rfl 7 (by decide) (by decide +kernel) rfl h_21 rfl dX8_putTemplateSet_60 ?_
        refine z_iconst (v := 1) B dX8_putTemplateSet_63 rfl ?_
        refine z_iadd B dX8_putTemplateSet_64 ?_
        refine z_fi (fun v_8 => ?_)
        obtain ⟨f_3, h_22⟩ := in15 (k := 78) hI9 rfl
        have h_23 : Φ8 (x + 78) = some (ai_ G 4 f_3) := h_22
        refine z_iast B h_23 (Nat.le_trans hx (Nat.le_add_right x 78)) (vp_in_nI (by omega) (by omega)) dX8_putTemplateSet_65 (fun Φ9 hΦ3 => ?_)
        have h_24 : Φ9 (x + 78) = some (ai_ G 4 (upd f_3 (nI i_1).toNatClampNeg v_8)) := fset_at hΦ3
        have hI10 : In G x (ca) Φ9 := In.put (k := 78) hI9 hΦ3 (ok15 (k := 78) rfl ⟨_, rfl⟩)
        refine z_aload_n B dX8_putTemplateSet_66 rfl 2 rfl ?_
        have h_25 : Φ9 (x + 74) = some (o_ 10 [.ref (x + 3), .ref (x + 46), .ref (x + 75), .ref (x + 77), .int (nI n_3), .ref (x + 78), .ref (x + 79), .int v_3, .long v_4, .int v_5]) := ((fset_fr hΦ3 (ne_off (x := x) (i := 74) (j := 78) rfl)).trans h_21)
        refine z_get (ref := "FlowExporter$Sender") (C := RX8) (T := TX8) (N := 10) (ci := 10) (v := .ref (x + 79)) B (by decide +kernel) rfl 6 (by decide) (by decide +kernel) rfl h_25 rfl dX8_putTemplateSet_67 ?_
        refine z_iload B dX8_putTemplateSet_70 0 rfl ?_
        refine z_iload_n B dX8_putTemplateSet_72 rfl 4 rfl ?_
        obtain ⟨f_4, h_26⟩ := in15 (k := 79) hI10 rfl
        have h_27 : Φ9 (x + 79) = some (ai_ G 4 f_4) := h_26
        refine z_iast B h_27 (Nat.le_trans hx (Nat.le_add_right x 79)) (vp_in_nI (by omega) (by omega)) dX8_putTemplateSet_73 (fun Φ10 hΦ4 => ?_)
        have h_28 : Φ10 (x + 79) = some (ai_ G 4 (upd f_4 (nI i_1).toNatClampNeg a)) := fset_at hΦ4
        have hI11 : In G x (ca) Φ10 := In.put (k := 79) hI10 hΦ4 (ok15 (k := 79) rfl ⟨_, rfl⟩)
        refine z_iinc (k := 0) (v := nI (i_1 + 1)) (lv' := [(4, .int (nI (i_1 + 1))), (3, .int (nI n_1)), (0, .ref (x + 74)), (1, .ref (x + (k))), (2, .int a)]) B dX8_putTemplateSet_74 rfl (nI_add i_1 1) (Nat.le_of_ble_eq_true rfl) rfl ?_
        refine z_goto (tgt := 8) B dX8_putTemplateSet_77 rfl ?_
        refine z_lv [0, 1, 2, 3, 4] rfl ?_
        exact ih1 (i_1 + 1) Φ10 (show 4 - (i_1 + 1) < 4 - i_1 by omega) ⟨hI11, (fun b9 h9 => ((fset_fr hΦ4 (fun h8 => h9 (79) h8 (show 48 ≤ 79 ∧ 79 < 80 by omega))).trans ((fset_fr hΦ3 (fun h8 => h9 (78) h8 (show 48 ≤ 78 ∧ 78 < 80 by omega))).trans ((hF7 b9 (fun j9 h8 h7 => h9 j9 h8 (show 48 ≤ j9 ∧ j9 < 80 by have h6 : 48 ≤ j9 ∧ j9 < 74 := h7; omega))).trans ((hF6 b9 (fun j9 h8 h7 => h9 j9 h8 (show 48 ≤ j9 ∧ j9 < 80 by have h6 : j9 = k ∨ j9 = k + 1 := h7; omega))).trans ((hF5 b9 (fun j9 h8 h7 => h9 j9 h8 (show 48 ≤ j9 ∧ j9 < 80 by have h6 : j9 = k ∨ j9 = k + 1 := h7; omega))).trans ((hF3 b9 (fun j9 h8 h7 => (show False from h7).elim)).trans ((hF1 b9 (fun j9 h8 h7 => h9 j9 h8 (show 48 ≤ j9 ∧ j9 < 80 by have h6 : 48 ≤ j9 ∧ j9 < 80 := h7; omega))).trans rfl)))))))), (show (i_1 + 1) ≤ 4 by omega), trivial⟩

set_option maxHeartbeats 4000000 in
set_option maxRecDepth 100000 in
theorem s_X8_beginMessage (G : EnvG) (l : Launch) (Φ : Hm) (sz x ca : Nat) (a : Int32) (hx : G.2.2.2 ≤ x) (hI : In G x ca Φ)  : Ct G l yX8_beginMessage wsX8_beginMessage ({ frames := 3, cells := 0, slots := 0, locals := 73 }) 0 0 [.ref (x + 74), .int a] Φ sz (fun v Φ1 sz1 => (∃ m9 : Nat, m9 < 13 ∧ v = some (.ref (x + (48 + 2 * m9)))) ∧ sz1 = sz ∧ In G x (ca) Φ1 ∧ Fr x (fun j9 => 48 ≤ j9 ∧ j9 < 80) Φ Φ1) := by
  refine Ct.of (cc := cX8_beginMessage) (maxL := 3) (ret := (some (.object "FlowExporter$Message"))) (by decide) rfl (Nat.le_of_ble_eq_true rfl) ?_
  intro p9 e9 s9 m9 w9 t9 k9 B
  show Z p9 l e9 _ s9 m9 _ w9 t9 k9 _ G 3 0 [(0, .ref (x + 74)), (1, .int a)] [] Φ sz 0 0
  refine z_aload_n B dX8_beginMessage_0 rfl 0 rfl ?_
  obtain ⟨n_1, v_1, v_2, v_3, h_1, b_1⟩ := in13 (k := 74) hI rfl
  have h_2 : Φ (x + 74) = some (o_ 10 [.ref (x + 3), .ref (x + 46), .ref (x + 75), .ref (x + 77), .int (nI n_1), .ref (x + 78), .ref (x + 79), .int v_1, .long v_2, .int v_3]) := h_1
  refine z_get (ref := "FlowExporter$Sender") (C := RX8) (T := TX8) (N := 10) (ci := 10) (v := .ref (x + 46)) B (by decide +kernel) rfl 1 (by decide) (by decide +kernel) rfl h_2 rfl dX8_beginMessage_1 ?_
  obtain ⟨n_2, v_4, h_3, b_2⟩ := in11 (k := 46) hI rfl
  have h_4 : Φ (x + 46) = some (o_ 9 [.ref (x + 47), .int (nI n_2), .int v_4]) := h_3
  refine z_callV (As := []) (rest := []) B (s_X7_freeMessage G l Φ sz x (ca)  hx hI ) (cwV 0 B.1.2.2.2.2 gX8_beginMessage_X7_freeMessage rfl rfl rfl (by decide +kernel) ⟨Nat.le_of_ble_eq_true rfl, Nat.le_of_ble_eq_true rfl⟩) h_4 rfl rfl rfl rfl (Nat.le_of_ble_eq_true rfl) dX8_beginMessage_4 ⟨Nat.le_of_ble_eq_true rfl, Nat.le_of_ble_eq_true rfl⟩ (fun r_1 Φ1 sz1 st1 hp1 hs1 => ?_)
  obtain ⟨⟨m_1, hm_1, rfl⟩, hq1, hI1, hF1⟩ := hp1
  subst sz1
  replace hs1 : st1 = [.ref (x + (48 + 2 * m_1))] := hs1
  subst st1
  replace hI1 : In G x (ca) Φ1 := hI1
  replace hm_1 : m_1 < 13 := hm_1
  refine z_astore_n (lv' := [(2, .ref (x + (48 + 2 * m_1))), (0, .ref (x + 74)), (1, .int a)]) B dX8_beginMessage_7 rfl (Nat.le_of_ble_eq_true rfl) rfl ?_
  refine z_aload_n B dX8_beginMessage_8 rfl 0 rfl ?_
  refine z_ldc2 (v := 10) B (by decide +kernel) dX8_beginMessage_9 ?_
  refine z_iconst (v := 2) B dX8_beginMessage_12 rfl ?_
  obtain ⟨n_3, h_5, b_3⟩ := in1 (k := 48 + 2 * m_1) hI1 (kd_q hm_1)
  replace b_3 : n_3 ≤ cap (48 + 2 * m_1) := b_3
  have b_4 := cap_le (48 + 2 * m_1)
  have h_6 : Φ1 (x + (48 + 2 * m_1)) = some (o_ 7 [.ref (x + (48 + 2 * m_1 + 1)), .int (nI n_3)]) := h_5
  refine z_callV (As := [.long 10, .int 2]) (rest := []) B (s_X5_put G l Φ1 sz x (ca) (48 + 2 * m_1) 10 2 hx hI1 (kd_q hm_1) (show 2 ≤ 8 by omega)) (cwV 2 B.1.2.2.2.2 gX8_beginMessage_X5_put rfl rfl rfl (by decide +kernel) ⟨Nat.le_of_ble_eq_true rfl, Nat.le_of_ble_eq_true rfl⟩) h_6 rfl rfl rfl rfl (Nat.le_of_ble_eq_true rfl) dX8_beginMessage_13 ⟨Nat.le_of_ble_eq_true rfl, Nat.le_of_ble_eq_true rfl⟩ (fun r_2 Φ2 sz2 st2 hp2 hs2 => ?_)
  obtain ⟨rfl, hq2, hI2, hF2⟩ := hp2
  subst sz2
  replace hs2 : st2 = [] := hs2
  subst st2
  replace hI2 : In G x (ca) Φ2 := hI2
  refine z_aload_n B dX8_beginMessage_16 rfl 0 rfl ?_
  refine z_lconst (v := 0) B dX8_beginMessage_17 rfl ?_
  refine z_iconst (v := 2) B dX8_beginMessage_18 rfl ?_
  obtain ⟨n_4, h_7, b_5⟩ := in1 (k := 48 + 2 * m_1) hI2 (kd_q hm_1)
  replace b_5 : n_4 ≤ cap (48 + 2 * m_1) := b_5
  have b_6 := cap_le (48 + 2 * m_1)
  have h_8 : Φ2 (x + (48 + 2 * m_1)) = some (o_ 7 [.ref (x + (48 + 2 * m_1 + 1)), .int (nI n_4)]) := h_7
  refine z_callV (As := [.long 0, .int 2]) (rest := []) B (s_X5_put G l Φ2 sz x (ca) (48 + 2 * m_1) 0 2 hx hI2 (kd_q hm_1) (show 2 ≤ 8 by omega)) (cwV 2 B.1.2.2.2.2 gX8_beginMessage_X5_put rfl rfl rfl (by decide +kernel) ⟨Nat.le_of_ble_eq_true rfl, Nat.le_of_ble_eq_true rfl⟩) h_8 rfl rfl rfl rfl (Nat.le_of_ble_eq_true rfl) dX8_beginMessage_19 ⟨Nat.le_of_ble_eq_true rfl, Nat.le_of_ble_eq_true rfl⟩ (fun r_3 Φ3 sz3 st3 hp3 hs3 => ?_)
  obtain ⟨rfl, hq3, hI3, hF3⟩ := hp3
  subst sz3
  replace hs3 : st3 = [] := hs3
  subst st3
  replace hI3 : In G x (ca) Φ3 := hI3
  refine z_aload_n B dX8_beginMessage_22 rfl 0 rfl ?_
  refine z_iload_n B dX8_beginMessage_23 rfl 2 rfl ?_
  refine z_i2l (v := a.toInt64) B dX8_beginMessage_24 rfl ?_
  refine z_fl (fun v_5 => ?_)
  refine z_iconst (v := 4) B dX8_beginMessage_25 rfl ?_
  obtain ⟨n_5, h_9, b_7⟩ := in1 (k := 48 + 2 * m_1) hI3 (kd_q hm_1)
  replace b_7 : n_5 ≤ cap (48 + 2 * m_1) := b_7
  have b_8 := cap_le (48 + 2 * m_1)
  have h_10 : Φ3 (x + (48 + 2 * m_1)) = some (o_ 7 [.ref (x + (48 + 2 * m_1 + 1)), .int (nI n_5)]) := h_9
  refine z_callV (As := [.long v_5, .int 4]) (rest := []) B (s_X5_put G l Φ3 sz x (ca) (48 + 2 * m_1) v_5 4 hx hI3 (kd_q hm_1) (show 4 ≤ 8 by omega)) (cwV 2 B.1.2.2.2.2 gX8_beginMessage_X5_put rfl rfl rfl (by decide +kernel) ⟨Nat.le_of_ble_eq_true rfl, Nat.le_of_ble_eq_true rfl⟩) h_10 rfl rfl rfl rfl (Nat.le_of_ble_eq_true rfl) dX8_beginMessage_26 ⟨Nat.le_of_ble_eq_true rfl, Nat.le_of_ble_eq_true rfl⟩ (fun r_4 Φ4 sz4 st4 hp4 hs4 => ?_)
  obtain ⟨rfl, hq4, hI4, hF4⟩ := hp4
  subst sz4
  replace hs4 : st4 = [] := hs4
  subst st4
  replace hI4 : In G x (ca) Φ4 := hI4
  refine z_aload_n B dX8_beginMessage_29 rfl 0 rfl ?_
  refine z_aload_n B dX8_beginMessage_30 rfl 1 rfl ?_
  have h_11 : Φ4 (x + 74) = some (o_ 10 [.ref (x + 3), .ref (x + 46), .ref (x + 75), .ref (x + 77), .int (nI n_1), .ref (x + 78), .ref (x + 79), .int v_1, .long v_2, .int v_3]) := ((hF4 (x + 74) (fun j9 h8 h7 => by have h6 : j9 = (48 + 2 * m_1) ∨ j9 = (48 + 2 * m_1) + 1 := h7; omega)).trans ((hF3 (x + 74) (fun j9 h8 h7 => by have h6 : j9 = (48 + 2 * m_1) ∨ j9 = (48 + 2 * m_1) + 1 := h7; omega)).trans ((hF2 (x + 74) (fun j9 h8 h7 => by have h6 : j9 = (48 + 2 * m_1) ∨ j9 = (48 + 2 * m_1) + 1 := h7; omega)).trans ((hF1 (x + 74) (fun j9 h8 h7 => by have h6 : 48 ≤ j9 ∧ j9 < 74 := h7; omega)).trans h_2))))
  refine z_get (ref := "FlowExporter$Sender") (C := RX8) (T := TX8) (N := 10) (ci := 10) (v := .int v_3) B (by decide +kernel) rfl 9 (by decide) (by decide +kernel) rfl h_11 rfl dX8_beginMessage_31 ?_
  refine z_i2l (v := v_3.toInt64) B dX8_beginMessage_34 rfl ?_
  refine z_fl (fun v_6 => ?_)
  refine z_iconst (v := 4) B dX8_beginMessage_35 rfl ?_
  obtain ⟨n_6, h_12, b_9⟩ := in1 (k := 48 + 2 * m_1) hI4 (kd_q hm_1)
  replace b_9 : n_6 ≤ cap (48 + 2 * m_1) := b_9
  have b_10 := cap_le (48 + 2 * m_1)
  have h_13 : Φ4 (x + (48 + 2 * m_1)) = some (o_ 7 [.ref (x + (48 + 2 * m_1 + 1)), .int (nI n_6)]) := h_12
  refine z_callV (As := [.long v_6, .int 4]) (rest := []) B (s_X5_put G l Φ4 sz x (ca) (48 + 2 * m_1) v_6 4 hx hI4 (kd_q hm_1) (show 4 ≤ 8 by omega)) (cwV 2 B.1.2.2.2.2 gX8_beginMessage_X5_put rfl rfl rfl (by decide +kernel) ⟨Nat.le_of_ble_eq_true rfl, Nat.le_of_ble_eq_true rfl⟩) h_13 rfl rfl rfl rfl (Nat.le_of_ble_eq_true rfl) dX8_beginMessage_36 ⟨Nat.le_of_ble_eq_true rfl, Nat.le_of_ble_eq_true rfl⟩ (fun r_5 Φ5 sz5 st5 hp5 hs5 => ?_)
  obtain ⟨rfl, hq5, hI5, hF5⟩ := hp5
  subst sz5
  replace hs5 : st5 = [] := hs5
  subst st5
  replace hI5 : In G x (ca) Φ5 := hI5
  refine z_aload_n B dX8_beginMessage_39 rfl 0 rfl ?_
  refine z_lconst (v := 0) B dX8_beginMessage_40 rfl ?_
  refine z_iconst (v := 4) B dX8_beginMessage_41 rfl ?_
  obtain ⟨n_7, h_14, b_11⟩ := in1 (k := 48 + 2 * m_1) hI5 (kd_q hm_1)
  replace b_11 : n_7 ≤ cap (48 + 2 * m_1) := b_11
  have b_12 := cap_le (48 + 2 * m_1)
  have h_15 : Φ5 (x + (48 + 2 * m_1)) = some (o_ 7 [.ref (x + (48 + 2 * m_1 + 1)), .int (nI n_7)]) := h_14
  refine z_callV (As := [.long 0, .int 4]) (rest := []) B (s_X5_put G l Φ5 sz x (ca) (48 + 2 * m_1) 0 4 hx hI5 (kd_q hm_1) (show 4 ≤ 8 by omega)) (cwV 2 B.1.2.2.2.2 gX8_beginMessage_X5_put rfl rfl rfl (by decide +kernel) ⟨Nat.le_of_ble_eq_true rfl, Nat.le_of_ble_eq_true rfl⟩) h_15 rfl rfl rfl rfl (Nat.le_of_ble_eq_true rfl) dX8_beginMessage_42 ⟨Nat.le_of_ble_eq_true rfl, Nat.le_of_ble_eq_true rfl⟩ (fun r_6 Φ6 sz6 st6 hp6 hs6 => ?_)
  obtain ⟨rfl, hq6, hI6, hF6⟩ := hp6
  subst sz6
  replace hs6 : st6 = [] := hs6
  subst st6
  replace hI6 : In G x (ca) Φ6 := hI6
  refine z_aload_n B dX8_beginMessage_45 rfl 1 rfl ?_
  refine z_aload_n B dX8_beginMessage_46 rfl 0 rfl ?_
  refine z_iload_n B dX8_beginMessage_47 rfl 2 rfl ?_
  have h_16 : Φ6 (x + 74) = some (o_ 10 [.ref (x + 3), .ref (x + 46), .ref (x + 75), .ref (x + 77), .int (nI n_1), .ref (x + 78), .ref (x + 79), .int v_1, .long v_2, .int v_3]) := ((hF6 (x + 74) (fun j9 h8 h7 => by have h6 : j9 = (48 + 2 * m_1) ∨ j9 = (48 + 2 * m_1) + 1 := h7; omega)).trans ((hF5 (x + 74) (fun j9 h8 h7 => by have h6 : j9 = (48 + 2 * m_1) ∨ j9 = (48 + 2 * m_1) + 1 := h7; omega)).trans h_11))
  refine z_callV (As := [.ref (x + (48 + 2 * m_1)), .int a]) (rest := []) B (s_X8_putTemplateSet G l Φ6 sz x (ca) (48 + 2 * m_1) a hx hI6 (kd_q hm_1) (show 48 ≤ (48 + 2 * m_1) by omega) (show (48 + 2 * m_1) < 73 by omega)) (cwV 2 B.1.2.2.2.2 gX8_beginMessage_X8_putTemplateSet rfl rfl rfl (by decide +kernel) ⟨Nat.le_of_ble_eq_true rfl, Nat.le_of_ble_eq_true rfl⟩) h_16 rfl rfl rfl rfl (Nat.le_of_ble_eq_true rfl) dX8_beginMessage_48 ⟨Nat.le_of_ble_eq_true rfl, Nat.le_of_ble_eq_true rfl⟩ (fun r_7 Φ7 sz7 st7 hp7 hs7 => ?_)
  obtain ⟨rfl, hq7, hI7, hF7⟩ := hp7
  subst sz7
  replace hs7 : st7 = [] := hs7
  subst st7
  replace hI7 : In G x (ca) Φ7 := hI7
  refine z_aload_n B dX8_beginMessage_51 rfl 0 rfl ?_
  exact z_ret_a B dX8_beginMessage_52 ⟨⟨m_1, by omega, rfl⟩, rfl, hI7, (fun b9 h9 => ((hF7 b9 (fun j9 h8 h7 => h9 j9 h8 (show 48 ≤ j9 ∧ j9 < 80 by have h6 : 48 ≤ j9 ∧ j9 < 80 := h7; omega))).trans ((hF6 b9 (fun j9 h8 h7 => h9 j9 h8 (show 48 ≤ j9 ∧ j9 < 80 by have h6 : j9 = (48 + 2 * m_1) ∨ j9 = (48 + 2 * m_1) + 1 := h7; omega))).trans ((hF5 b9 (fun j9 h8 h7 => h9 j9 h8 (show 48 ≤ j9 ∧ j9 < 80 by have h6 : j9 = (48 + 2 * m_1) ∨ j9 = (48 + 2 * m_1) + 1 := h7; omega))).trans ((hF4 b9 (fun j9 h8 h7 => h9 j9 h8 (show 48 ≤ j9 ∧ j9 < 80 by have h6 : j9 = (48 + 2 * m_1) ∨ j9 = (48 + 2 * m_1) + 1 := h7; omega))).trans ((hF3 b9 (fun j9 h8 h7 => h9 j9 h8 (show 48 ≤ j9 ∧ j9 < 80 by have h6 : j9 = (48 + 2 * m_1) ∨ j9 = (48 + 2 * m_1) + 1 := h7; omega))).trans ((hF2 b9 (fun j9 h8 h7 => h9 j9 h8 (show 48 ≤ j9 ∧ j9 < 80 by have h6 : j9 = (48 + 2 * m_1) ∨ j9 = (48 + 2 * m_1) + 1 := h7; omega))).trans ((hF1 b9 (fun j9 h8 h7 => h9 j9 h8 (show 48 ≤ j9 ∧ j9 < 80 by have h6 : 48 ≤ j9 ∧ j9 < 74 := h7; omega))).trans rfl))))))))⟩

set_option maxHeartbeats 4000000 in
set_option maxRecDepth 100000 in
theorem s_X8_endMessage (G : EnvG) (l : Launch) (Φ : Hm) (sz x ca : Nat) (k : Nat) (a : Int32) (hx : G.2.2.2 ≤ x) (hI : In G x ca Φ) (hk_k : kd k = 1) (hq1 : 48 ≤ k) (hq2 : k < 73) : Ct G l yX8_endMessage wsX8_endMessage ({ frames := 1, cells := 0, slots := 0, locals := 26 }) 0 0 [.ref (x + 74), .ref (x + (k)), .int a] Φ sz (fun v Φ1 sz1 => (v = none) ∧ sz1 = sz ∧ In G x (ca) Φ1 ∧ Fr x (fun j9 => 46 ≤ j9 ∧ j9 < 80) Φ Φ1) := by
  refine Ct.of (cc := cX8_endMessage) (maxL := 3) (ret := none) (by decide) rfl (Nat.le_of_ble_eq_true rfl) ?_
  intro p9 e9 s9 m9 w9 t9 k9 B
  show Z p9 l e9 _ s9 m9 _ w9 t9 k9 _ G 3 0 [(0, .ref (x + 74)), (1, .ref (x + (k))), (2, .int a)] [] Φ sz 0 0
  refine z_aload_n B dX8_endMessage_0 rfl 1 rfl ?_
  refine z_iconst (v := 2) B dX8_endMessage_1 rfl ?_
  refine z_aload_n B dX8_endMessage_2 rfl 1 rfl ?_
  obtain ⟨n_1, h_1, b_1⟩ := in1 (k := k) hI hk_k
  replace b_1 : n_1 ≤ cap (k) := b_1
  have b_2 := cap_le (k)
  have h_2 : Φ (x + (k)) = some (o_ 7 [.ref (x + (k + 1)), .int (nI n_1)]) := h_1
  refine z_get (ref := "FlowExporter$Message") (C := RX5) (T := TX5) (N := 2) (ci := 7) (v := .int (nI n_1)) B (by decide +kernel) rfl 1 (by decide) (by decide +kernel) rfl h_2 rfl dX8_endMessage_3 ?_
  refine z_i2l (v := (nI n_1).toInt64) B dX8_endMessage_6 rfl ?_
  refine z_fl (fun v_1 => ?_)
  refine z_iconst (v := 2) B dX8_endMessage_7 rfl ?_
  refine z_callV (As := [.int 2, .long v_1, .int 2]) (rest := []) B (s_X5_putAt G l Φ sz x (ca) k 2 v_1 2 hx hI hk_k (show 2 ≤ 8 by omega)) (cwV 3 B.1.2.2.2.2 gX8_endMessage_X5_putAt rfl rfl rfl (by decide +kernel) ⟨Nat.le_of_ble_eq_true rfl, Nat.le_of_ble_eq_true rfl⟩) h_2 rfl rfl rfl rfl (Nat.le_of_ble_eq_true rfl) dX8_endMessage_8 ⟨Nat.le_of_ble_eq_true rfl, Nat.le_of_ble_eq_true rfl⟩ (fun r_1 Φ1 sz1 st1 hp1 hs1 => ?_)
  obtain ⟨rfl, hq1, hI1, hF1⟩ := hp1
  subst sz1
  replace hs1 : st1 = [] := hs1
  subst st1
  replace hI1 : In G x (ca) Φ1 := hI1
  refine z_aload_n B dX8_endMessage_11 rfl 1 rfl ?_
  refine z_bipush (v := 12) B dX8_endMessage_12 rfl ?_
  refine z_iload_n B dX8_endMessage_14 rfl 2 rfl ?_
  refine z_i2l (v := a.toInt64) B dX8_endMessage_15 rfl ?_
  refine z_fl (fun v_2 => ?_)
  refine z_iconst (v := 4) B dX8_endMessage_16 rfl ?_
  have h_3 : Φ1 (x + (k)) = some (o_ 7 [.ref (x + (k + 1)), .int (nI n_1)]) := ((hF1 (x + (k)) (fun j9 h8 h7 => by have h6 : j9 = k + 1 := h7; omega)).trans h_2)
  refine z_callV (As := [.int 12, .long v_2, .int 4]) (rest := []) B (s_X5_putAt G l Φ1 sz x (ca) k 12 v_2 4 hx hI1 hk_k (show 4 ≤ 8 by omega)) (cwV 3 B.1.2.2.2.2 gX8_endMessage_X5_putAt rfl rfl rfl (by decide +kernel) ⟨Nat.le_of_ble_eq_true rfl, Nat.le_of_ble_eq_true rfl⟩) h_3 rfl rfl rfl rfl (Nat.le_of_ble_eq_true rfl) dX8_endMessage_17 ⟨Nat.le_of_ble_eq_true rfl, Nat.le_of_ble_eq_true rfl⟩ (fun r_2 Φ2 sz2 st2 hp2 hs2 => ?_)
  obtain ⟨rfl, hq2, hI2, hF2⟩ := hp2
  subst sz2
  replace hs2 : st2 = [] := hs2
  subst st2
  replace hI2 : In G x (ca) Φ2 := hI2
  refine z_aload_n B dX8_endMessage_20 rfl 0 rfl ?_
  obtain ⟨n_2, v_3, v_4, v_5, h_4, b_3⟩ := in13 (k := 74) hI2 rfl
  have h_5 : Φ2 (x + 74) = some (o_ 10 [.ref (x + 3), .ref (x + 46), .ref (x + 75), .ref (x + 77), .int (nI n_2), .ref (x + 78), .ref (x + 79), .int v_3, .long v_4, .int v_5]) := h_4
  refine z_get (ref := "FlowExporter$Sender") (C := RX8) (T := TX8) (N := 10) (ci := 10) (v := .ref (x + 46)) B (by decide +kernel) rfl 1 (by decide) (by decide +kernel) rfl h_5 rfl dX8_endMessage_21 ?_
  obtain ⟨n_3, v_6, h_6, b_4⟩ := in11 (k := 46) hI2 rfl
  have h_7 : Φ2 (x + 46) = some (o_ 9 [.ref (x + 47), .int (nI n_3), .int v_6]) := h_6
  refine z_callV (As := []) (rest := []) B (s_X7_addFreeMessage G l Φ2 sz x (ca)  hx hI2 ) (cwV 0 B.1.2.2.2.2 gX8_endMessage_X7_addFreeMessage rfl rfl rfl (by decide +kernel) ⟨Nat.le_of_ble_eq_true rfl, Nat.le_of_ble_eq_true rfl⟩) h_7 rfl rfl rfl rfl (Nat.le_of_ble_eq_true rfl) dX8_endMessage_24 ⟨Nat.le_of_ble_eq_true rfl, Nat.le_of_ble_eq_true rfl⟩ (fun r_3 Φ3 sz3 st3 hp3 hs3 => ?_)
  obtain ⟨rfl, hq3, hI3, hF3⟩ := hp3
  subst sz3
  replace hs3 : st3 = [] := hs3
  subst st3
  replace hI3 : In G x (ca) Φ3 := hI3
  refine z_aload_n B dX8_endMessage_27 rfl 0 rfl ?_
  refine z_dup B dX8_endMessage_28 rfl ?_
  have h_8 : Φ3 (x + 74) = some (o_ 10 [.ref (x + 3), .ref (x + 46), .ref (x + 75), .ref (x + 77), .int (nI n_2), .ref (x + 78), .ref (x + 79), .int v_3, .long v_4, .int v_5]) := ((hF3 (x + 74) (fun j9 h8 h7 => by have h6 : j9 = 46 := h7; omega)).trans h_5)
  refine z_get (ref := "FlowExporter$Sender") (C := RX8) (T := TX8) (N := 10) (ci := 10) (v := .int v_3) B (by decide +kernel) rfl 7 (by decide) (by decide +kernel) rfl h_8 rfl dX8_endMessage_29 ?_
  refine z_iconst (v := 1) B dX8_endMessage_32 rfl ?_
  refine z_iadd B dX8_endMessage_33 ?_
  refine z_fi (fun v_7 => ?_)
  refine z_put (ref := "FlowExporter$Sender") (C := RX8) (T := TX8) (N := 10) (ci := 10) (v := .int v_7) B (by decide +kernel) tyX8 tyX8_ok nmX8 rfl 7 (by decide) (by decide +kernel) rfl (Or.inl rfl) h_8 (Nat.le_trans hx (Nat.le_add_right x 74)) rfl rfl (Nat.le_of_ble_eq_true rfl) dX8_endMessage_34 (fun Φ4 hΦ1 => ?_)
  have h_9 : Φ4 (x + 74) = some (o_ 10 [.ref (x + 3), .ref (x + 46), .ref (x + 75), .ref (x + 77), .int (nI n_2), .ref (x + 78), .ref (x + 79), .int v_7, .long v_4, .int v_5]) := fset_at hΦ1
  have hI4 : In G x (ca) Φ4 := In.put (k := 74) hI3 hΦ1 (ok13 (k := 74) rfl ⟨n_2, v_7, v_4, v_5, rfl, (show n_2 ≤ 12 by omega)⟩)
  refine z_aload_n B dX8_endMessage_37 rfl 0 rfl ?_
  refine z_dup B dX8_endMessage_38 rfl ?_
  refine z_get (ref := "FlowExporter$Sender") (C := RX8) (T := TX8) (N := 10) (ci := 10) (v := .long v_4) B (by decide +kernel) rfl 8 (by decide) (by decide +kernel) rfl h_9 rfl dX8_endMessage_39 ?_
  refine z_iload_n B dX8_endMessage_42 rfl 2 rfl ?_
  refine z_i2l (v := a.toInt64) B dX8_endMessage_43 rfl ?_
  refine z_fl (fun v_8 => ?_)
  refine z_ladd B dX8_endMessage_44 ?_
  refine z_fl (fun v_9 => ?_)
  refine z_put (ref := "FlowExporter$Sender") (C := RX8) (T := TX8) (N := 10) (ci := 10) (v := .long v_9) B (by decide +kernel) tyX8 tyX8_ok nmX8 rfl 8 (by decide) (by decide +kernel) rfl (Or.inl rfl) h_9 (Nat.le_trans hx (Nat.le_add_right x 74)) rfl rfl (Nat.le_of_ble_eq_true rfl) dX8_endMessage_45 (fun Φ5 hΦ2 => ?_)
  have h_10 : Φ5 (x + 74) = some (o_ 10 [.ref (x + 3), .ref (x + 46), .ref (x + 75), .ref (x + 77), .int (nI n_2), .ref (x + 78), .ref (x + 79), .int v_7, .long v_9, .int v_5]) := fset_at hΦ2
  have hI5 : In G x (ca) Φ5 := In.put (k := 74) hI4 hΦ2 (ok13 (k := 74) rfl ⟨n_2, v_7, v_9, v_5, rfl, (show n_2 ≤ 12 by omega)⟩)
  refine z_aload_n B dX8_endMessage_48 rfl 0 rfl ?_
  refine z_dup B dX8_endMessage_49 rfl ?_
  refine z_get (ref := "FlowExporter$Sender") (C := RX8) (T := TX8) (N := 10) (ci := 10) (v := .int v_5) B (by decide +kernel) rfl 9 (by decide) (by decide +kernel) rfl h_10 rfl dX8_endMessage_50 ?_
  refine z_iload_n B dX8_endMessage_53 rfl 2 rfl ?_
  refine z_iadd B dX8_endMessage_54 ?_
  refine z_fi (fun v_10 => ?_)
  refine z_put (ref := "FlowExporter$Sender") (C := RX8) (T := TX8) (N := 10) (ci := 10) (v := .int v_10) B (by decide +kernel) tyX8 tyX8_ok nmX8 rfl 9 (by decide) (by decide +kernel) rfl (Or.inl rfl) h_10 (Nat.le_trans hx (Nat.le_add_right x 74)) rfl rfl (Nat.le_of_ble_eq_true rfl) dX8_endMessage_55 (fun Φ6 hΦ3 => ?_)
  have h_11 : Φ6 (x + 74) = some (o_ 10 [.ref (x + 3), .ref (x + 46), .ref (x + 75), .ref (x + 77), .int (nI n_2), .ref (x + 78), .ref (x + 79), .int v_7, .long v_9, .int v_10]) := fset_at hΦ3
  have hI6 : In G x (ca) Φ6 := In.put (k := 74) hI5 hΦ3 (ok13 (k := 74) rfl ⟨n_2, v_7, v_9, v_10, rfl, (show n_2 ≤ 12 by omega)⟩)
  exact z_ret_v B dX8_endMessage_58 ⟨rfl, rfl, hI6, (fun b9 h9 => ((fset_fr hΦ3 (fun h8 => h9 (74) h8 (show 46 ≤ 74 ∧ 74 < 80 by omega))).trans ((fset_fr hΦ2 (fun h8 => h9 (74) h8 (show 46 ≤ 74 ∧ 74 < 80 by omega))).trans ((fset_fr hΦ1 (fun h8 => h9 (74) h8 (show 46 ≤ 74 ∧ 74 < 80 by omega))).trans ((hF3 b9 (fun j9 h8 h7 => h9 j9 h8 (show 46 ≤ j9 ∧ j9 < 80 by have h6 : j9 = 46 := h7; omega))).trans ((hF2 b9 (fun j9 h8 h7 => h9 j9 h8 (show 46 ≤ j9 ∧ j9 < 80 by have h6 : j9 = k + 1 := h7; omega))).trans ((hF1 b9 (fun j9 h8 h7 => h9 j9 h8 (show 46 ≤ j9 ∧ j9 < 80 by have h6 : j9 = k + 1 := h7; omega))).trans rfl)))))))⟩

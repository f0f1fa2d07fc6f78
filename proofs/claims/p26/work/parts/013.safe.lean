set_option maxRecDepth 20000 in
theorem ggX8_addRecord_X1_effective : GoodIn wsX8_addRecord wsX1_effective := (goodIn_ca (goodIn_r _ [11, 12] rfl (by decide +kernel)) (goodIn_sub (fun _ h => List.mem_cons_of_mem _ (List.mem_append_left _ (List.mem_append_left _ (List.mem_append_left _ (List.mem_append_right _ h))))) gw_wsX10))
set_option maxRecDepth 20000 in
theorem gX8_addRecord_X1_effective : GoodIn wsX8_addRecord (wsV RX8 82 RX1 yX1_effective wsX1_effective) := goodIn_app (goodIn_m (mem_cA (List.mem_cons_of_mem _ (List.mem_append_left _ (List.mem_append_left _ (List.mem_append_left _ (List.mem_append_left _ (List.mem_append_left _ (List.mem_append_left _ (List.mem_append_left _ (List.mem_of_getElem? (i := 6) rfl))))))))) (mem_cA (List.mem_cons_of_mem _ (List.mem_append_left _ (List.mem_append_left _ (List.mem_append_left _ (List.mem_append_left _ (List.mem_append_left _ (List.mem_append_left _ (List.mem_append_left _ (List.mem_of_getElem? (i := 7) rfl))))))))) (mem_cA (List.mem_cons_of_mem _ (List.mem_append_left _ (List.mem_append_left _ (List.mem_append_left _ (List.mem_append_left _ (List.mem_append_left _ (List.mem_append_left _ (List.mem_append_left _ (List.mem_of_getElem? (i := 8) rfl))))))))) (mem_cA (List.mem_cons_of_mem _ (List.mem_append_left _ (List.mem_append_left _ (List.mem_append_left _ (List.mem_append_left _ (List.mem_append_left _ (List.mem_append_left _ (List.mem_append_left _ (List.mem_of_getElem? (i := 9) rfl))))))))) mem_cZ)))) (by decide +kernel)) ggX8_addRecord_X1_effective
set_option maxRecDepth 20000 in
theorem ggX8_addRecord_X10_field : GoodIn wsX8_addRecord wsX10_field := goodIn_ca ((goodIn_ca (goodIn_r _ [17, 18, 19] rfl (by decide +kernel)) (goodIn_sub (fun _ h => List.mem_cons_of_mem _ (List.mem_append_left _ (List.mem_append_left _ (List.mem_append_left _ (List.mem_append_left _ (List.mem_append_right _ h)))))) gw_wsX100))) (goodIn_sub (fun _ h => List.mem_cons_of_mem _ (List.mem_append_right _ h)) (all_fg _))
set_option maxRecDepth 20000 in
theorem gX8_addRecord_X10_field : GoodIn wsX8_addRecord (wsV RX8 92 RX10 yX10_field wsX10_field) := goodIn_app (goodIn_m (mem_cA (List.mem_cons_of_mem _ (List.mem_append_left _ (List.mem_append_left _ (List.mem_append_left _ (List.mem_append_left _ (List.mem_append_left _ (List.mem_append_left _ (List.mem_append_left _ (List.mem_of_getElem? (i := 12) rfl))))))))) (mem_cA (List.mem_cons_of_mem _ (List.mem_append_left _ (List.mem_append_left _ (List.mem_append_left _ (List.mem_append_left _ (List.mem_append_left _ (List.mem_append_left _ (List.mem_append_left _ (List.mem_of_getElem? (i := 13) rfl))))))))) (mem_cA (List.mem_cons_of_mem _ (List.mem_append_left _ (List.mem_append_left _ (List.mem_append_left _ (List.mem_append_left _ (List.mem_append_left _ (List.mem_append_left _ (List.mem_append_left _ (List.mem_of_getElem? (i := 14) rfl))))))))) (mem_cA (List.mem_cons_of_mem _ (List.mem_append_left _ (List.mem_append_left _ (List.mem_append_left _ (List.mem_append_left _ (List.mem_append_left _ (List.mem_append_left _ (List.mem_append_left _ (List.mem_of_getElem? (i := 15) rfl))))))))) mem_cZ)))) (by decide +kernel)) ggX8_addRecord_X10_field
set_option maxRecDepth 20000 in
theorem ggX8_addRecord_X3_value : GoodIn wsX8_addRecord wsX3_value := goodIn_ca ((goodIn_ca (goodIn_r _ [24, 25, 26, 27, 28, 29, 30, 31, 23, 32, 33, 34] rfl (by decide +kernel)) (goodIn_sub (fun _ h => List.mem_cons_of_mem _ (List.mem_append_left _ (List.mem_append_left _ (List.mem_append_right _ h)))) gw_wsX30))) (goodIn_sub (fun _ h => List.mem_cons_of_mem _ (List.mem_append_right _ h)) (all_fg _))
set_option maxRecDepth 20000 in
theorem gX8_addRecord_X3_value : GoodIn wsX8_addRecord (wsV RX8 95 RX3 yX3_value wsX3_value) := goodIn_app (goodIn_m (mem_cA (List.mem_cons_of_mem _ (List.mem_append_left _ (List.mem_append_left _ (List.mem_append_left _ (List.mem_append_left _ (List.mem_append_left _ (List.mem_append_left _ (List.mem_append_left _ (List.mem_of_getElem? (i := 19) rfl))))))))) (mem_cA (List.mem_cons_of_mem _ (List.mem_append_left _ (List.mem_append_left _ (List.mem_append_left _ (List.mem_append_left _ (List.mem_append_left _ (List.mem_append_left _ (List.mem_append_left _ (List.mem_of_getElem? (i := 20) rfl))))))))) (mem_cA (List.mem_cons_of_mem _ (List.mem_append_left _ (List.mem_append_left _ (List.mem_append_left _ (List.mem_append_left _ (List.mem_append_left _ (List.mem_append_left _ (List.mem_append_left _ (List.mem_of_getElem? (i := 21) rfl))))))))) (mem_cA (List.mem_cons_of_mem _ (List.mem_append_left _ (List.mem_append_left _ (List.mem_append_left _ (List.mem_append_left _ (List.mem_append_left _ (List.mem_append_left _ (List.mem_append_left _ (List.mem_of_getElem? (i := 22) rfl))))))))) mem_cZ)))) (by decide +kernel)) ggX8_addRecord_X3_value
set_option maxRecDepth 20000 in
theorem ggX8_addRecord_X11_lengthOf : GoodIn wsX8_addRecord wsX11_lengthOf := goodIn_ca ((goodIn_r _ [37, 38] rfl (by decide +kernel))) (goodIn_sub (fun _ h => List.mem_cons_of_mem _ (List.mem_append_right _ h)) (all_fg _))
set_option maxRecDepth 20000 in
theorem gX8_addRecord_X11_lengthOf_n103 : GoodIn wsX8_addRecord (wsX11_lengthOf) := ggX8_addRecord_X11_lengthOf
set_option maxRecDepth 20000 in
theorem ggX8_addRecord_X5_put : GoodIn wsX8_addRecord wsX5_put := goodIn_ca ((goodIn_ca (goodIn_r _ [43, 44, 45] rfl (by decide +kernel)) (goodIn_sub (fun _ h => List.mem_cons_of_mem _ (List.mem_append_left _ (List.mem_append_right _ h))) gw_wsX50))) (goodIn_sub (fun _ h => List.mem_cons_of_mem _ (List.mem_append_right _ h)) (all_fg _))
set_option maxRecDepth 20000 in
theorem gX8_addRecord_X5_put : GoodIn wsX8_addRecord (wsV RX8 106 RX5 yX5_put wsX5_put) := goodIn_app (goodIn_m (mem_cA (List.mem_cons_of_mem _ (List.mem_append_left _ (List.mem_append_left _ (List.mem_append_left _ (List.mem_append_left _ (List.mem_append_left _ (List.mem_append_left _ (List.mem_append_right _ (List.mem_of_getElem? (i := 14) rfl))))))))) (mem_cA (List.mem_cons_of_mem _ (List.mem_append_left _ (List.mem_append_left _ (List.mem_append_left _ (List.mem_append_left _ (List.mem_append_left _ (List.mem_append_left _ (List.mem_append_right _ (List.mem_of_getElem? (i := 15) rfl))))))))) (mem_cA (List.mem_cons_of_mem _ (List.mem_append_left _ (List.mem_append_left _ (List.mem_append_left _ (List.mem_append_left _ (List.mem_append_left _ (List.mem_append_left _ (List.mem_append_right _ (List.mem_of_getElem? (i := 16) rfl))))))))) (mem_cA (List.mem_cons_of_mem _ (List.mem_append_left _ (List.mem_append_left _ (List.mem_append_left _ (List.mem_append_left _ (List.mem_append_left _ (List.mem_append_left _ (List.mem_append_right _ (List.mem_of_getElem? (i := 17) rfl))))))))) mem_cZ)))) (by decide +kernel)) ggX8_addRecord_X5_put
theorem dX8_addRecord_0 : decode cX8_addRecord 0 = .ok (.aload_n 0, 1) := by decide +kernel
theorem dX8_addRecord_1 : decode cX8_addRecord 1 = .ok (.getfield 24, 3) := by decide +kernel
theorem dX8_addRecord_4 : decode cX8_addRecord 4 = .ok (.aload_n 0, 1) := by decide +kernel
theorem dX8_addRecord_5 : decode cX8_addRecord 5 = .ok (.getfield 20, 3) := by decide +kernel
theorem dX8_addRecord_8 : decode cX8_addRecord 8 = .ok (.arraylength, 1) := by decide +kernel
theorem dX8_addRecord_9 : decode cX8_addRecord 9 = .ok (.if_icmp .lt 4, 3) := by decide +kernel
theorem dX8_addRecord_12 : decode cX8_addRecord 12 = .ok (.return_, 1) := by decide +kernel
theorem dX8_addRecord_13 : decode cX8_addRecord 13 = .ok (.aload_n 0, 1) := by decide +kernel
theorem dX8_addRecord_14 : decode cX8_addRecord 14 = .ok (.getfield 20, 3) := by decide +kernel
theorem dX8_addRecord_17 : decode cX8_addRecord 17 = .ok (.aload_n 0, 1) := by decide +kernel
theorem dX8_addRecord_18 : decode cX8_addRecord 18 = .ok (.getfield 24, 3) := by decide +kernel
theorem dX8_addRecord_21 : decode cX8_addRecord 21 = .ok (.iload_n 2, 1) := by decide +kernel
theorem dX8_addRecord_22 : decode cX8_addRecord 22 = .ok (.iastore, 1) := by decide +kernel
theorem dX8_addRecord_23 : decode cX8_addRecord 23 = .ok (.aload_n 0, 1) := by decide +kernel
theorem dX8_addRecord_24 : decode cX8_addRecord 24 = .ok (.dup, 1) := by decide +kernel
theorem dX8_addRecord_25 : decode cX8_addRecord 25 = .ok (.getfield 24, 3) := by decide +kernel
theorem dX8_addRecord_28 : decode cX8_addRecord 28 = .ok (.iconst 1, 1) := by decide +kernel
theorem dX8_addRecord_29 : decode cX8_addRecord 29 = .ok (.iadd, 1) := by decide +kernel
theorem dX8_addRecord_30 : decode cX8_addRecord 30 = .ok (.putfield 24, 3) := by decide +kernel
theorem dX8_addRecord_33 : decode cX8_addRecord 33 = .ok (.aload_n 0, 1) := by decide +kernel
theorem dX8_addRecord_34 : decode cX8_addRecord 34 = .ok (.getfield 44, 3) := by decide +kernel
theorem dX8_addRecord_37 : decode cX8_addRecord 37 = .ok (.iload_n 2, 1) := by decide +kernel
theorem dX8_addRecord_38 : decode cX8_addRecord 38 = .ok (.invokevirtual 82, 3) := by decide +kernel
theorem dX8_addRecord_41 : decode cX8_addRecord 41 = .ok (.astore 4, 2) := by decide +kernel
theorem dX8_addRecord_43 : decode cX8_addRecord 43 = .ok (.iconst 0, 1) := by decide +kernel
theorem dX8_addRecord_44 : decode cX8_addRecord 44 = .ok (.istore 5, 2) := by decide +kernel
theorem dX8_addRecord_46 : decode cX8_addRecord 46 = .ok (.iload 5, 2) := by decide +kernel
theorem dX8_addRecord_48 : decode cX8_addRecord 48 = .ok (.aload 4, 2) := by decide +kernel
theorem dX8_addRecord_50 : decode cX8_addRecord 50 = .ok (.getfield 85, 3) := by decide +kernel
theorem dX8_addRecord_53 : decode cX8_addRecord 53 = .ok (.if_icmp .ge 56, 3) := by decide +kernel
theorem dX8_addRecord_56 : decode cX8_addRecord 56 = .ok (.aload 4, 2) := by decide +kernel
theorem dX8_addRecord_58 : decode cX8_addRecord 58 = .ok (.iload 5, 2) := by decide +kernel
theorem dX8_addRecord_60 : decode cX8_addRecord 60 = .ok (.invokevirtual 92, 3) := by decide +kernel
theorem dX8_addRecord_63 : decode cX8_addRecord 63 = .ok (.istore 6, 2) := by decide +kernel
theorem dX8_addRecord_65 : decode cX8_addRecord 65 = .ok (.iload 6, 2) := by decide +kernel
theorem dX8_addRecord_67 : decode cX8_addRecord 67 = .ok (.bipush 8, 2) := by decide +kernel
theorem dX8_addRecord_69 : decode cX8_addRecord 69 = .ok (.if_icmp .ne 8, 3) := by decide +kernel
theorem dX8_addRecord_72 : decode cX8_addRecord 72 = .ok (.iload_n 3, 1) := by decide +kernel
theorem dX8_addRecord_73 : decode cX8_addRecord 73 = .ok (.i2l, 1) := by decide +kernel
theorem dX8_addRecord_74 : decode cX8_addRecord 74 = .ok (.goto 9, 3) := by decide +kernel
theorem dX8_addRecord_77 : decode cX8_addRecord 77 = .ok (.aload_n 1, 1) := by decide +kernel
theorem dX8_addRecord_78 : decode cX8_addRecord 78 = .ok (.iload 6, 2) := by decide +kernel
theorem dX8_addRecord_80 : decode cX8_addRecord 80 = .ok (.invokevirtual 95, 3) := by decide +kernel
theorem dX8_addRecord_83 : decode cX8_addRecord 83 = .ok (.lstore 7, 2) := by decide +kernel
theorem dX8_addRecord_85 : decode cX8_addRecord 85 = .ok (.aload_n 0, 1) := by decide +kernel
theorem dX8_addRecord_86 : decode cX8_addRecord 86 = .ok (.getfield 14, 3) := by decide +kernel
theorem dX8_addRecord_89 : decode cX8_addRecord 89 = .ok (.lload 7, 2) := by decide +kernel
theorem dX8_addRecord_91 : decode cX8_addRecord 91 = .ok (.ldc2_w 101, 3) := by decide +kernel
theorem dX8_addRecord_94 : decode cX8_addRecord 94 = .ok (.land, 1) := by decide +kernel
theorem dX8_addRecord_95 : decode cX8_addRecord 95 = .ok (.iload 6, 2) := by decide +kernel
theorem dX8_addRecord_97 : decode cX8_addRecord 97 = .ok (.invokestatic 103, 3) := by decide +kernel
theorem dX8_addRecord_100 : decode cX8_addRecord 100 = .ok (.invokevirtual 106, 3) := by decide +kernel
theorem dX8_addRecord_103 : decode cX8_addRecord 103 = .ok (.iinc 5 1, 3) := by decide +kernel
theorem dX8_addRecord_106 : decode cX8_addRecord 106 = .ok (.goto (-60), 3) := by decide +kernel
theorem dX8_addRecord_109 : decode cX8_addRecord 109 = .ok (.return_, 1) := by decide +kernel
set_option maxRecDepth 20000 in
theorem ggX8_beginMessage_X7_freeMessage : GoodIn wsX8_beginMessage wsX7_freeMessage := (goodIn_ca (goodIn_ca (goodIn_r _ [8, 9, 10, 11, 12, 13, 7, 14, 15] rfl (by decide +kernel)) (goodIn_sub (fun _ h => List.mem_cons_of_mem _ (List.mem_append_left _ (List.mem_append_left _ (List.mem_append_left _ (List.mem_append_left _ (List.mem_append_right _ h)))))) gw_wsX70)) (goodIn_sub (fun _ h => List.mem_cons_of_mem _ (List.mem_append_left _ (List.mem_append_left _ (List.mem_append_left _ (List.mem_append_right _ h))))) gw_wsX50))
set_option maxRecDepth 20000 in
theorem gX8_beginMessage_X7_freeMessage : GoodIn wsX8_beginMessage (wsV RX8 129 RX7 yX7_freeMessage wsX7_freeMessage) := goodIn_app (goodIn_m (mem_cA (List.mem_cons_of_mem _ (List.mem_append_left _ (List.mem_append_left _ (List.mem_append_left _ (List.mem_append_left _ (List.mem_append_left _ (List.mem_append_left _ (List.mem_append_left _ (List.mem_of_getElem? (i := 3) rfl))))))))) (mem_cA (List.mem_cons_of_mem _ (List.mem_append_left _ (List.mem_append_left _ (List.mem_append_left _ (List.mem_append_left _ (List.mem_append_left _ (List.mem_append_left _ (List.mem_append_left _ (List.mem_of_getElem? (i := 4) rfl))))))))) (mem_cA (List.mem_cons_of_mem _ (List.mem_append_left _ (List.mem_append_left _ (List.mem_append_left _ (List.mem_append_left _ (List.mem_append_left _ (List.mem_append_left _ (List.mem_append_left _ (List.mem_of_getElem? (i := 5) rfl))))))))) (mem_cA (List.mem_cons_of_mem _ (List.mem_append_left _ (List.mem_append_left _ (List.mem_append_left _ (List.mem_append_left _ (List.mem_append_left _ (List.mem_append_left _ (List.mem_append_left _ (List.mem_of_getElem? (i := 6) rfl))))))))) mem_cZ)))) (by decide +kernel)) ggX8_beginMessage_X7_freeMessage
set_option maxRecDepth 20000 in
theorem ggX8_beginMessage_X5_put : GoodIn wsX8_beginMessage wsX5_put := goodIn_ca ((goodIn_ca (goodIn_r _ [20, 21, 22] rfl (by decide +kernel)) (goodIn_sub (fun _ h => List.mem_cons_of_mem _ (List.mem_append_left _ (List.mem_append_left _ (List.mem_append_left _ (List.mem_append_right _ h))))) gw_wsX50))) (goodIn_sub (fun _ h => List.mem_cons_of_mem _ (List.mem_append_right _ h)) (all_fg _))
set_option maxRecDepth 20000 in
theorem gX8_beginMessage_X5_put : GoodIn wsX8_beginMessage (wsV RX8 106 RX5 yX5_put wsX5_put) := goodIn_app (goodIn_m (mem_cA (List.mem_cons_of_mem _ (List.mem_append_left _ (List.mem_append_left _ (List.mem_append_left _ (List.mem_append_left _ (List.mem_append_left _ (List.mem_append_left _ (List.mem_append_left _ (List.mem_of_getElem? (i := 15) rfl))))))))) (mem_cA (List.mem_cons_of_mem _ (List.mem_append_left _ (List.mem_append_left _ (List.mem_append_left _ (List.mem_append_left _ (List.mem_append_left _ (List.mem_append_left _ (List.mem_append_left _ (List.mem_of_getElem? (i := 16) rfl))))))))) (mem_cA (List.mem_cons_of_mem _ (List.mem_append_left _ (List.mem_append_left _ (List.mem_append_left _ (List.mem_append_left _ (List.mem_append_left _ (List.mem_append_left _ (List.mem_append_left _ (List.mem_of_getElem? (i := 17) rfl))))))))) (mem_cA (List.mem_cons_of_mem _ (List.mem_append_left _ (List.mem_append_left _ (List.mem_append_left _ (List.mem_append_left _ (List.mem_append_left _ (List.mem_append_left _ (List.mem_append_left _ (List.mem_of_getElem? (i := 18) rfl))))))))) mem_cZ)))) (by decide +kernel)) ggX8_beginMessage_X5_put
set_option maxRecDepth 20000 in
theorem ggX8_beginMessage_X8_putTemplateSet : GoodIn wsX8_beginMessage wsX8_putTemplateSet := goodIn_ca ((goodIn_ca (goodIn_ca (goodIn_ca (goodIn_ca (goodIn_r _ [27, 28, 29, 30, 31, 32, 33, 34, 35, 26, 36, 37, 38, 39, 40, 41, 42, 43, 44, 45, 46, 47, 48, 49, 16, 17, 18, 19, 20, 21, 22, 50, 51, 52, 53, 54, 55, 56, 57, 58, 59, 60, 61, 62, 63, 64, 65, 66, 67, 68] rfl (by decide +kernel)) (goodIn_sub (fun _ h => List.mem_cons_of_mem _ (List.mem_append_left _ (List.mem_append_left _ (List.mem_append_left _ (List.mem_append_right _ h))))) gw_wsX50)) (goodIn_sub (fun _ h => List.mem_cons_of_mem _ (List.mem_append_left _ (List.mem_append_left _ (List.mem_append_left _ (List.mem_append_left _ (List.mem_append_left _ (List.mem_append_right _ h))))))) gw_wsX80)) (goodIn_sub (fun _ h => List.mem_cons_of_mem _ (List.mem_append_left _ (List.mem_append_left _ (List.mem_append_right _ h)))) gw_wsX100)) (goodIn_sub (fun _ h => List.mem_cons_of_mem _ (List.mem_append_left _ (List.mem_append_right _ h))) gw_wsX10))) (goodIn_sub (fun _ h => List.mem_cons_of_mem _ (List.mem_append_right _ h)) (all_fg _))
set_option maxRecDepth 20000 in
theorem gX8_beginMessage_X8_putTemplateSet : GoodIn wsX8_beginMessage (wsV RX8 137 RX8 yX8_putTemplateSet wsX8_putTemplateSet) := goodIn_app (goodIn_m (mem_cA (List.mem_cons_of_mem _ (List.mem_append_left _ (List.mem_append_left _ (List.mem_append_left _ (List.mem_append_left _ (List.mem_append_left _ (List.mem_append_left _ (List.mem_append_left _ (List.mem_of_getElem? (i := 22) rfl))))))))) (mem_cA (List.mem_cons_of_mem _ (List.mem_append_left _ (List.mem_append_left _ (List.mem_append_left _ (List.mem_append_left _ (List.mem_append_left _ (List.mem_append_left _ (List.mem_append_left _ (List.mem_of_getElem? (i := 23) rfl))))))))) (mem_cA (List.mem_cons_of_mem _ (List.mem_append_left _ (List.mem_append_left _ (List.mem_append_left _ (List.mem_append_left _ (List.mem_append_left _ (List.mem_append_left _ (List.mem_append_right _ (List.mem_append_left _ (List.mem_of_getElem? (i := 0) rfl)))))))))) (mem_cA (List.mem_cons_of_mem _ (List.mem_append_left _ (List.mem_append_left _ (List.mem_append_left _ (List.mem_append_left _ (List.mem_append_left _ (List.mem_append_left _ (List.mem_append_right _ (List.mem_append_left _ (List.mem_of_getElem? (i := 1) rfl)))))))))) mem_cZ)))) (by decide +kernel)) ggX8_beginMessage_X8_putTemplateSet
theorem dX8_beginMessage_0 : decode cX8_beginMessage 0 = .ok (.aload_n 0, 1) := by decide +kernel
theorem dX8_beginMessage_1 : decode cX8_beginMessage 1 = .ok (.getfield 48, 3) := by decide +kernel
theorem dX8_beginMessage_4 : decode cX8_beginMessage 4 = .ok (.invokevirtual 129, 3) := by decide +kernel
theorem dX8_beginMessage_7 : decode cX8_beginMessage 7 = .ok (.astore_n 2, 1) := by decide +kernel
theorem dX8_beginMessage_8 : decode cX8_beginMessage 8 = .ok (.aload_n 2, 1) := by decide +kernel
theorem dX8_beginMessage_9 : decode cX8_beginMessage 9 = .ok (.ldc2_w 135, 3) := by decide +kernel
theorem dX8_beginMessage_12 : decode cX8_beginMessage 12 = .ok (.iconst 2, 1) := by decide +kernel
theorem dX8_beginMessage_13 : decode cX8_beginMessage 13 = .ok (.invokevirtual 106, 3) := by decide +kernel
theorem dX8_beginMessage_16 : decode cX8_beginMessage 16 = .ok (.aload_n 2, 1) := by decide +kernel
theorem dX8_beginMessage_17 : decode cX8_beginMessage 17 = .ok (.lconst 0, 1) := by decide +kernel
theorem dX8_beginMessage_18 : decode cX8_beginMessage 18 = .ok (.iconst 2, 1) := by decide +kernel
theorem dX8_beginMessage_19 : decode cX8_beginMessage 19 = .ok (.invokevirtual 106, 3) := by decide +kernel
theorem dX8_beginMessage_22 : decode cX8_beginMessage 22 = .ok (.aload_n 2, 1) := by decide +kernel
theorem dX8_beginMessage_23 : decode cX8_beginMessage 23 = .ok (.iload_n 1, 1) := by decide +kernel
theorem dX8_beginMessage_24 : decode cX8_beginMessage 24 = .ok (.i2l, 1) := by decide +kernel
theorem dX8_beginMessage_25 : decode cX8_beginMessage 25 = .ok (.iconst 4, 1) := by decide +kernel
theorem dX8_beginMessage_26 : decode cX8_beginMessage 26 = .ok (.invokevirtual 106, 3) := by decide +kernel
theorem dX8_beginMessage_29 : decode cX8_beginMessage 29 = .ok (.aload_n 2, 1) := by decide +kernel
theorem dX8_beginMessage_30 : decode cX8_beginMessage 30 = .ok (.aload_n 0, 1) := by decide +kernel
theorem dX8_beginMessage_31 : decode cX8_beginMessage 31 = .ok (.getfield 41, 3) := by decide +kernel
theorem dX8_beginMessage_34 : decode cX8_beginMessage 34 = .ok (.i2l, 1) := by decide +kernel
theorem dX8_beginMessage_35 : decode cX8_beginMessage 35 = .ok (.iconst 4, 1) := by decide +kernel
theorem dX8_beginMessage_36 : decode cX8_beginMessage 36 = .ok (.invokevirtual 106, 3) := by decide +kernel
theorem dX8_beginMessage_39 : decode cX8_beginMessage 39 = .ok (.aload_n 2, 1) := by decide +kernel
theorem dX8_beginMessage_40 : decode cX8_beginMessage 40 = .ok (.lconst 0, 1) := by decide +kernel
theorem dX8_beginMessage_41 : decode cX8_beginMessage 41 = .ok (.iconst 4, 1) := by decide +kernel
theorem dX8_beginMessage_42 : decode cX8_beginMessage 42 = .ok (.invokevirtual 106, 3) := by decide +kernel
theorem dX8_beginMessage_45 : decode cX8_beginMessage 45 = .ok (.aload_n 0, 1) := by decide +kernel
theorem dX8_beginMessage_46 : decode cX8_beginMessage 46 = .ok (.aload_n 2, 1) := by decide +kernel
theorem dX8_beginMessage_47 : decode cX8_beginMessage 47 = .ok (.iload_n 1, 1) := by decide +kernel
theorem dX8_beginMessage_48 : decode cX8_beginMessage 48 = .ok (.invokevirtual 137, 3) := by decide +kernel
theorem dX8_beginMessage_51 : decode cX8_beginMessage 51 = .ok (.aload_n 2, 1) := by decide +kernel
theorem dX8_beginMessage_52 : decode cX8_beginMessage 52 = .ok (.areturn, 1) := by decide +kernel
set_option maxRecDepth 20000 in
theorem ggX8_endMessage_X5_putAt : GoodIn wsX8_endMessage wsX5_putAt := goodIn_ca ((goodIn_ca (goodIn_r _ [10, 11, 12] rfl (by decide +kernel)) (goodIn_sub (fun _ h => List.mem_cons_of_mem _ (List.mem_append_left _ (List.mem_append_left _ (List.mem_append_left _ (List.mem_append_right _ h))))) gw_wsX50))) (goodIn_sub (fun _ h => List.mem_cons_of_mem _ (List.mem_append_right _ h)) (all_fg _))
set_option maxRecDepth 20000 in
theorem gX8_endMessage_X5_putAt : GoodIn wsX8_endMessage (wsV RX8 125 RX5 yX5_putAt wsX5_putAt) := goodIn_app (goodIn_m (mem_cA (List.mem_cons_of_mem _ (List.mem_append_left _ (List.mem_append_left _ (List.mem_append_left _ (List.mem_append_left _ (List.mem_of_getElem? (i := 5) rfl)))))) (mem_cA (List.mem_cons_of_mem _ (List.mem_append_left _ (List.mem_append_left _ (List.mem_append_left _ (List.mem_append_left _ (List.mem_of_getElem? (i := 6) rfl)))))) (mem_cA (List.mem_cons_of_mem _ (List.mem_append_left _ (List.mem_append_left _ (List.mem_append_left _ (List.mem_append_left _ (List.mem_of_getElem? (i := 7) rfl)))))) (mem_cA (List.mem_cons_of_mem _ (List.mem_append_left _ (List.mem_append_left _ (List.mem_append_left _ (List.mem_append_left _ (List.mem_of_getElem? (i := 8) rfl)))))) mem_cZ)))) (by decide +kernel)) ggX8_endMessage_X5_putAt
set_option maxRecDepth 20000 in
theorem ggX8_endMessage_X7_addFreeMessage : GoodIn wsX8_endMessage wsX7_addFreeMessage := (goodIn_ca (goodIn_r _ [17, 18, 19] rfl (by decide +kernel)) (goodIn_sub (fun _ h => List.mem_cons_of_mem _ (List.mem_append_left _ (List.mem_append_right _ h))) gw_wsX70))
set_option maxRecDepth 20000 in
theorem gX8_endMessage_X7_addFreeMessage : GoodIn wsX8_endMessage (wsV RX8 140 RX7 yX7_addFreeMessage wsX7_addFreeMessage) := goodIn_app (goodIn_m (mem_cA (List.mem_cons_of_mem _ (List.mem_append_left _ (List.mem_append_left _ (List.mem_append_left _ (List.mem_append_left _ (List.mem_of_getElem? (i := 12) rfl)))))) (mem_cA (List.mem_cons_of_mem _ (List.mem_append_left _ (List.mem_append_left _ (List.mem_append_left _ (List.mem_append_left _ (List.mem_of_getElem? (i := 13) rfl)))))) (mem_cA (List.mem_cons_of_mem _ (List.mem_append_left _ (List.mem_append_left _ (List.mem_append_left _ (List.mem_append_left _ (List.mem_of_getElem? (i := 14) rfl)))))) (mem_cA (List.mem_cons_of_mem _ (List.mem_append_left _ (List.mem_append_left _ (List.mem_append_left _ (List.mem_append_left _ (List.mem_of_getElem? (i := 15) rfl)))))) mem_cZ)))) (by decide +kernel)) ggX8_endMessage_X7_addFreeMessage
theorem dX8_endMessage_0 : decode cX8_endMessage 0 = .ok (.aload_n 1, 1) := by decide +kernel
theorem dX8_endMessage_1 : decode cX8_endMessage 1 = .ok (.iconst 2, 1) := by decide +kernel
theorem dX8_endMessage_2 : decode cX8_endMessage 2 = .ok (.aload_n 1, 1) := by decide +kernel
theorem dX8_endMessage_3 : decode cX8_endMessage 3 = .ok (.getfield 61, 3) := by decide +kernel
theorem dX8_endMessage_6 : decode cX8_endMessage 6 = .ok (.i2l, 1) := by decide +kernel
theorem dX8_endMessage_7 : decode cX8_endMessage 7 = .ok (.iconst 2, 1) := by decide +kernel
theorem dX8_endMessage_8 : decode cX8_endMessage 8 = .ok (.invokevirtual 125, 3) := by decide +kernel
theorem dX8_endMessage_11 : decode cX8_endMessage 11 = .ok (.aload_n 1, 1) := by decide +kernel
theorem dX8_endMessage_12 : decode cX8_endMessage 12 = .ok (.bipush 12, 2) := by decide +kernel
theorem dX8_endMessage_14 : decode cX8_endMessage 14 = .ok (.iload_n 2, 1) := by decide +kernel
theorem dX8_endMessage_15 : decode cX8_endMessage 15 = .ok (.i2l, 1) := by decide +kernel
theorem dX8_endMessage_16 : decode cX8_endMessage 16 = .ok (.iconst 4, 1) := by decide +kernel
theorem dX8_endMessage_17 : decode cX8_endMessage 17 = .ok (.invokevirtual 125, 3) := by decide +kernel
theorem dX8_endMessage_20 : decode cX8_endMessage 20 = .ok (.aload_n 0, 1) := by decide +kernel
theorem dX8_endMessage_21 : decode cX8_endMessage 21 = .ok (.getfield 48, 3) := by decide +kernel
theorem dX8_endMessage_24 : decode cX8_endMessage 24 = .ok (.invokevirtual 140, 3) := by decide +kernel
theorem dX8_endMessage_27 : decode cX8_endMessage 27 = .ok (.aload_n 0, 1) := by decide +kernel
theorem dX8_endMessage_28 : decode cX8_endMessage 28 = .ok (.dup, 1) := by decide +kernel
theorem dX8_endMessage_29 : decode cX8_endMessage 29 = .ok (.getfield 34, 3) := by decide +kernel
theorem dX8_endMessage_32 : decode cX8_endMessage 32 = .ok (.iconst 1, 1) := by decide +kernel
theorem dX8_endMessage_33 : decode cX8_endMessage 33 = .ok (.iadd, 1) := by decide +kernel
theorem dX8_endMessage_34 : decode cX8_endMessage 34 = .ok (.putfield 34, 3) := by decide +kernel
theorem dX8_endMessage_37 : decode cX8_endMessage 37 = .ok (.aload_n 0, 1) := by decide +kernel
theorem dX8_endMessage_38 : decode cX8_endMessage 38 = .ok (.dup, 1) := by decide +kernel
theorem dX8_endMessage_39 : decode cX8_endMessage 39 = .ok (.getfield 37, 3) := by decide +kernel
theorem dX8_endMessage_42 : decode cX8_endMessage 42 = .ok (.iload_n 2, 1) := by decide +kernel
theorem dX8_endMessage_43 : decode cX8_endMessage 43 = .ok (.i2l, 1) := by decide +kernel
theorem dX8_endMessage_44 : decode cX8_endMessage 44 = .ok (.ladd, 1) := by decide +kernel
theorem dX8_endMessage_45 : decode cX8_endMessage 45 = .ok (.putfield 37, 3) := by decide +kernel
theorem dX8_endMessage_48 : decode cX8_endMessage 48 = .ok (.aload_n 0, 1) := by decide +kernel
theorem dX8_endMessage_49 : decode cX8_endMessage 49 = .ok (.dup, 1) := by decide +kernel
theorem dX8_endMessage_50 : decode cX8_endMessage 50 = .ok (.getfield 41, 3) := by decide +kernel
theorem dX8_endMessage_53 : decode cX8_endMessage 53 = .ok (.iload_n 2, 1) := by decide +kernel
theorem dX8_endMessage_54 : decode cX8_endMessage 54 = .ok (.iadd, 1) := by decide +kernel
theorem dX8_endMessage_55 : decode cX8_endMessage 55 = .ok (.putfield 41, 3) := by decide +kernel
theorem dX8_endMessage_58 : decode cX8_endMessage 58 = .ok (.return_, 1) := by decide +kernel
set_option maxRecDepth 20000 in
theorem ggX8_putTemplateSet_X8_mustSend : GoodIn wsX8_putTemplateSet wsX8_mustSend := goodIn_ca ((goodIn_ca (goodIn_ca (goodIn_ca (goodIn_r _ [10, 11, 12, 3, 4, 5, 13, 14, 15, 16, 17, 18, 19, 20, 21, 22, 23] rfl (by decide +kernel)) (goodIn_sub (fun _ h => List.mem_cons_of_mem _ (List.mem_append_left _ (List.mem_append_left _ (List.mem_append_left _ (List.mem_append_right _ h))))) gw_wsX80)) (goodIn_sub (fun _ h => List.mem_cons_of_mem _ (List.mem_append_left _ (List.mem_append_left _ (List.mem_append_right _ h)))) gw_wsX100)) (goodIn_sub (fun _ h => List.mem_cons_of_mem _ (List.mem_append_left _ (List.mem_append_right _ h))) gw_wsX10))) (goodIn_sub (fun _ h => List.mem_cons_of_mem _ (List.mem_append_right _ h)) (all_fg _))
set_option maxRecDepth 20000 in
theorem gX8_putTemplateSet_X8_mustSend : GoodIn wsX8_putTemplateSet (wsV RX8 143 RX8 yX8_mustSend wsX8_mustSend) := goodIn_app (goodIn_m (mem_cA (List.mem_cons_of_mem _ (List.mem_append_left _ (List.mem_append_left _ (List.mem_append_left _ (List.mem_append_left _ (List.mem_append_left _ (List.mem_append_left _ (List.mem_of_getElem? (i := 5) rfl)))))))) (mem_cA (List.mem_cons_of_mem _ (List.mem_append_left _ (List.mem_append_left _ (List.mem_append_left _ (List.mem_append_left _ (List.mem_append_left _ (List.mem_append_left _ (List.mem_of_getElem? (i := 6) rfl)))))))) (mem_cA (List.mem_cons_of_mem _ (List.mem_append_left _ (List.mem_append_left _ (List.mem_append_left _ (List.mem_append_left _ (List.mem_append_left _ (List.mem_append_left _ (List.mem_of_getElem? (i := 7) rfl)))))))) (mem_cA (List.mem_cons_of_mem _ (List.mem_append_left _ (List.mem_append_left _ (List.mem_append_left _ (List.mem_append_left _ (List.mem_append_left _ (List.mem_append_left _ (List.mem_of_getElem? (i := 8) rfl)))))))) mem_cZ)))) (by decide +kernel)) ggX8_putTemplateSet_X8_mustSend
set_option maxRecDepth 20000 in
theorem ggX8_putTemplateSet_X5_put : GoodIn wsX8_putTemplateSet wsX5_put := goodIn_ca ((goodIn_ca (goodIn_r _ [28, 29, 30] rfl (by decide +kernel)) (goodIn_sub (fun _ h => List.mem_cons_of_mem _ (List.mem_append_left _ (List.mem_append_left _ (List.mem_append_left _ (List.mem_append_left _ (List.mem_append_right _ h)))))) gw_wsX50))) (goodIn_sub (fun _ h => List.mem_cons_of_mem _ (List.mem_append_right _ h)) (all_fg _))
set_option maxRecDepth 20000 in
theorem gX8_putTemplateSet_X5_put : GoodIn wsX8_putTemplateSet (wsV RX8 106 RX5 yX5_put wsX5_put) := goodIn_app (goodIn_m (mem_cA (List.mem_cons_of_mem _ (List.mem_append_left _ (List.mem_append_left _ (List.mem_append_left _ (List.mem_append_left _ (List.mem_append_left _ (List.mem_append_left _ (List.mem_of_getElem? (i := 23) rfl)))))))) (mem_cA (List.mem_cons_of_mem _ (List.mem_append_left _ (List.mem_append_left _ (List.mem_append_left _ (List.mem_append_left _ (List.mem_append_left _ (List.mem_append_right _ (List.mem_append_left _ (List.mem_of_getElem? (i := 0) rfl))))))))) (mem_cA (List.mem_cons_of_mem _ (List.mem_append_left _ (List.mem_append_left _ (List.mem_append_left _ (List.mem_append_left _ (List.mem_append_left _ (List.mem_append_right _ (List.mem_append_left _ (List.mem_of_getElem? (i := 1) rfl))))))))) (mem_cA (List.mem_cons_of_mem _ (List.mem_append_left _ (List.mem_append_left _ (List.mem_append_left _ (List.mem_append_left _ (List.mem_append_left _ (List.mem_append_right _ (List.mem_append_left _ (List.mem_of_getElem? (i := 2) rfl))))))))) mem_cZ)))) (by decide +kernel)) ggX8_putTemplateSet_X5_put
set_option maxRecDepth 20000 in
theorem ggX8_putTemplateSet_X8_putTemplate : GoodIn wsX8_putTemplateSet wsX8_putTemplate := goodIn_ca ((goodIn_ca (goodIn_ca (goodIn_ca (goodIn_ca (goodIn_r _ [34, 11, 12, 13, 14, 15, 16, 17, 18, 24, 25, 26, 27, 28, 29, 30, 35, 36, 37, 38, 39, 40, 41, 42, 43, 44, 45] rfl (by decide +kernel)) (goodIn_sub (fun _ h => List.mem_cons_of_mem _ (List.mem_append_left _ (List.mem_append_left _ (List.mem_append_left _ (List.mem_append_right _ h))))) gw_wsX80)) (goodIn_sub (fun _ h => List.mem_cons_of_mem _ (List.mem_append_left _ (List.mem_append_left _ (List.mem_append_right _ h)))) gw_wsX100)) (goodIn_sub (fun _ h => List.mem_cons_of_mem _ (List.mem_append_left _ (List.mem_append_right _ h))) gw_wsX10)) (goodIn_sub (fun _ h => List.mem_cons_of_mem _ (List.mem_append_left _ (List.mem_append_left _ (List.mem_append_left _ (List.mem_append_left _ (List.mem_append_right _ h)))))) gw_wsX50))) (goodIn_sub (fun _ h => List.mem_cons_of_mem _ (List.mem_append_right _ h)) (all_fg _))
set_option maxRecDepth 20000 in
theorem gX8_putTemplateSet_X8_putTemplate : GoodIn wsX8_putTemplateSet (wsV RX8 149 RX8 yX8_putTemplate wsX8_putTemplate) := goodIn_app (goodIn_m (mem_cA (List.mem_cons_of_mem _ (List.mem_append_left _ (List.mem_append_left _ (List.mem_append_left _ (List.mem_append_left _ (List.mem_append_left _ (List.mem_append_right _ (List.mem_append_left _ (List.mem_of_getElem? (i := 6) rfl))))))))) (mem_cA (List.mem_cons_of_mem _ (List.mem_append_left _ (List.mem_append_left _ (List.mem_append_left _ (List.mem_append_left _ (List.mem_append_left _ (List.mem_append_right _ (List.mem_append_left _ (List.mem_of_getElem? (i := 7) rfl))))))))) (mem_cA (List.mem_cons_of_mem _ (List.mem_append_left _ (List.mem_append_left _ (List.mem_append_left _ (List.mem_append_left _ (List.mem_append_left _ (List.mem_append_right _ (List.mem_append_left _ (List.mem_of_getElem? (i := 8) rfl))))))))) (mem_cA (List.mem_cons_of_mem _ (List.mem_append_left _ (List.mem_append_left _ (List.mem_append_left _ (List.mem_append_left _ (List.mem_append_left _ (List.mem_append_left _ (List.mem_of_getElem? (i := 8) rfl)))))))) mem_cZ)))) (by decide +kernel)) ggX8_putTemplateSet_X8_putTemplate
set_option maxRecDepth 20000 in
theorem ggX8_putTemplateSet_X5_putAt : GoodIn wsX8_putTemplateSet wsX5_putAt := goodIn_ca ((goodIn_ca (goodIn_r _ [49, 29, 30] rfl (by decide +kernel)) (goodIn_sub (fun _ h => List.mem_cons_of_mem _ (List.mem_append_left _ (List.mem_append_left _ (List.mem_append_left _ (List.mem_append_left _ (List.mem_append_right _ h)))))) gw_wsX50))) (goodIn_sub (fun _ h => List.mem_cons_of_mem _ (List.mem_append_right _ h)) (all_fg _))
set_option maxRecDepth 20000 in
theorem gX8_putTemplateSet_X5_putAt : GoodIn wsX8_putTemplateSet (wsV RX8 125 RX5 yX5_putAt wsX5_putAt) := goodIn_app (goodIn_m (mem_cA (List.mem_cons_of_mem _ (List.mem_append_left _ (List.mem_append_left _ (List.mem_append_left _ (List.mem_append_left _ (List.mem_append_left _ (List.mem_append_right _ (List.mem_append_left _ (List.mem_of_getElem? (i := 21) rfl))))))))) (mem_cA (List.mem_cons_of_mem _ (List.mem_append_left _ (List.mem_append_left _ (List.mem_append_left _ (List.mem_append_left _ (List.mem_append_left _ (List.mem_append_right _ (List.mem_append_left _ (List.mem_of_getElem? (i := 22) rfl))))))))) (mem_cA (List.mem_cons_of_mem _ (List.mem_append_left _ (List.mem_append_left _ (List.mem_append_left _ (List.mem_append_left _ (List.mem_append_left _ (List.mem_append_right _ (List.mem_append_left _ (List.mem_of_getElem? (i := 23) rfl))))))))) (mem_cA (List.mem_cons_of_mem _ (List.mem_append_left _ (List.mem_append_left _ (List.mem_append_left _ (List.mem_append_left _ (List.mem_append_left _ (List.mem_append_right _ (List.mem_append_left _ (List.mem_of_getElem? (i := 2) rfl))))))))) mem_cZ)))) (by decide +kernel)) ggX8_putTemplateSet_X5_putAt
theorem dX8_putTemplateSet_0 : decode cX8_putTemplateSet 0 = .ok (.aload_n 1, 1) := by decide +kernel
theorem dX8_putTemplateSet_1 : decode cX8_putTemplateSet 1 = .ok (.getfield 61, 3) := by decide +kernel
theorem dX8_putTemplateSet_4 : decode cX8_putTemplateSet 4 = .ok (.istore_n 3, 1) := by decide +kernel
theorem dX8_putTemplateSet_5 : decode cX8_putTemplateSet 5 = .ok (.iconst 0, 1) := by decide +kernel
theorem dX8_putTemplateSet_6 : decode cX8_putTemplateSet 6 = .ok (.istore 4, 2) := by decide +kernel
theorem dX8_putTemplateSet_8 : decode cX8_putTemplateSet 8 = .ok (.iload 4, 2) := by decide +kernel
theorem dX8_putTemplateSet_10 : decode cX8_putTemplateSet 10 = .ok (.iconst 4, 1) := by decide +kernel
theorem dX8_putTemplateSet_11 : decode cX8_putTemplateSet 11 = .ok (.if_icmp .ge 69, 3) := by decide +kernel
theorem dX8_putTemplateSet_14 : decode cX8_putTemplateSet 14 = .ok (.aload_n 0, 1) := by decide +kernel
theorem dX8_putTemplateSet_15 : decode cX8_putTemplateSet 15 = .ok (.iload 4, 2) := by decide +kernel
theorem dX8_putTemplateSet_17 : decode cX8_putTemplateSet 17 = .ok (.iload_n 2, 1) := by decide +kernel
theorem dX8_putTemplateSet_18 : decode cX8_putTemplateSet 18 = .ok (.invokevirtual 143, 3) := by decide +kernel
theorem dX8_putTemplateSet_21 : decode cX8_putTemplateSet 21 = .ok (.ifCond .eq 53, 3) := by decide +kernel
theorem dX8_putTemplateSet_24 : decode cX8_putTemplateSet 24 = .ok (.aload_n 1, 1) := by decide +kernel
theorem dX8_putTemplateSet_25 : decode cX8_putTemplateSet 25 = .ok (.getfield 61, 3) := by decide +kernel
theorem dX8_putTemplateSet_28 : decode cX8_putTemplateSet 28 = .ok (.iload_n 3, 1) := by decide +kernel
theorem dX8_putTemplateSet_29 : decode cX8_putTemplateSet 29 = .ok (.if_icmp .ne 17, 3) := by decide +kernel
theorem dX8_putTemplateSet_32 : decode cX8_putTemplateSet 32 = .ok (.aload_n 1, 1) := by decide +kernel
theorem dX8_putTemplateSet_33 : decode cX8_putTemplateSet 33 = .ok (.ldc2_w 147, 3) := by decide +kernel
theorem dX8_putTemplateSet_36 : decode cX8_putTemplateSet 36 = .ok (.iconst 2, 1) := by decide +kernel
theorem dX8_putTemplateSet_37 : decode cX8_putTemplateSet 37 = .ok (.invokevirtual 106, 3) := by decide +kernel
theorem dX8_putTemplateSet_40 : decode cX8_putTemplateSet 40 = .ok (.aload_n 1, 1) := by decide +kernel
theorem dX8_putTemplateSet_41 : decode cX8_putTemplateSet 41 = .ok (.lconst 0, 1) := by decide +kernel
theorem dX8_putTemplateSet_42 : decode cX8_putTemplateSet 42 = .ok (.iconst 2, 1) := by decide +kernel
theorem dX8_putTemplateSet_43 : decode cX8_putTemplateSet 43 = .ok (.invokevirtual 106, 3) := by decide +kernel
theorem dX8_putTemplateSet_46 : decode cX8_putTemplateSet 46 = .ok (.aload_n 0, 1) := by decide +kernel
theorem dX8_putTemplateSet_47 : decode cX8_putTemplateSet 47 = .ok (.aload_n 1, 1) := by decide +kernel
theorem dX8_putTemplateSet_48 : decode cX8_putTemplateSet 48 = .ok (.iload 4, 2) := by decide +kernel
theorem dX8_putTemplateSet_50 : decode cX8_putTemplateSet 50 = .ok (.invokevirtual 149, 3) := by decide +kernel
theorem dX8_putTemplateSet_53 : decode cX8_putTemplateSet 53 = .ok (.aload_n 0, 1) := by decide +kernel
theorem dX8_putTemplateSet_54 : decode cX8_putTemplateSet 54 = .ok (.getfield 28, 3) := by decide +kernel
theorem dX8_putTemplateSet_57 : decode cX8_putTemplateSet 57 = .ok (.iload 4, 2) := by decide +kernel
theorem dX8_putTemplateSet_59 : decode cX8_putTemplateSet 59 = .ok (.aload_n 0, 1) := by decide +kernel
theorem dX8_putTemplateSet_60 : decode cX8_putTemplateSet 60 = .ok (.getfield 34, 3) := by decide +kernel
theorem dX8_putTemplateSet_63 : decode cX8_putTemplateSet 63 = .ok (.iconst 1, 1) := by decide +kernel
theorem dX8_putTemplateSet_64 : decode cX8_putTemplateSet 64 = .ok (.iadd, 1) := by decide +kernel
theorem dX8_putTemplateSet_65 : decode cX8_putTemplateSet 65 = .ok (.iastore, 1) := by decide +kernel
theorem dX8_putTemplateSet_66 : decode cX8_putTemplateSet 66 = .ok (.aload_n 0, 1) := by decide +kernel
theorem dX8_putTemplateSet_67 : decode cX8_putTemplateSet 67 = .ok (.getfield 31, 3) := by decide +kernel
theorem dX8_putTemplateSet_70 : decode cX8_putTemplateSet 70 = .ok (.iload 4, 2) := by decide +kernel
theorem dX8_putTemplateSet_72 : decode cX8_putTemplateSet 72 = .ok (.iload_n 2, 1) := by decide +kernel
theorem dX8_putTemplateSet_73 : decode cX8_putTemplateSet 73 = .ok (.iastore, 1) := by decide +kernel
theorem dX8_putTemplateSet_74 : decode cX8_putTemplateSet 74 = .ok (.iinc 4 1, 3) := by decide +kernel
theorem dX8_putTemplateSet_77 : decode cX8_putTemplateSet 77 = .ok (.goto (-69), 3) := by decide +kernel
theorem dX8_putTemplateSet_80 : decode cX8_putTemplateSet 80 = .ok (.aload_n 1, 1) := by decide +kernel
theorem dX8_putTemplateSet_81 : decode cX8_putTemplateSet 81 = .ok (.getfield 61, 3) := by decide +kernel
theorem dX8_putTemplateSet_84 : decode cX8_putTemplateSet 84 = .ok (.iload_n 3, 1) := by decide +kernel
theorem dX8_putTemplateSet_85 : decode cX8_putTemplateSet 85 = .ok (.if_icmp .le 18, 3) := by decide +kernel
theorem dX8_putTemplateSet_88 : decode cX8_putTemplateSet 88 = .ok (.aload_n 1, 1) := by decide +kernel
theorem dX8_putTemplateSet_89 : decode cX8_putTemplateSet 89 = .ok (.iload_n 3, 1) := by decide +kernel
theorem dX8_putTemplateSet_90 : decode cX8_putTemplateSet 90 = .ok (.iconst 2, 1) := by decide +kernel
theorem dX8_putTemplateSet_91 : decode cX8_putTemplateSet 91 = .ok (.iadd, 1) := by decide +kernel
theorem dX8_putTemplateSet_92 : decode cX8_putTemplateSet 92 = .ok (.aload_n 1, 1) := by decide +kernel
theorem dX8_putTemplateSet_93 : decode cX8_putTemplateSet 93 = .ok (.getfield 61, 3) := by decide +kernel
theorem dX8_putTemplateSet_96 : decode cX8_putTemplateSet 96 = .ok (.iload_n 3, 1) := by decide +kernel
theorem dX8_putTemplateSet_97 : decode cX8_putTemplateSet 97 = .ok (.isub, 1) := by decide +kernel
theorem dX8_putTemplateSet_98 : decode cX8_putTemplateSet 98 = .ok (.i2l, 1) := by decide +kernel
theorem dX8_putTemplateSet_99 : decode cX8_putTemplateSet 99 = .ok (.iconst 2, 1) := by decide +kernel
theorem dX8_putTemplateSet_100 : decode cX8_putTemplateSet 100 = .ok (.invokevirtual 125, 3) := by decide +kernel
theorem dX8_putTemplateSet_103 : decode cX8_putTemplateSet 103 = .ok (.return_, 1) := by decide +kernel
set_option maxRecDepth 20000 in
theorem ggX8_putTemplate_X1_effective : GoodIn wsX8_putTemplate wsX1_effective := (goodIn_ca (goodIn_r _ [7, 8] rfl (by decide +kernel)) (goodIn_sub (fun _ h => List.mem_cons_of_mem _ (List.mem_append_left _ (List.mem_append_left _ (List.mem_append_right _ h)))) gw_wsX10))
set_option maxRecDepth 20000 in
theorem gX8_putTemplate_X1_effective : GoodIn wsX8_putTemplate (wsV RX8 82 RX1 yX1_effective wsX1_effective) := goodIn_app (goodIn_m (mem_cA (List.mem_cons_of_mem _ (List.mem_append_left _ (List.mem_append_left _ (List.mem_append_left _ (List.mem_append_left _ (List.mem_append_left _ (List.mem_append_left _ (List.mem_of_getElem? (i := 2) rfl)))))))) (mem_cA (List.mem_cons_of_mem _ (List.mem_append_left _ (List.mem_append_left _ (List.mem_append_left _ (List.mem_append_left _ (List.mem_append_left _ (List.mem_append_left _ (List.mem_of_getElem? (i := 3) rfl)))))))) (mem_cA (List.mem_cons_of_mem _ (List.mem_append_left _ (List.mem_append_left _ (List.mem_append_left _ (List.mem_append_left _ (List.mem_append_left _ (List.mem_append_left _ (List.mem_of_getElem? (i := 4) rfl)))))))) (mem_cA (List.mem_cons_of_mem _ (List.mem_append_left _ (List.mem_append_left _ (List.mem_append_left _ (List.mem_append_left _ (List.mem_append_left _ (List.mem_append_left _ (List.mem_of_getElem? (i := 5) rfl)))))))) mem_cZ)))) (by decide +kernel)) ggX8_putTemplate_X1_effective
set_option maxRecDepth 20000 in
theorem ggX8_putTemplate_X5_put : GoodIn wsX8_putTemplate wsX5_put := goodIn_ca ((goodIn_ca (goodIn_r _ [13, 14, 15] rfl (by decide +kernel)) (goodIn_sub (fun _ h => List.mem_cons_of_mem _ (List.mem_append_left _ (List.mem_append_right _ h))) gw_wsX50))) (goodIn_sub (fun _ h => List.mem_cons_of_mem _ (List.mem_append_right _ h)) (all_fg _))
set_option maxRecDepth 20000 in
theorem gX8_putTemplate_X5_put : GoodIn wsX8_putTemplate (wsV RX8 106 RX5 yX5_put wsX5_put) := goodIn_app (goodIn_m (mem_cA (List.mem_cons_of_mem _ (List.mem_append_left _ (List.mem_append_left _ (List.mem_append_left _ (List.mem_append_left _ (List.mem_append_left _ (List.mem_append_left _ (List.mem_of_getElem? (i := 8) rfl)))))))) (mem_cA (List.mem_cons_of_mem _ (List.mem_append_left _ (List.mem_append_left _ (List.mem_append_left _ (List.mem_append_left _ (List.mem_append_left _ (List.mem_append_left _ (List.mem_of_getElem? (i := 9) rfl)))))))) (mem_cA (List.mem_cons_of_mem _ (List.mem_append_left _ (List.mem_append_left _ (List.mem_append_left _ (List.mem_append_left _ (List.mem_append_left _ (List.mem_append_left _ (List.mem_of_getElem? (i := 10) rfl)))))))) (mem_cA (List.mem_cons_of_mem _ (List.mem_append_left _ (List.mem_append_left _ (List.mem_append_left _ (List.mem_append_left _ (List.mem_append_left _ (List.mem_append_left _ (List.mem_of_getElem? (i := 11) rfl)))))))) mem_cZ)))) (by decide +kernel)) ggX8_putTemplate_X5_put
set_option maxRecDepth 20000 in
theorem ggX8_putTemplate_X10_field : GoodIn wsX8_putTemplate wsX10_field := goodIn_ca ((goodIn_ca (goodIn_r _ [20, 21, 22] rfl (by decide +kernel)) (goodIn_sub (fun _ h => List.mem_cons_of_mem _ (List.mem_append_left _ (List.mem_append_left _ (List.mem_append_left _ (List.mem_append_right _ h))))) gw_wsX100))) (goodIn_sub (fun _ h => List.mem_cons_of_mem _ (List.mem_append_right _ h)) (all_fg _))
set_option maxRecDepth 20000 in
theorem gX8_putTemplate_X10_field : GoodIn wsX8_putTemplate (wsV RX8 92 RX10 yX10_field wsX10_field) := goodIn_app (goodIn_m (mem_cA (List.mem_cons_of_mem _ (List.mem_append_left _ (List.mem_append_left _ (List.mem_append_left _ (List.mem_append_left _ (List.mem_append_left _ (List.mem_append_left _ (List.mem_of_getElem? (i := 15) rfl)))))))) (mem_cA (List.mem_cons_of_mem _ (List.mem_append_left _ (List.mem_append_left _ (List.mem_append_left _ (List.mem_append_left _ (List.mem_append_left _ (List.mem_append_left _ (List.mem_of_getElem? (i := 16) rfl)))))))) (mem_cA (List.mem_cons_of_mem _ (List.mem_append_left _ (List.mem_append_left _ (List.mem_append_left _ (List.mem_append_left _ (List.mem_append_left _ (List.mem_append_left _ (List.mem_of_getElem? (i := 17) rfl)))))))) (mem_cA (List.mem_cons_of_mem _ (List.mem_append_left _ (List.mem_append_left _ (List.mem_append_left _ (List.mem_append_left _ (List.mem_append_left _ (List.mem_append_left _ (List.mem_of_getElem? (i := 18) rfl)))))))) mem_cZ)))) (by decide +kernel)) ggX8_putTemplate_X10_field
set_option maxRecDepth 20000 in
theorem ggX8_putTemplate_X11_lengthOf : GoodIn wsX8_putTemplate wsX11_lengthOf := goodIn_ca ((goodIn_r _ [25, 26] rfl (by decide +kernel))) (goodIn_sub (fun _ h => List.mem_cons_of_mem _ (List.mem_append_right _ h)) (all_fg _))
set_option maxRecDepth 20000 in
theorem gX8_putTemplate_X11_lengthOf_n103 : GoodIn wsX8_putTemplate (wsX11_lengthOf) := ggX8_putTemplate_X11_lengthOf
theorem dX8_putTemplate_0 : decode cX8_putTemplate 0 = .ok (.aload_n 0, 1) := by decide +kernel
theorem dX8_putTemplate_1 : decode cX8_putTemplate 1 = .ok (.getfield 44, 3) := by decide +kernel
theorem dX8_putTemplate_4 : decode cX8_putTemplate 4 = .ok (.iload_n 2, 1) := by decide +kernel
theorem dX8_putTemplate_5 : decode cX8_putTemplate 5 = .ok (.invokevirtual 82, 3) := by decide +kernel
theorem dX8_putTemplate_8 : decode cX8_putTemplate 8 = .ok (.astore_n 3, 1) := by decide +kernel
theorem dX8_putTemplate_9 : decode cX8_putTemplate 9 = .ok (.aload_n 1, 1) := by decide +kernel
theorem dX8_putTemplate_10 : decode cX8_putTemplate 10 = .ok (.sipush 256, 3) := by decide +kernel
theorem dX8_putTemplate_13 : decode cX8_putTemplate 13 = .ok (.iload_n 2, 1) := by decide +kernel
theorem dX8_putTemplate_14 : decode cX8_putTemplate 14 = .ok (.iadd, 1) := by decide +kernel
theorem dX8_putTemplate_15 : decode cX8_putTemplate 15 = .ok (.i2l, 1) := by decide +kernel
theorem dX8_putTemplate_16 : decode cX8_putTemplate 16 = .ok (.iconst 2, 1) := by decide +kernel
theorem dX8_putTemplate_17 : decode cX8_putTemplate 17 = .ok (.invokevirtual 106, 3) := by decide +kernel
theorem dX8_putTemplate_20 : decode cX8_putTemplate 20 = .ok (.aload_n 1, 1) := by decide +kernel
theorem dX8_putTemplate_21 : decode cX8_putTemplate 21 = .ok (.aload_n 3, 1) := by decide +kernel
theorem dX8_putTemplate_22 : decode cX8_putTemplate 22 = .ok (.getfield 85, 3) := by decide +kernel
theorem dX8_putTemplate_25 : decode cX8_putTemplate 25 = .ok (.i2l, 1) := by decide +kernel
theorem dX8_putTemplate_26 : decode cX8_putTemplate 26 = .ok (.iconst 2, 1) := by decide +kernel
theorem dX8_putTemplate_27 : decode cX8_putTemplate 27 = .ok (.invokevirtual 106, 3) := by decide +kernel
theorem dX8_putTemplate_30 : decode cX8_putTemplate 30 = .ok (.iconst 0, 1) := by decide +kernel
theorem dX8_putTemplate_31 : decode cX8_putTemplate 31 = .ok (.istore 4, 2) := by decide +kernel
theorem dX8_putTemplate_33 : decode cX8_putTemplate 33 = .ok (.iload 4, 2) := by decide +kernel
theorem dX8_putTemplate_35 : decode cX8_putTemplate 35 = .ok (.aload_n 3, 1) := by decide +kernel
theorem dX8_putTemplate_36 : decode cX8_putTemplate 36 = .ok (.getfield 85, 3) := by decide +kernel
theorem dX8_putTemplate_39 : decode cX8_putTemplate 39 = .ok (.if_icmp .ge 36, 3) := by decide +kernel
theorem dX8_putTemplate_42 : decode cX8_putTemplate 42 = .ok (.aload_n 3, 1) := by decide +kernel
theorem dX8_putTemplate_43 : decode cX8_putTemplate 43 = .ok (.iload 4, 2) := by decide +kernel
theorem dX8_putTemplate_45 : decode cX8_putTemplate 45 = .ok (.invokevirtual 92, 3) := by decide +kernel
theorem dX8_putTemplate_48 : decode cX8_putTemplate 48 = .ok (.istore 5, 2) := by decide +kernel
theorem dX8_putTemplate_50 : decode cX8_putTemplate 50 = .ok (.aload_n 1, 1) := by decide +kernel
theorem dX8_putTemplate_51 : decode cX8_putTemplate 51 = .ok (.iload 5, 2) := by decide +kernel
theorem dX8_putTemplate_53 : decode cX8_putTemplate 53 = .ok (.i2l, 1) := by decide +kernel
theorem dX8_putTemplate_54 : decode cX8_putTemplate 54 = .ok (.iconst 2, 1) := by decide +kernel
theorem dX8_putTemplate_55 : decode cX8_putTemplate 55 = .ok (.invokevirtual 106, 3) := by decide +kernel
theorem dX8_putTemplate_58 : decode cX8_putTemplate 58 = .ok (.aload_n 1, 1) := by decide +kernel
theorem dX8_putTemplate_59 : decode cX8_putTemplate 59 = .ok (.iload 5, 2) := by decide +kernel
theorem dX8_putTemplate_61 : decode cX8_putTemplate 61 = .ok (.invokestatic 103, 3) := by decide +kernel
theorem dX8_putTemplate_64 : decode cX8_putTemplate 64 = .ok (.i2l, 1) := by decide +kernel
theorem dX8_putTemplate_65 : decode cX8_putTemplate 65 = .ok (.iconst 2, 1) := by decide +kernel
theorem dX8_putTemplate_66 : decode cX8_putTemplate 66 = .ok (.invokevirtual 106, 3) := by decide +kernel
theorem dX8_putTemplate_69 : decode cX8_putTemplate 69 = .ok (.iinc 4 1, 3) := by decide +kernel
theorem dX8_putTemplate_72 : decode cX8_putTemplate 72 = .ok (.goto (-39), 3) := by decide +kernel
theorem dX8_putTemplate_75 : decode cX8_putTemplate 75 = .ok (.return_, 1) := by decide +kernel
set_option maxHeartbeats 4000000 in
set_option maxRecDepth 100000 in
theorem s_X8_addRecord (G : EnvG) (l : Launch) (Φ : Hm) (sz x ca : Nat) (q : Nat) (a : Int32) (b : Int32) (hx : G.2.2.2 ≤ x) (hI : In G x ca Φ) (hk_q : kd q = 19) : Ct G l yX8_addRecord wsX8_addRecord ({ frames := 2, cells := 0, slots := 0, locals := 43 }) 0 0 [.ref (x + 74), .ref (x + (q)), .int a, .int b] Φ sz (fun v Φ1 sz1 => (v = none) ∧ sz1 = sz ∧ In G x (ca) Φ1 ∧ Fr x (fun j9 => 74 ≤ j9 ∧ j9 < 78) Φ Φ1) := by
  refine Ct.of (cc := cX8_addRecord) (maxL := 9) (ret := none) (by decide) rfl (Nat.le_of_ble_eq_true rfl) ?_
  intro p9 e9 s9 m9 w9 t9 k9 B
  show Z p9 l e9 _ s9 m9 _ w9 t9 k9 _ G 9 0 [(0, .ref (x + 74)), (1, .ref (x + (q))), (2, .int a), (3, .int b)] [] Φ sz 0 0
  refine z_aload_n B dX8_addRecord_0 rfl 0 rfl ?_
  obtain ⟨n_1, v_1, v_2, v_3, h_1, b_1⟩ := in13 (k := 74) hI rfl
  have h_2 : Φ (x + 74) = some (o_ 10 [.ref (x + 3), .ref (x + 46), .ref (x + 75), .ref (x + 77), .int (nI n_1), .ref (x + 78), .ref (x + 79), .int v_1, .long v_2, .int v_3]) := h_1
  refine z_get (ref := "FlowExporter$Sender") (C := RX8) (T := TX8) (N := 10) (ci := 10) (v := .int (nI n_1)) B hu_X8_addRecord_X8 rfl 4 (Nat.le_of_ble_eq_true rfl) hv_X8_addRecord_24 rfl h_2 rfl dX8_addRecord_1 ?_
  refine z_aload_n B dX8_addRecord_4 rfl 0 rfl ?_
  refine z_get (ref := "FlowExporter$Sender") (C := RX8) (T := TX8) (N := 10) (ci := 10) (v := .ref (x + 77)) B hu_X8_addRecord_X8 rfl 3 (Nat.le_of_ble_eq_true rfl) hv_X8_addRecord_20 rfl h_2 rfl dX8_addRecord_5 ?_
  obtain ⟨f_1, h_3⟩ := in14 (k := 77) hI rfl
  have h_4 : Φ (x + 77) = some (ai_ G 12 f_1) := h_3
  refine z_alen (t := 0) (v := 12) B rfl h_4 rfl dX8_addRecord_8 ?_
  refine z_icmp_lt (tgt := 13) B dX8_addRecord_9 rfl (fun c_1 => ?_) (fun c_1 => ?_)
  · have e_1 : n_1 < 12 := (nI_ltI (a := n_1) (b := 12) (by omega) (by omega)).mp c_1
    refine z_aload_n B dX8_addRecord_13 rfl 0 rfl ?_
    refine z_get (ref := "FlowExporter$Sender") (C := RX8) (T := TX8) (N := 10) (ci := 10) (v := .ref (x + 77)) B hu_X8_addRecord_X8 rfl 3 (Nat.le_of_ble_eq_true rfl) hv_X8_addRecord_20 rfl h_2 rfl dX8_addRecord_14 ?_
    refine z_aload_n B dX8_addRecord_17 rfl 0 rfl ?_
    refine z_get (ref := "FlowExporter$Sender") (C := RX8) (T := TX8) (N := 10) (ci := 10) (v := .int (nI n_1)) B hu_X8_addRecord_X8 rfl 4 (Nat.le_of_ble_eq_true rfl) hv_X8_addRecord_24 rfl h_2 rfl dX8_addRecord_18 ?_
    refine z_iload_n B dX8_addRecord_21 rfl 2 rfl ?_
    refine z_iast B h_4 (Nat.le_trans hx (Nat.le_add_right x 77)) (vp_in_nI (by omega) (by omega)) dX8_addRecord_22 (fun Φ1 hΦ1 => ?_)
    have h_5 : Φ1 (x + 77) = some (ai_ G 12 (upd f_1 (nI n_1).toNatClampNeg a)) := fset_at hΦ1
    have hI1 : In G x (ca) Φ1 := In.put (k := 77) hI hΦ1 (ok14 (k := 77) rfl ⟨_, rfl⟩)
    refine z_aload_n B dX8_addRecord_23 rfl 0 rfl ?_
    refine z_dup B dX8_addRecord_24 rfl ?_
    have h_6 : Φ1 (x + 74) = some (o_ 10 [.ref (x + 3), .ref (x + 46), .ref (x + 75), .ref (x + 77), .int (nI n_1), .ref (x + 78), .ref (x + 79), .int v_1, .long v_2, .int v_3]) := ((fset_fr hΦ1 (ne_off (x := x) (i := 74) (j := 77) rfl)).trans h_2)
    refine z_get (ref := "FlowExporter$Sender") (C := RX8) (T := TX8) (N := 10) (ci := 10) (v := .int (nI n_1)) B hu_X8_addRecord_X8 rfl 4 (Nat.le_of_ble_eq_true rfl) hv_X8_addRecord_24 rfl h_6 rfl dX8_addRecord_25 ?_
    refine z_iconst (v := 1) B dX8_addRecord_28 rfl ?_
    refine z_iadd B dX8_addRecord_29 ?_
    refine z_top (st1 := [.int (nI (n_1 + 1)), .ref (x + 74)]) (congrArg (fun w9 : Int32 => ([.int w9, .ref (x + 74)] : List Value)) (nI_add n_1 1)) ?_
    refine z_put (ref := "FlowExporter$Sender") (C := RX8) (T := TX8) (N := 10) (ci := 10) (v := .int (nI (n_1 + 1))) B hu_X8_addRecord_X8 tyX8 tyX8_ok nmX8 rfl 4 (Nat.le_of_ble_eq_true rfl) hv_X8_addRecord_24 rfl (Or.inl rfl) h_6 (Nat.le_trans hx (Nat.le_add_right x 74)) rfl rfl (Nat.le_of_ble_eq_true rfl) dX8_addRecord_30 (fun Φ2 hΦ2 => ?_)
    have h_7 : Φ2 (x + 74) = some (o_ 10 [.ref (x + 3), .ref (x + 46), .ref (x + 75), .ref (x + 77), .int (nI (n_1 + 1)), .ref (x + 78), .ref (x + 79), .int v_1, .long v_2, .int v_3]) := fset_at hΦ2
    have hI2 : In G x (ca) Φ2 := In.put (k := 74) hI1 hΦ2 (ok13 (k := 74) rfl ⟨n_1 + 1, v_1, v_2, v_3, rfl, (show n_1 + 1 ≤ 12 by omega)⟩)
    refine z_aload_n B dX8_addRecord_33 rfl 0 rfl ?_
    refine z_get (ref := "FlowExporter$Sender") (C := RX8) (T := TX8) (N := 10) (ci := 10) (v := .ref (x + 3)) B hu_X8_addRecord_X8 rfl 0 (Nat.le_of_ble_eq_true rfl) hv_X8_addRecord_44 rfl h_7 rfl dX8_addRecord_34 ?_
    refine z_iload_n B dX8_addRecord_37 rfl 2 rfl ?_
    obtain ⟨v_4, v_5, h_8⟩ := in3 (k := 3) hI2 rfl
    have h_9 : Φ2 (x + 3) = some (o_ 3 [.ref (x + 4), .ref (x + 5), .ref (x + 6), .ref (x + 7), .int v_4, .int v_5]) := h_8
    refine z_callV (As := [.int a]) (rest := []) B (s_X1_effective G l Φ2 sz x (ca) 3 a hx hI2 rfl) (cwV 1 B.1.2.2.2.2 gX8_addRecord_X1_effective rfl rfl rfl (by decide +kernel) ⟨Nat.le_of_ble_eq_true rfl, Nat.le_of_ble_eq_true rfl⟩) h_9 rfl rfl rfl rfl (Nat.le_of_ble_eq_true rfl) dX8_addRecord_38 ⟨Nat.le_of_ble_eq_true rfl, Nat.le_of_ble_eq_true rfl⟩ (fun r_1 Φ3 sz1 st1 hp1 hs1 => ?_)
    obtain ⟨⟨m_1, hm_1, rfl⟩, hq1, hI3, hF1⟩ := hp1
    subst sz1
    replace hs1 : st1 = [.ref (x + (3 + 7 + 4 * m_1))] := hs1
    subst st1
    replace hI3 : In G x (ca) Φ3 := hI3
    replace hm_1 : m_1 < 4 := hm_1
    refine z_astore (lv' := [(4, .ref (x + (3 + 7 + 4 * m_1))), (0, .ref (x + 74)), (1, .ref (x + (q))), (2, .int a), (3, .int b)]) B dX8_addRecord_41 (Nat.le_of_ble_eq_true rfl) rfl ?_
    refine z_iconst (v := 0) B dX8_addRecord_43 rfl ?_
    refine z_istore (lv' := [(5, .int 0), (4, .ref (x + (3 + 7 + 4 * m_1))), (0, .ref (x + 74)), (1, .ref (x + (q))), (2, .int a), (3, .int b)]) B dX8_addRecord_44 (Nat.le_of_ble_eq_true rfl) rfl ?_
    refine z_lv [0, 1, 2, 3, 4, 5] rfl ?_
    refine z_loop (α := Nat) (fun (a9 : Nat) Φi => In G x (ca) Φi ∧ Fr x (fun j9 => 74 ≤ j9 ∧ j9 < 78) Φ3 Φi ∧ (a9 ≤ 9) ∧ True) (fun a9 => [(5, .int (nI a9)), (4, .ref (x + (3 + 7 + 4 * m_1))), (0, .ref (x + 74)), (1, .ref (x + (q))), (2, .int a), (3, .int b)]) (fun a9 => 9 - a9) ?_ (0) ⟨hI3, fun _ _ => rfl, (show 0 ≤ 9 by omega), trivial⟩
    rintro i_1 Φl1 ⟨hI4, hF2, b_2, -⟩ ih1
    replace hI4 : In G x (ca) Φl1 := hI4
    replace b_2 : i_1 ≤ 9 := b_2
    show Z p9 l e9 _ s9 m9 _ w9 t9 k9 _ G 9 46 [(5, .int (nI i_1)), (4, .ref (x + (3 + 7 + 4 * m_1))), (0, .ref (x + 74)), (1, .ref (x + (q))), (2, .int a), (3, .int b)] [] Φl1 _ _ _
    refine z_iload B dX8_addRecord_46 0 rfl ?_
    refine z_aload B dX8_addRecord_48 1 rfl ?_
    obtain ⟨n_2, v_6, v_7, h_10, b_3⟩ := in8 (k := 3 + 7 + 4 * m_1) hI4 (kd_e (kd_s rfl).2.2.2 hm_1)
    have h_11 : Φl1 (x + (3 + 7 + 4 * m_1)) = some (o_ 12 [.ref (x + (3 + 7 + 4 * m_1 + 1)), .int (nI n_2), .int v_6, .int v_7]) := h_10
    refine z_get (ref := "FlowExporter$Template") (C := RX10) (T := TX10) (N := 4) (ci := 12) (v := .int (nI n_2)) B hu_X8_addRecord_X10 rfl 1 (Nat.le_of_ble_eq_true rfl) hv_X8_addRecord_85 rfl h_11 rfl dX8_addRecord_50 ?_
    refine z_icmp_ge (tgt := 109) B dX8_addRecord_53 rfl (fun c_2 => ?_) (fun c_2 => ?_)
    · have e_2 : n_2 ≤ i_1 := (nI_leI (a := n_2) (b := i_1) (by omega) (by omega)).mp c_2
      exact z_ret_v B dX8_addRecord_109 ⟨rfl, rfl, hI4, (fun b9 h9 => ((hF2 b9 h9).trans ((hF1 b9 (fun j9 h8 h7 => (show False from h7).elim)).trans ((fset_fr hΦ2 (fun h8 => h9 (74) h8 (show 74 ≤ 74 ∧ 74 < 78 by decide))).trans ((fset_fr hΦ1 (fun h8 => h9 (77) h8 (show 74 ≤ 77 ∧ 77 < 78 by decide))).trans rfl)))))⟩
    · have e_3 : ¬ (n_2 ≤ i_1) := fun h9 => c_2 ((nI_leI (a := n_2) (b := i_1) (by omega) (by omega)).mpr h9)
      refine z_aload B dX8_addRecord_56 1 rfl ?_
      refine z_iload B dX8_addRecord_58 0 rfl ?_
      refine z_callV (As := [.int (nI i_1)]) (rest := []) B (s_X10_field G l Φl1 sz x (ca) (3 + 7 + 4 * m_1) (nI i_1) hx hI4 (kd_e (kd_s rfl).2.2.2 hm_1)) (cwV 1 B.1.2.2.2.2 gX8_addRecord_X10_field rfl rfl rfl (by decide +kernel) ⟨Nat.le_of_ble_eq_true rfl, Nat.le_of_ble_eq_true rfl⟩) h_11 rfl rfl rfl rfl (Nat.le_of_ble_eq_true rfl) dX8_addRecord_60 ⟨Nat.le_of_ble_eq_true rfl, Nat.le_of_ble_eq_true rfl⟩ (fun r_2 Φ4 sz2 st2 hp2 hs2 => ?_)
      obtain ⟨⟨v_8, rfl⟩, hq2, hI5, hF3⟩ := hp2
      subst sz2
      replace hs2 : st2 = [.int v_8] := hs2
      subst st2
      replace hI5 : In G x (ca) Φ4 := hI5
      refine z_istore (lv' := [(6, .int v_8), (5, .int (nI i_1)), (4, .ref (x + (3 + 7 + 4 * m_1))), (0, .ref (x + 74)), (1, .ref (x + (q))), (2, .int a), (3, .int b)]) B dX8_addRecord_63 (Nat.le_of_ble_eq_true rfl) rfl ?_
      refine z_iload B dX8_addRecord_65 0 rfl ?_
      refine z_bipush (v := 8) B dX8_addRecord_67 rfl ?_
      refine z_icmp_ne (tgt := 77) B dX8_addRecord_69 rfl (fun c_3 => ?_) (fun c_3 => ?_)
      · refine z_aload_n B dX8_addRecord_77 rfl 4 rfl ?_
        refine z_iload B dX8_addRecord_78 0 rfl ?_
        obtain ⟨v_9, v_10, v_11, v_12, v_13, h_12⟩ := in19 (k := q) hI5 hk_q
        have h_13 : Φ4 (x + (q)) = some (o_ 5 [.long v_9, .long v_10, .long v_11, .int v_12, .int v_13]) := h_12
        refine z_callV (As := [.int v_8]) (rest := []) B (s_X3_value G l Φ4 sz x (ca) q v_8 hx hI5 hk_q) (cwV 1 B.1.2.2.2.2 gX8_addRecord_X3_value rfl rfl rfl (by decide +kernel) ⟨Nat.le_of_ble_eq_true rfl, Nat.le_of_ble_eq_true rfl⟩) h_13 rfl rfl rfl rfl (Nat.le_of_ble_eq_true rfl) dX8_addRecord_80 ⟨Nat.le_of_ble_eq_true rfl, Nat.le_of_ble_eq_true rfl⟩ (fun r_3 Φ5 sz3 st3 hp3 hs3 => ?_)
        obtain ⟨⟨v_14, rfl⟩, hq3, hI6, hF4⟩ := hp3
        subst sz3
        replace hs3 : st3 = [.long v_14] := hs3
        subst st3
        replace hI6 : In G x (ca) Φ5 := hI6
        refine z_lstore (lv' := [(7, .long v_14), (6, .int v_8), (5, .int (nI i_1)), (4, .ref (x + (3 + 7 + 4 * m_1))), (0, .ref (x + 74)), (1, .ref (x + (q))), (2, .int a), (3, .int b)]) B dX8_addRecord_83 (Nat.le_of_ble_eq_true rfl) rfl ?_
        refine z_aload_n B dX8_addRecord_85 rfl 4 rfl ?_
        obtain ⟨n_3, v_15, v_16, v_17, h_14, b_4⟩ := in13 (k := 74) hI6 rfl
        have h_15 : Φ5 (x + 74) = some (o_ 10 [.ref (x + 3), .ref (x + 46), .ref (x + 75), .ref (x + 77), .int (nI n_3), .ref (x + 78), .ref (x + 79), .int v_15, .long v_16, .int v_17]) := h_14
        refine z_get (ref := "FlowExporter$Sender") (C := RX8) (T := TX8) (N := 10) (ci := 10) (v := .ref (x + 75)) B hu_X8_addRecord_X8 rfl 2 (Nat.le_of_ble_eq_true rfl) hv_X8_addRecord_14 rfl h_15 rfl dX8_addRecord_86 ?_
        refine z_lload B dX8_addRecord_89 0 rfl ?_
        refine z_ldc2 (v := 4294967295) B (by decide +kernel) dX8_addRecord_91 ?_
        refine z_land B dX8_addRecord_94 ?_
        refine z_fl (fun v_18 => ?_)
        refine z_iload B dX8_addRecord_95 1 rfl ?_
        refine z_callSN (As := [.int v_8]) (rest := [.long v_18, .ref (x + 75)]) B (s_X11_lengthOf G l Φ5 sz x (ca) v_8 hx hI6 ) ⟨va_cnB 1 B.1.2.2.2.2 gX8_addRecord_X11_lengthOf_n103 rfl rfl rfl (B.2.2.2.2.1.2.2.1 (RX8, 103, yX11_lengthOf) (by decide +kernel)) (B.1.2.2.2.2 _ (by decide +kernel)) (by decide +kernel) ⟨Nat.le_of_ble_eq_true rfl, Nat.le_of_ble_eq_true rfl⟩, B.1.2.2.2.2 _ (by decide +kernel), trivial⟩ rfl rfl (Nat.le_of_ble_eq_true rfl) dX8_addRecord_97 ⟨Nat.le_of_ble_eq_true rfl, Nat.le_of_ble_eq_true rfl⟩ (fun r_4 Φ6 sz4 st4 hp4 hs4 => ?_)
        obtain ⟨⟨n_4, rfl, b_5⟩, hq4, hI7, hF5⟩ := hp4
        subst sz4
        replace hs4 : st4 = [.int (nI n_4), .long v_18, .ref (x + 75)] := hs4
        subst st4
        replace hI7 : In G x (ca) Φ6 := hI7
        replace b_5 : n_4 ≤ 8 := b_5
        obtain ⟨n_5, h_16, b_6⟩ := in1 (k := 75) hI7 rfl
        replace b_6 : n_5 ≤ 348 := b_6
        have h_17 : Φ6 (x + 75) = some (o_ 7 [.ref (x + 76), .int (nI n_5)]) := h_16
        refine z_callV (As := [.long v_18, .int (nI n_4)]) (rest := []) B (s_X5_put G l Φ6 sz x (ca) 75 v_18 n_4 hx hI7 rfl (show n_4 ≤ 8 by omega)) (cwV 2 B.1.2.2.2.2 gX8_addRecord_X5_put rfl rfl rfl (by decide +kernel) ⟨Nat.le_of_ble_eq_true rfl, Nat.le_of_ble_eq_true rfl⟩) h_17 rfl rfl rfl rfl (Nat.le_of_ble_eq_true rfl) dX8_addRecord_100 ⟨Nat.le_of_ble_eq_true rfl, Nat.le_of_ble_eq_true rfl⟩ (fun r_5 Φ7 sz5 st5 hp5 hs5 => ?_)
        obtain ⟨rfl, hq5, hI8, hF6⟩ := hp5
        subst sz5
        replace hs5 : st5 = [] := hs5
        subst st5
        replace hI8 : In G x (ca) Φ7 := hI8
        refine z_iinc (k := 2) (v := nI (i_1 + 1)) (lv' := [(5, .int (nI (i_1 + 1))), (7, .long v_14), (6, .int v_8), (4, .ref (x + (3 + 7 + 4 * m_1))), (0, .ref (x + 74)), (1, .ref (x + (q))), (2, .int a), (3, .int b)]) B dX8_addRecord_103 rfl (nI_add i_1 1) (Nat.le_of_ble_eq_true rfl) rfl ?_
        refine z_goto (tgt := 46) B dX8_addRecord_106 rfl ?_
        refine z_lv [0, 3, 4, 5, 6, 7] rfl ?_
        exact ih1 (i_1 + 1) Φ7 (show 9 - (i_1 + 1) < 9 - i_1 by omega) ⟨hI8, (fun b9 h9 => ((hF6 b9 (fun j9 h8 h7 => h9 j9 h8 (fq_148 j9 h7))).trans ((hF5 b9 (fun j9 h8 h7 => (show False from h7).elim)).trans ((hF4 b9 (fun j9 h8 h7 => (show False from h7).elim)).trans ((hF3 b9 (fun j9 h8 h7 => (show False from h7).elim)).trans ((hF2 b9 h9).trans rfl)))))), (show (i_1 + 1) ≤ 9 by omega), trivial⟩
      · refine z_iload_n B dX8_addRecord_72 rfl 6 rfl ?_
        refine z_i2l (v := b.toInt64) B dX8_addRecord_73 rfl ?_
        refine z_fl (fun v_19 => ?_)
        refine z_goto (tgt := 83) B dX8_addRecord_74 rfl ?_
        refine z_lstore (lv' := [(7, .long v_19), (6, .int v_8), (5, .int (nI i_1)), (4, .ref (x + (3 + 7 + 4 * m_1))), (0, .ref (x + 74)), (1, .ref (x + (q))), (2, .int a), (3, .int b)]) B dX8_addRecord_83 (Nat.le_of_ble_eq_true rfl) rfl ?_
        refine z_aload_n B dX8_addRecord_85 rfl 4 rfl ?_
        obtain ⟨n_6, v_20, v_21, v_22, h_18, b_7⟩ := in13 (k := 74) hI5 rfl
        have h_19 : Φ4 (x + 74) = some (o_ 10 [.ref (x + 3), .ref (x + 46), .ref (x + 75), .ref (x + 77), .int (nI n_6), .ref (x + 78), .ref (x + 79), .int v_20, .long v_21, .int v_22]) := h_18
        refine z_get (ref := "FlowExporter$Sender") (C := RX8) (T := TX8) (N := 10) (ci := 10) (v := .ref (x + 75)) B hu_X8_addRecord_X8 rfl 2 (Nat.le_of_ble_eq_true rfl) hv_X8_addRecord_14 rfl h_19 rfl dX8_addRecord_86 ?_
        refine z_lload B dX8_addRecord_89 0 rfl ?_
        refine z_ldc2 (v := 4294967295) B (by decide +kernel) dX8_addRecord_91 ?_
        refine z_land B dX8_addRecord_94 ?_
        refine z_fl (fun v_23 => ?_)
        refine z_iload B dX8_addRecord_95 1 rfl ?_
        refine z_callSN (As := [.int v_8]) (rest := [.long v_23, .ref (x + 75)]) B (s_X11_lengthOf G l Φ4 sz x (ca) v_8 hx hI5 ) ⟨va_cnB 1 B.1.2.2.2.2 gX8_addRecord_X11_lengthOf_n103 rfl rfl rfl (B.2.2.2.2.1.2.2.1 (RX8, 103, yX11_lengthOf) (by decide +kernel)) (B.1.2.2.2.2 _ (by decide +kernel)) (by decide +kernel) ⟨Nat.le_of_ble_eq_true rfl, Nat.le_of_ble_eq_true rfl⟩, B.1.2.2.2.2 _ (by decide +kernel), trivial⟩ rfl rfl (Nat.le_of_ble_eq_true rfl) dX8_addRecord_97 ⟨Nat.le_of_ble_eq_true rfl, Nat.le_of_ble_eq_true rfl⟩ (fun r_6 Φ8 sz6 st6 hp6 hs6 => ?_)
        obtain ⟨⟨n_7, rfl, b_8⟩, hq6, hI9, hF7⟩ := hp6
        subst sz6
        replace hs6 : st6 = [.int (nI n_7), .long v_23, .ref (x + 75)] := hs6
        subst st6
        replace hI9 : In G x (ca) Φ8 := hI9
        replace b_8 : n_7 ≤ 8 := b_8
        obtain ⟨n_8, h_20, b_9⟩ := in1 (k := 75) hI9 rfl
        replace b_9 : n_8 ≤ 348 := b_9
        have h_21 : Φ8 (x + 75) = some (o_ 7 [.ref (x + 76), .int (nI n_8)]) := h_20
        refine z_callV (As := [.long v_23, .int (nI n_7)]) (rest := []) B (s_X5_put G l Φ8 sz x (ca) 75 v_23 n_7 hx hI9 rfl (show n_7 ≤ 8 by omega)) (cwV 2 B.1.2.2.2.2 gX8_addRecord_X5_put rfl rfl rfl (by decide +kernel) ⟨Nat.le_of_ble_eq_true rfl, Nat.le_of_ble_eq_true rfl⟩) h_21 rfl rfl rfl rfl (Nat.le_of_ble_eq_true rfl) dX8_addRecord_100 ⟨Nat.le_of_ble_eq_true rfl, Nat.le_of_ble_eq_true rfl⟩ (fun r_7 Φ9 sz7 st7 hp7 hs7 => ?_)
        obtain ⟨rfl, hq7, hI10, hF8⟩ := hp7
        subst sz7
        replace hs7 : st7 = [] := hs7
        subst st7
        replace hI10 : In G x (ca) Φ9 := hI10
        refine z_iinc (k := 2) (v := nI (i_1 + 1)) (lv' := [(5, .int (nI (i_1 + 1))), (7, .long v_19), (6, .int v_8), (4, .ref (x + (3 + 7 + 4 * m_1))), (0, .ref (x + 74)), (1, .ref (x + (q))), (2, .int a), (3, .int b)]) B dX8_addRecord_103 rfl (nI_add i_1 1) (Nat.le_of_ble_eq_true rfl) rfl ?_
        refine z_goto (tgt := 46) B dX8_addRecord_106 rfl ?_
        refine z_lv [0, 3, 4, 5, 6, 7] rfl ?_
        exact ih1 (i_1 + 1) Φ9 (show 9 - (i_1 + 1) < 9 - i_1 by omega) ⟨hI10, (fun b9 h9 => ((hF8 b9 (fun j9 h8 h7 => h9 j9 h8 (fq_148 j9 h7))).trans ((hF7 b9 (fun j9 h8 h7 => (show False from h7).elim)).trans ((hF3 b9 (fun j9 h8 h7 => (show False from h7).elim)).trans ((hF2 b9 h9).trans rfl))))), (show (i_1 + 1) ≤ 9 by omega), trivial⟩
  · have e_4 : ¬ (n_1 < 12) := fun h9 => c_1 ((nI_ltI (a := n_1) (b := 12) (by omega) (by omega)).mpr h9)
    exact z_ret_v B dX8_addRecord_12 ⟨rfl, rfl, hI, (fun b9 h9 => rfl)⟩

theorem hu_X8_putTemplate_X8 : ∀ w ∈ u_ws RX8 TX8 10, w ∈ wsX8_putTemplate := fun _ h => List.mem_cons_of_mem _ (List.mem_append_left _ (List.mem_append_left _ (List.mem_append_left _ (List.mem_append_left _ (List.mem_append_right _ (h))))))

theorem hv_X8_putTemplate_44 : Cond.fieldLink RX8 44 "FlowExporter$Sender" (TX8 0).2.1 (TX8 0).2.2.1 ∈ wsX8_putTemplate := List.mem_cons_of_mem _ (List.mem_append_left _ (List.mem_append_left _ (List.mem_append_left _ (List.mem_append_left _ (List.mem_append_left _ (List.mem_append_left _ (List.mem_of_getElem? (i := 0) rfl)))))))

theorem hu_X8_putTemplate_X10 : ∀ w ∈ u_ws RX10 TX10 4, w ∈ wsX8_putTemplate := fun _ h => List.mem_cons_of_mem _ (List.mem_append_left _ (List.mem_append_left _ (List.mem_append_left _ (List.mem_append_right _ (h)))))

theorem hv_X8_putTemplate_85 : Cond.fieldLink RX8 85 "FlowExporter$Template" (TX10 1).2.1 (TX10 1).2.2.1 ∈ wsX8_putTemplate := List.mem_cons_of_mem _ (List.mem_append_left _ (List.mem_append_left _ (List.mem_append_left _ (List.mem_append_left _ (List.mem_append_left _ (List.mem_append_left _ (List.mem_of_getElem? (i := 1) rfl)))))))

set_option maxHeartbeats 4000000 in
set_option maxRecDepth 100000 in
theorem s_X8_putTemplate (G : EnvG) (l : Launch) (Φ : Hm) (sz x ca : Nat) (k : Nat) (a : Int32) (hx : G.2.2.2 ≤ x) (hI : In G x ca Φ) (hk_k : kd k = 1) (hq1 : 48 ≤ k) (hq2 : k < 73) : Ct G l yX8_putTemplate wsX8_putTemplate ({ frames := 1, cells := 0, slots := 0, locals := 24 }) 0 0 [.ref (x + 74), .ref (x + (k)), .int a] Φ sz (fun v Φ1 sz1 => (v = none) ∧ sz1 = sz ∧ In G x (ca) Φ1 ∧ Fr x (fun j9 => 48 ≤ j9 ∧ j9 < 74) Φ Φ1) := by
  refine Ct.of (cc := cX8_putTemplate) (maxL := 6) (ret := none) (by decide) rfl (Nat.le_of_ble_eq_true rfl) ?_
  intro p9 e9 s9 m9 w9 t9 k9 B
  show Z p9 l e9 _ s9 m9 _ w9 t9 k9 _ G 6 0 [(0, .ref (x + 74)), (1, .ref (x + (k))), (2, .int a)] [] Φ sz 0 0
  refine z_aload_n B dX8_putTemplate_0 rfl 0 rfl ?_
  obtain ⟨n_1, v_1, v_2, v_3, h_1, b_1⟩ := in13 (k := 74) hI rfl
  have h_2 : Φ (x + 74) = some (o_ 10 [.ref (x + 3), .ref (x + 46), .ref (x + 75), .ref (x + 77), .int (nI n_1), .ref (x + 78), .ref (x + 79), .int v_1, .long v_2, .int v_3]) := h_1
  refine z_get (ref := "FlowExporter$Sender") (C := RX8) (T := TX8) (N := 10) (ci := 10) (v := .ref (x + 3)) B hu_X8_putTemplate_X8 rfl 0 (Nat.le_of_ble_eq_true rfl) hv_X8_putTemplate_44 rfl h_2 rfl dX8_putTemplate_1 ?_
  refine z_iload_n B dX8_putTemplate_4 rfl 2 rfl ?_
  obtain ⟨v_4, v_5, h_3⟩ := in3 (k := 3) hI rfl
  have h_4 : Φ (x + 3) = some (o_ 3 [.ref (x + 4), .ref (x + 5), .ref (x + 6), .ref (x + 7), .int v_4, .int v_5]) := h_3
  refine z_callV (As := [.int a]) (rest := []) B (s_X1_effective G l Φ sz x (ca) 3 a hx hI rfl) (cwV 1 B.1.2.2.2.2 gX8_putTemplate_X1_effective rfl rfl rfl (by decide +kernel) ⟨Nat.le_of_ble_eq_true rfl, Nat.le_of_ble_eq_true rfl⟩) h_4 rfl rfl rfl rfl (Nat.le_of_ble_eq_true rfl) dX8_putTemplate_5 ⟨Nat.le_of_ble_eq_true rfl, Nat.le_of_ble_eq_true rfl⟩ (fun r_1 Φ1 sz1 st1 hp1 hs1 => ?_)
  obtain ⟨⟨m_1, hm_1, rfl⟩, hq1, hI1, hF1⟩ := hp1
  subst sz1
  replace hs1 : st1 = [.ref (x + (3 + 7 + 4 * m_1))] := hs1
  subst st1
  replace hI1 : In G x (ca) Φ1 := hI1
  replace hm_1 : m_1 < 4 := hm_1
  refine z_astore_n (lv' := [(3, .ref (x + (3 + 7 + 4 * m_1))), (0, .ref (x + 74)), (1, .ref (x + (k))), (2, .int a)]) B dX8_putTemplate_8 rfl (Nat.le_of_ble_eq_true rfl) rfl ?_
  refine z_aload_n B dX8_putTemplate_9 rfl 2 rfl ?_
  refine z_sipush (v := 256) B dX8_putTemplate_10 rfl ?_
  refine z_iload_n B dX8_putTemplate_13 rfl 3 rfl ?_
  refine z_iadd B dX8_putTemplate_14 ?_
  refine z_fi (fun v_6 => ?_)
  refine z_i2l (v := v_6.toInt64) B dX8_putTemplate_15 rfl ?_
  refine z_fl (fun v_7 => ?_)
  refine z_iconst (v := 2) B dX8_putTemplate_16 rfl ?_
  obtain ⟨n_2, h_5, b_2⟩ := in1 (k := k) hI1 hk_k
  replace b_2 : n_2 ≤ cap (k) := b_2
  have b_3 := cap_le (k)
  have h_6 : Φ1 (x + (k)) = some (o_ 7 [.ref (x + (k + 1)), .int (nI n_2)]) := h_5
  refine z_callV (As := [.long v_7, .int 2]) (rest := []) B (s_X5_put G l Φ1 sz x (ca) k v_7 2 hx hI1 hk_k (show 2 ≤ 8 by omega)) (cwV 2 B.1.2.2.2.2 gX8_putTemplate_X5_put rfl rfl rfl (by decide +kernel) ⟨Nat.le_of_ble_eq_true rfl, Nat.le_of_ble_eq_true rfl⟩) h_6 rfl rfl rfl rfl (Nat.le_of_ble_eq_true rfl) dX8_putTemplate_17 ⟨Nat.le_of_ble_eq_true rfl, Nat.le_of_ble_eq_true rfl⟩ (fun r_2 Φ2 sz2 st2 hp2 hs2 => ?_)
  obtain ⟨rfl, hq2, hI2, hF2⟩ := hp2
  subst sz2
  replace hs2 : st2 = [] := hs2
  subst st2
  replace hI2 : In G x (ca) Φ2 := hI2
  refine z_aload_n B dX8_putTemplate_20 rfl 2 rfl ?_
  refine z_aload_n B dX8_putTemplate_21 rfl 0 rfl ?_
  obtain ⟨n_3, v_8, v_9, h_7, b_4⟩ := in8 (k := 3 + 7 + 4 * m_1) hI2 (kd_e (kd_s rfl).2.2.2 hm_1)
  have h_8 : Φ2 (x + (3 + 7 + 4 * m_1)) = some (o_ 12 [.ref (x + (3 + 7 + 4 * m_1 + 1)), .int (nI n_3), .int v_8, .int v_9]) := h_7
  refine z_get (ref := "FlowExporter$Template") (C := RX10) (T := TX10) (N := 4) (ci := 12) (v := .int (nI n_3)) B hu_X8_putTemplate_X10 rfl 1 (Nat.le_of_ble_eq_true rfl) hv_X8_putTemplate_85 rfl h_8 rfl dX8_putTemplate_22 ?_
  refine z_i2l (v := (nI n_3).toInt64) B dX8_putTemplate_25 rfl ?_
  refine z_fl (fun v_10 => ?_)
  refine z_iconst (v := 2) B dX8_putTemplate_26 rfl ?_
  obtain ⟨n_4, h_9, b_5⟩ := in1 (k := k) hI2 hk_k
  replace b_5 : n_4 ≤ cap (k) := b_5
  have b_6 := cap_le (k)
  have h_10 : Φ2 (x + (k)) = some (o_ 7 [.ref (x + (k + 1)), .int (nI n_4)]) := h_9
  refine z_callV (As := [.long v_10, .int 2]) (rest := []) B (s_X5_put G l Φ2 sz x (ca) k v_10 2 hx hI2 hk_k (show 2 ≤ 8 by omega)) (cwV 2 B.1.2.2.2.2 gX8_putTemplate_X5_put rfl rfl rfl (by decide +kernel) ⟨Nat.le_of_ble_eq_true rfl, Nat.le_of_ble_eq_true rfl⟩) h_10 rfl rfl rfl rfl (Nat.le_of_ble_eq_true rfl) dX8_putTemplate_27 ⟨Nat.le_of_ble_eq_true rfl, Nat.le_of_ble_eq_true rfl⟩ (fun r_3 Φ3 sz3 st3 hp3 hs3 => ?_)
  obtain ⟨rfl, hq3, hI3, hF3⟩ := hp3
  subst sz3
  replace hs3 : st3 = [] := hs3
  subst st3
  replace hI3 : In G x (ca) Φ3 := hI3
  refine z_iconst (v := 0) B dX8_putTemplate_30 rfl ?_
  refine z_istore (lv' := [(4, .int 0), (3, .ref (x + (3 + 7 + 4 * m_1))), (0, .ref (x + 74)), (1, .ref (x + (k))), (2, .int a)]) B dX8_putTemplate_31 (Nat.le_of_ble_eq_true rfl) rfl ?_
  refine z_lv [0, 1, 2, 3, 4] rfl ?_
  refine z_loop (α := Nat) (fun (a9 : Nat) Φi => In G x (ca) Φi ∧ Fr x (fun j9 => 48 ≤ j9 ∧ j9 < 74) Φ3 Φi ∧ (a9 ≤ 9) ∧ True) (fun a9 => [(4, .int (nI a9)), (3, .ref (x + (3 + 7 + 4 * m_1))), (0, .ref (x + 74)), (1, .ref (x + (k))), (2, .int a)]) (fun a9 => 9 - a9) ?_ (0) ⟨hI3, fun _ _ => rfl, (show 0 ≤ 9 by omega), trivial⟩
  rintro i_1 Φl1 ⟨hI4, hF4, b_7, -⟩ ih1
  replace hI4 : In G x (ca) Φl1 := hI4
  replace b_7 : i_1 ≤ 9 := b_7
  show Z p9 l e9 _ s9 m9 _ w9 t9 k9 _ G 6 33 [(4, .int (nI i_1)), (3, .ref (x + (3 + 7 + 4 * m_1))), (0, .ref (x + 74)), (1, .ref (x + (k))), (2, .int a)] [] Φl1 _ _ _
  refine z_iload B dX8_putTemplate_33 0 rfl ?_
  refine z_aload_n B dX8_putTemplate_35 rfl 1 rfl ?_
  have h_11 : Φl1 (x + (3 + 7 + 4 * m_1)) = some (o_ 12 [.ref (x + (3 + 7 + 4 * m_1 + 1)), .int (nI n_3), .int v_8, .int v_9]) := ((hF4 (x + (3 + 7 + 4 * m_1)) (fun j9 h8 h7 => by have h6 : 48 ≤ j9 ∧ j9 < 74 := h7; omega)).trans ((hF3 (x + (3 + 7 + 4 * m_1)) (fun j9 h8 h7 => by have h6 : j9 = k ∨ j9 = k + 1 := h7; omega)).trans h_8))
  refine z_get (ref := "FlowExporter$Template") (C := RX10) (T := TX10) (N := 4) (ci := 12) (v := .int (nI n_3)) B hu_X8_putTemplate_X10 rfl 1 (Nat.le_of_ble_eq_true rfl) hv_X8_putTemplate_85 rfl h_11 rfl dX8_putTemplate_36 ?_
  refine z_icmp_ge (tgt := 75) B dX8_putTemplate_39 rfl (fun c_1 => ?_) (fun c_1 => ?_)
  · have e_1 : n_3 ≤ i_1 := (nI_leI (a := n_3) (b := i_1) (by omega) (by omega)).mp c_1
    exact z_ret_v B dX8_putTemplate_75 ⟨rfl, rfl, hI4, (fun b9 h9 => ((hF4 b9 h9).trans ((hF3 b9 (fun j9 h8 h7 => h9 j9 h8 (show 48 ≤ j9 ∧ j9 < 74 by have h6 : j9 = k ∨ j9 = k + 1 := h7; omega))).trans ((hF2 b9 (fun j9 h8 h7 => h9 j9 h8 (show 48 ≤ j9 ∧ j9 < 74 by have h6 : j9 = k ∨ j9 = k + 1 := h7; omega))).trans ((hF1 b9 (fun j9 h8 h7 => (show False from h7).elim)).trans rfl)))))⟩
  · have e_2 : ¬ (n_3 ≤ i_1) := fun h9 => c_1 ((nI_leI (a := n_3) (b := i_1) (by omega) (by omega)).mpr h9)
    refine z_aload_n B dX8_putTemplate_42 rfl 1 rfl ?_
    refine z_iload B dX8_putTemplate_43 0 rfl ?_
    refine z_callV (As := [.int (nI i_1)]) (rest := []) B (s_X10_field G l Φl1 sz x (ca) (3 + 7 + 4 * m_1) (nI i_1) hx hI4 (kd_e (kd_s rfl).2.2.2 hm_1)) (cwV 1 B.1.2.2.2.2 gX8_putTemplate_X10_field rfl rfl rfl (by decide +kernel) ⟨Nat.le_of_ble_eq_true rfl, Nat.le_of_ble_eq_true rfl⟩) h_11 rfl rfl rfl rfl (Nat.le_of_ble_eq_true rfl) dX8_putTemplate_45 ⟨Nat.le_of_ble_eq_true rfl, Nat.le_of_ble_eq_true rfl⟩ (fun r_4 Φ4 sz4 st4 hp4 hs4 => ?_)
    obtain ⟨⟨v_11, rfl⟩, hq4, hI5, hF5⟩ := hp4
    subst sz4
    replace hs4 : st4 = [.int v_11] := hs4
    subst st4
    replace hI5 : In G x (ca) Φ4 := hI5
    refine z_istore (lv' := [(5, .int v_11), (4, .int (nI i_1)), (3, .ref (x + (3 + 7 + 4 * m_1))), (0, .ref (x + 74)), (1, .ref (x + (k))), (2, .int a)]) B dX8_putTemplate_48 (Nat.le_of_ble_eq_true rfl) rfl ?_
    refine z_aload_n B dX8_putTemplate_50 rfl 4 rfl ?_
    refine z_iload B dX8_putTemplate_51 0 rfl ?_
    refine z_i2l (v := v_11.toInt64) B dX8_putTemplate_53 rfl ?_
    refine z_fl (fun v_12 => ?_)
    refine z_iconst (v := 2) B dX8_putTemplate_54 rfl ?_
    obtain ⟨n_5, h_12, b_8⟩ := in1 (k := k) hI5 hk_k
    replace b_8 : n_5 ≤ cap (k) := b_8
    have b_9 := cap_le (k)
    have h_13 : Φ4 (x + (k)) = some (o_ 7 [.ref (x + (k + 1)), .int (nI n_5)]) := h_12
    refine z_callV (As := [.long v_12, .int 2]) (rest := []) B (s_X5_put G l Φ4 sz x (ca) k v_12 2 hx hI5 hk_k (show 2 ≤ 8 by omega)) (cwV 2 B.1.2.2.2.2 gX8_putTemplate_X5_put rfl rfl rfl (by decide +kernel) ⟨Nat.le_of_ble_eq_true rfl, Nat.le_of_ble_eq_true rfl⟩) h_13 rfl rfl rfl rfl (Nat.le_of_ble_eq_true rfl) dX8_putTemplate_55 ⟨Nat.le_of_ble_eq_true rfl, Nat.le_of_ble_eq_true rfl⟩ (fun r_5 Φ5 sz5 st5 hp5 hs5 => ?_)
    obtain ⟨rfl, hq5, hI6, hF6⟩ := hp5
    subst sz5
    replace hs5 : st5 = [] := hs5
    subst st5
    replace hI6 : In G x (ca) Φ5 := hI6
    refine z_aload_n B dX8_putTemplate_58 rfl 4 rfl ?_
    refine z_iload B dX8_putTemplate_59 0 rfl ?_
    refine z_callSN (As := [.int v_11]) (rest := [.ref (x + (k))]) B (s_X11_lengthOf G l Φ5 sz x (ca) v_11 hx hI6 ) ⟨va_cnB 1 B.1.2.2.2.2 gX8_putTemplate_X11_lengthOf_n103 rfl rfl rfl (B.2.2.2.2.1.2.2.1 (RX8, 103, yX11_lengthOf) (by decide +kernel)) (B.1.2.2.2.2 _ (by decide +kernel)) (by decide +kernel) ⟨Nat.le_of_ble_eq_true rfl, Nat.le_of_ble_eq_true rfl⟩, B.1.2.2.2.2 _ (by decide +kernel), trivial⟩ rfl rfl (Nat.le_of_ble_eq_true rfl) dX8_putTemplate_61 ⟨Nat.le_of_ble_eq_true rfl, Nat.le_of_ble_eq_true rfl⟩ (fun r_6 Φ6 sz6 st6 hp6 hs6 => ?_)
    obtain ⟨⟨n_6, rfl, b_10⟩, hq6, hI7, hF7⟩ := hp6
    subst sz6
    replace hs6 : st6 = [.int (nI n_6), .ref (x + (k))] := hs6
    subst st6
    replace hI7 : In G x (ca) Φ6 := hI7
    replace b_10 : n_6 ≤ 8 := b_10
    refine z_i2l (v := (nI n_6).toInt64) B dX8_putTemplate_64 rfl ?_
    refine z_fl (fun v_13 => ?_)
    refine z_iconst (v := 2) B dX8_putTemplate_65 rfl ?_
    obtain ⟨n_7, h_14, b_11⟩ := in1 (k := k) hI7 hk_k
    replace b_11 : n_7 ≤ cap (k) := b_11
    have b_12 := cap_le (k)
    have h_15 : Φ6 (x + (k)) = some (o_ 7 [.ref (x + (k + 1)), .int (nI n_7)]) := h_14
    refine z_callV (As := [.long v_13, .int 2]) (rest := []) B (s_X5_put G l Φ6 sz x (ca) k v_13 2 hx hI7 hk_k (show 2 ≤ 8 by omega)) (cwV 2 B.1.2.2.2.2 gX8_putTemplate_X5_put rfl rfl rfl (by decide +kernel) ⟨Nat.le_of_ble_eq_true rfl, Nat.le_of_ble_eq_true rfl⟩) h_15 rfl rfl rfl rfl (Nat.le_of_ble_eq_true rfl) dX8_putTemplate_66 ⟨Nat.le_of_ble_eq_true rfl, Nat.le_of_ble_eq_true rfl⟩ (fun r_7 Φ7 sz7 st7 hp7 hs7 => ?_)
    obtain ⟨rfl, hq7, hI8, hF8⟩ := hp7
    subst sz7
    replace hs7 : st7 = [] := hs7
    subst st7
    replace hI8 : In G x (ca) Φ7 := hI8
    refine z_iinc (k := 1) (v := nI (i_1 + 1)) (lv' := [(4, .int (nI (i_1 + 1))), (5, .int v_11), (3, .ref (x + (3 + 7 + 4 * m_1))), (0, .ref (x + 74)), (1, .ref (x + (k))), (2, .int a)]) B dX8_putTemplate_69 rfl (nI_add i_1 1) (Nat.le_of_ble_eq_true rfl) rfl ?_
    refine z_goto (tgt := 33) B dX8_putTemplate_72 rfl ?_
    refine z_lv [0, 2, 3, 4, 5] rfl ?_
    exact ih1 (i_1 + 1) Φ7 (show 9 - (i_1 + 1) < 9 - i_1 by omega) ⟨hI8, (fun b9 h9 => ((hF8 b9 (fun j9 h8 h7 => h9 j9 h8 (show 48 ≤ j9 ∧ j9 < 74 by have h6 : j9 = k ∨ j9 = k + 1 := h7; omega))).trans ((hF7 b9 (fun j9 h8 h7 => (show False from h7).elim)).trans ((hF6 b9 (fun j9 h8 h7 => h9 j9 h8 (show 48 ≤ j9 ∧ j9 < 74 by have h6 : j9 = k ∨ j9 = k + 1 := h7; omega))).trans ((hF5 b9 (fun j9 h8 h7 => (show False from h7).elim)).trans ((hF4 b9 h9).trans rfl)))))), (show (i_1 + 1) ≤ 9 by omega), trivial⟩

theorem hu_X8_putTemplateSet_X5 : ∀ w ∈ u_ws RX5 TX5 2, w ∈ wsX8_putTemplateSet := fun _ h => List.mem_cons_of_mem _ (List.mem_append_left _ (List.mem_append_left _ (List.mem_append_left _ (List.mem_append_left _ (List.mem_append_right _ (h))))))

theorem hv_X8_putTemplateSet_61 : Cond.fieldLink RX8 61 "FlowExporter$Message" (TX5 1).2.1 (TX5 1).2.2.1 ∈ wsX8_putTemplateSet := List.mem_cons_of_mem _ (List.mem_append_left _ (List.mem_append_left _ (List.mem_append_left _ (List.mem_append_left _ (List.mem_append_left _ (List.mem_append_left _ (List.mem_of_getElem? (i := 0) rfl)))))))

theorem fq_155 {x : Nat} : ∀ j9 : Nat, x + 74 = x + j9 → (48 ≤ j9 ∧ j9 < 74) → False := by
  intro j9 h1 h2
  omega

theorem hu_X8_putTemplateSet_X8 : ∀ w ∈ u_ws RX8 TX8 10, w ∈ wsX8_putTemplateSet := fun _ h => List.mem_cons_of_mem _ (List.mem_append_left _ (List.mem_append_left _ (List.mem_append_left _ (List.mem_append_right _ (h)))))

theorem hv_X8_putTemplateSet_28 : Cond.fieldLink RX8 28 "FlowExporter$Sender" (TX8 5).2.1 (TX8 5).2.2.1 ∈ wsX8_putTemplateSet := List.mem_cons_of_mem _ (List.mem_append_left _ (List.mem_append_left _ (List.mem_append_left _ (List.mem_append_left _ (List.mem_append_left _ (List.mem_append_left _ (List.mem_of_getElem? (i := 2) rfl)))))))

theorem hv_X8_putTemplateSet_34 : Cond.fieldLink RX8 34 "FlowExporter$Sender" (TX8 7).2.1 (TX8 7).2.2.1 ∈ wsX8_putTemplateSet := List.mem_cons_of_mem _ (List.mem_append_left _ (List.mem_append_left _ (List.mem_append_left _ (List.mem_append_left _ (List.mem_append_left _ (List.mem_append_left _ (List.mem_of_getElem? (i := 3) rfl)))))))

theorem hv_X8_putTemplateSet_31 : Cond.fieldLink RX8 31 "FlowExporter$Sender" (TX8 6).2.1 (TX8 6).2.2.1 ∈ wsX8_putTemplateSet := List.mem_cons_of_mem _ (List.mem_append_left _ (List.mem_append_left _ (List.mem_append_left _ (List.mem_append_left _ (List.mem_append_left _ (List.mem_append_left _ (List.mem_of_getElem? (i := 4) rfl)))))))

theorem fq_160 : ∀ j9 : Nat, (48 ≤ j9 ∧ j9 < 74) → (48 ≤ j9 ∧ j9 < 80) := by
  intro j9 h
  omega

set_option maxHeartbeats 4000000 in
set_option maxRecDepth 100000 in
theorem s_X8_putTemplateSet (G : EnvG) (l : Launch) (Φ : Hm) (sz x ca : Nat) (k : Nat) (a : Int32) (hx : G.2.2.2 ≤ x) (hI : In G x ca Φ) (hk_k : kd k = 1) (hq1 : 48 ≤ k) (hq2 : k < 73) : Ct G l yX8_putTemplateSet wsX8_putTemplateSet ({ frames := 2, cells := 0, slots := 0, locals := 49 }) 0 0 [.ref (x + 74), .ref (x + (k)), .int a] Φ sz (fun v Φ1 sz1 => (v = none) ∧ sz1 = sz ∧ In G x (ca) Φ1 ∧ Fr x (fun j9 => 48 ≤ j9 ∧ j9 < 80) Φ Φ1) := by
  refine Ct.of (cc := cX8_putTemplateSet) (maxL := 5) (ret := none) (by decide) rfl (Nat.le_of_ble_eq_true rfl) ?_
  intro p9 e9 s9 m9 w9 t9 k9 B
  show Z p9 l e9 _ s9 m9 _ w9 t9 k9 _ G 5 0 [(0, .ref (x + 74)), (1, .ref (x + (k))), (2, .int a)] [] Φ sz 0 0
  refine z_aload_n B dX8_putTemplateSet_0 rfl 1 rfl ?_
  obtain ⟨n_1, h_1, b_1⟩ := in1 (k := k) hI hk_k
  replace b_1 : n_1 ≤ cap (k) := b_1
  have b_2 := cap_le (k)
  have h_2 : Φ (x + (k)) = some (o_ 7 [.ref (x + (k + 1)), .int (nI n_1)]) := h_1
  refine z_get (ref := "FlowExporter$Message") (C := RX5) (T := TX5) (N := 2) (ci := 7) (v := .int (nI n_1)) B hu_X8_putTemplateSet_X5 rfl 1 (Nat.le_of_ble_eq_true rfl) hv_X8_putTemplateSet_61 rfl h_2 rfl dX8_putTemplateSet_1 ?_
  refine z_istore_n (lv' := [(3, .int (nI n_1)), (0, .ref (x + 74)), (1, .ref (x + (k))), (2, .int a)]) B dX8_putTemplateSet_4 rfl (Nat.le_of_ble_eq_true rfl) rfl ?_
  refine z_iconst (v := 0) B dX8_putTemplateSet_5 rfl ?_
  refine z_istore (lv' := [(4, .int 0), (3, .int (nI n_1)), (0, .ref (x + 74)), (1, .ref (x + (k))), (2, .int a)]) B dX8_putTemplateSet_6 (Nat.le_of_ble_eq_true rfl) rfl ?_
  refine z_lv [0, 1, 2, 3, 4] rfl ?_
  refine z_loop (α := Nat) (fun (a9 : Nat) Φi => In G x (ca) Φi ∧ Fr x (fun j9 => 48 ≤ j9 ∧ j9 < 80) Φ Φi ∧ (a9 ≤ 4) ∧ True) (fun a9 => [(4, .int (nI a9)), (3, .int (nI n_1)), (0, .ref (x + 74)), (1, .ref (x + (k))), (2, .int a)]) (fun a9 => 4 - a9) ?_ (0) ⟨hI, fun _ _ => rfl, (show 0 ≤ 4 by omega), trivial⟩
  rintro i_1 Φl1 ⟨hI1, hF1, b_3, -⟩ ih1
  replace hI1 : In G x (ca) Φl1 := hI1
  replace b_3 : i_1 ≤ 4 := b_3
  show Z p9 l e9 _ s9 m9 _ w9 t9 k9 _ G 5 8 [(4, .int (nI i_1)), (3, .int (nI n_1)), (0, .ref (x + 74)), (1, .ref (x + (k))), (2, .int a)] [] Φl1 _ _ _
  refine z_iload B dX8_putTemplateSet_8 0 rfl ?_
  refine z_iconst (v := 4) B dX8_putTemplateSet_10 rfl ?_
  refine z_icmp_ge (tgt := 80) B dX8_putTemplateSet_11 rfl (fun c_1 => ?_) (fun c_1 => ?_)
  · have e_1 : 4 ≤ i_1 := (nI_leI (a := 4) (b := i_1) (by omega) (by omega)).mp c_1
    refine z_aload_n B dX8_putTemplateSet_80 rfl 3 rfl ?_
    obtain ⟨n_2, h_3, b_4⟩ := in1 (k := k) hI1 hk_k
    replace b_4 : n_2 ≤ cap (k) := b_4
    have b_5 := cap_le (k)
    have h_4 : Φl1 (x + (k)) = some (o_ 7 [.ref (x + (k + 1)), .int (nI n_2)]) := h_3
    refine z_get (ref := "FlowExporter$Message") (C := RX5) (T := TX5) (N := 2) (ci := 7) (v := .int (nI n_2)) B hu_X8_putTemplateSet_X5 rfl 1 (Nat.le_of_ble_eq_true rfl) hv_X8_putTemplateSet_61 rfl h_4 rfl dX8_putTemplateSet_81 ?_
    refine z_iload_n B dX8_putTemplateSet_84 rfl 1 rfl ?_
    refine z_icmp_le (tgt := 103) B dX8_putTemplateSet_85 rfl (fun c_2 => ?_) (fun c_2 => ?_)
    · have e_2 : n_2 ≤ n_1 := (nI_leI (a := n_2) (b := n_1) (by omega) (by omega)).mp c_2
      exact z_ret_v B dX8_putTemplateSet_103 ⟨rfl, rfl, hI1, (fun b9 h9 => ((hF1 b9 h9).trans rfl))⟩
    · have e_3 : ¬ (n_2 ≤ n_1) := fun h9 => c_2 ((nI_leI (a := n_2) (b := n_1) (by omega) (by omega)).mpr h9)
      refine z_aload_n B dX8_putTemplateSet_88 rfl 3 rfl ?_
      refine z_iload_n B dX8_putTemplateSet_89 rfl 1 rfl ?_
      refine z_iconst (v := 2) B dX8_putTemplateSet_90 rfl ?_
      refine z_iadd B dX8_putTemplateSet_91 ?_
      refine z_top (st1 := [.int (nI (n_1 + 2)), .ref (x + (k))]) (congrArg (fun w9 : Int32 => ([.int w9, .ref (x + (k))] : List Value)) (nI_add n_1 2)) ?_
      refine z_aload_n B dX8_putTemplateSet_92 rfl 3 rfl ?_
      refine z_get (ref := "FlowExporter$Message") (C := RX5) (T := TX5) (N := 2) (ci := 7) (v := .int (nI n_2)) B hu_X8_putTemplateSet_X5 rfl 1 (Nat.le_of_ble_eq_true rfl) hv_X8_putTemplateSet_61 rfl h_4 rfl dX8_putTemplateSet_93 ?_
      refine z_iload_n B dX8_putTemplateSet_96 rfl 1 rfl ?_
      refine z_isub B dX8_putTemplateSet_97 ?_
      refine z_fi (fun v_1 => ?_)
      refine z_i2l (v := v_1.toInt64) B dX8_putTemplateSet_98 rfl ?_
      refine z_fl (fun v_2 => ?_)
      refine z_iconst (v := 2) B dX8_putTemplateSet_99 rfl ?_
      refine z_callV (As := [.int (nI (n_1 + 2)), .long v_2, .int 2]) (rest := []) B (s_X5_putAt G l Φl1 sz x (ca) k (nI (n_1 + 2)) v_2 2 hx hI1 hk_k (show 2 ≤ 8 by omega)) (cwV 3 B.1.2.2.2.2 gX8_putTemplateSet_X5_putAt rfl rfl rfl (by decide +kernel) ⟨Nat.le_of_ble_eq_true rfl, Nat.le_of_ble_eq_true rfl⟩) h_4 rfl rfl rfl rfl (Nat.le_of_ble_eq_true rfl) dX8_putTemplateSet_100 ⟨Nat.le_of_ble_eq_true rfl, Nat.le_of_ble_eq_true rfl⟩ (fun r_1 Φ1 sz1 st1 hp1 hs1 => ?_)
      obtain ⟨rfl, hq1, hI2, hF2⟩ := hp1
      subst sz1
      replace hs1 : st1 = [] := hs1
      subst st1
      replace hI2 : In G x (ca) Φ1 := hI2
      exact z_ret_v B dX8_putTemplateSet_103 ⟨rfl, rfl, hI2, (fun b9 h9 => ((hF2 b9 (fun j9 h8 h7 => h9 j9 h8 (show 48 ≤ j9 ∧ j9 < 80 by have h6 : j9 = k + 1 := h7; omega))).trans ((hF1 b9 h9).trans rfl)))⟩
  · have e_4 : ¬ (4 ≤ i_1) := fun h9 => c_1 ((nI_leI (a := 4) (b := i_1) (by omega) (by omega)).mpr h9)
    refine z_aload_n B dX8_putTemplateSet_14 rfl 2 rfl ?_
    refine z_iload B dX8_putTemplateSet_15 0 rfl ?_
    refine z_iload_n B dX8_putTemplateSet_17 rfl 4 rfl ?_
    obtain ⟨n_3, v_3, v_4, v_5, h_5, b_6⟩ := in13 (k := 74) hI1 rfl
    have h_6 : Φl1 (x + 74) = some (o_ 10 [.ref (x + 3), .ref (x + 46), .ref (x + 75), .ref (x + 77), .int (nI n_3), .ref (x + 78), .ref (x + 79), .int v_3, .long v_4, .int v_5]) := h_5
    refine z_callV (As := [.int (nI i_1), .int a]) (rest := []) B (s_X8_mustSend G l Φl1 sz x (ca) (nI i_1) a hx hI1 ) (cwV 2 B.1.2.2.2.2 gX8_putTemplateSet_X8_mustSend rfl rfl rfl (by decide +kernel) ⟨Nat.le_of_ble_eq_true rfl, Nat.le_of_ble_eq_true rfl⟩) h_6 rfl rfl rfl rfl (Nat.le_of_ble_eq_true rfl) dX8_putTemplateSet_18 ⟨Nat.le_of_ble_eq_true rfl, Nat.le_of_ble_eq_true rfl⟩ (fun r_2 Φ2 sz2 st2 hp2 hs2 => ?_)
    obtain ⟨⟨v_6, rfl, b_7⟩, hq2, hI3, hF3⟩ := hp2
    subst sz2
    replace hs2 : st2 = [.int v_6] := hs2
    subst st2
    replace hI3 : In G x (ca) Φ2 := hI3
    refine z_if_eq (tgt := 74) B dX8_putTemplateSet_21 rfl (fun c_3 => ?_) (fun c_3 => ?_)
    · refine z_iinc (k := 0) (v := nI (i_1 + 1)) (lv' := [(4, .int (nI (i_1 + 1))), (3, .int (nI n_1)), (0, .ref (x + 74)), (1, .ref (x + (k))), (2, .int a)]) B dX8_putTemplateSet_74 rfl (nI_add i_1 1) (Nat.le_of_ble_eq_true rfl) rfl ?_
      refine z_goto (tgt := 8) B dX8_putTemplateSet_77 rfl ?_
      refine z_lv [0, 1, 2, 3, 4] rfl ?_
      exact ih1 (i_1 + 1) Φ2 (show 4 - (i_1 + 1) < 4 - i_1 by omega) ⟨hI3, (fun b9 h9 => ((hF3 b9 (fun j9 h8 h7 => (show False from h7).elim)).trans ((hF1 b9 h9).trans rfl))), (show (i_1 + 1) ≤ 4 by omega), trivial⟩
    · refine z_aload_n B dX8_putTemplateSet_24 rfl 3 rfl ?_
      obtain ⟨n_4, h_7, b_8⟩ := in1 (k := k) hI3 hk_k
      replace b_8 : n_4 ≤ cap (k) := b_8
      have b_9 := cap_le (k)
      have h_8 : Φ2 (x + (k)) = some (o_ 7 [.ref (x + (k + 1)), .int (nI n_4)]) := h_7
      refine z_get (ref := "FlowExporter$Message") (C := RX5) (T := TX5) (N := 2) (ci := 7) (v := .int (nI n_4)) B hu_X8_putTemplateSet_X5 rfl 1 (Nat.le_of_ble_eq_true rfl) hv_X8_putTemplateSet_61 rfl h_8 rfl dX8_putTemplateSet_25 ?_
      refine z_iload_n B dX8_putTemplateSet_28 rfl 1 rfl ?_
      refine z_icmp_ne (tgt := 46) B dX8_putTemplateSet_29 rfl (fun c_4 => ?_) (fun c_4 => ?_)
      · have e_5 : ¬ (n_4 = n_1) := fun h9 => c_4 ((nI_eq (a := n_4) (b := n_1) (by omega) (by omega)).mpr h9)
        refine z_aload_n B dX8_putTemplateSet_46 rfl 2 rfl ?_
        refine z_aload_n B dX8_putTemplateSet_47 rfl 3 rfl ?_
        refine z_iload B dX8_putTemplateSet_48 0 rfl ?_
        have h_9 : Φ2 (x + 74) = some (o_ 10 [.ref (x + 3), .ref (x + 46), .ref (x + 75), .ref (x + 77), .int (nI n_3), .ref (x + 78), .ref (x + 79), .int v_3, .long v_4, .int v_5]) := ((hF3 (x + 74) (fun j9 h8 h7 => (show False from h7).elim)).trans h_6)
        refine z_callV (As := [.ref (x + (k)), .int (nI i_1)]) (rest := []) B (s_X8_putTemplate G l Φ2 sz x (ca) k (nI i_1) hx hI3 hk_k (show 48 ≤ k by omega) (show k < 73 by omega)) (cwV 2 B.1.2.2.2.2 gX8_putTemplateSet_X8_putTemplate rfl rfl rfl (by decide +kernel) ⟨Nat.le_of_ble_eq_true rfl, Nat.le_of_ble_eq_true rfl⟩) h_9 rfl rfl rfl rfl (Nat.le_of_ble_eq_true rfl) dX8_putTemplateSet_50 ⟨Nat.le_of_ble_eq_true rfl, Nat.le_of_ble_eq_true rfl⟩ (fun r_3 Φ3 sz3 st3 hp3 hs3 => ?_)
        obtain ⟨rfl, hq3, hI4, hF4⟩ := hp3
        subst sz3
        replace hs3 : st3 = [] := hs3
        subst st3
        replace hI4 : In G x (ca) Φ3 := hI4
        refine z_aload_n B dX8_putTemplateSet_53 rfl 2 rfl ?_
        have h_10 : Φ3 (x + 74) = some (o_ 10 [.ref (x + 3), .ref (x + 46), .ref (x + 75), .ref (x + 77), .int (nI n_3), .ref (x + 78), .ref (x + 79), .int v_3, .long v_4, .int v_5]) := ((hF4 (x + 74) fq_155).trans h_9)
        refine z_get (ref := "FlowExporter$Sender") (C := RX8) (T := TX8) (N := 10) (ci := 10) (v := .ref (x + 78)) B hu_X8_putTemplateSet_X8 rfl 5 (Nat.le_of_ble_eq_true rfl) hv_X8_putTemplateSet_28 rfl h_10 rfl dX8_putTemplateSet_54 ?_
        refine z_iload B dX8_putTemplateSet_57 0 rfl ?_
        refine z_aload_n B dX8_putTemplateSet_59 rfl 2 rfl ?_
        refine z_get (ref := "FlowExporter$Sender") (C := RX8) (T := TX8) (N := 10) (ci := 10) (v := .int v_3) B hu_X8_putTemplateSet_X8 rfl 7 (Nat.le_of_ble_eq_true rfl) hv_X8_putTemplateSet_34 rfl h_10 rfl dX8_putTemplateSet_60 ?_
        refine z_iconst (v := 1) B dX8_putTemplateSet_63 rfl ?_
        refine z_iadd B dX8_putTemplateSet_64 ?_
        refine z_fi (fun v_7 => ?_)
        obtain ⟨f_1, h_11⟩ := in15 (k := 78) hI4 rfl
        have h_12 : Φ3 (x + 78) = some (ai_ G 4 f_1) := h_11
        refine z_iast B h_12 (Nat.le_trans hx (Nat.le_add_right x 78)) (vp_in_nI (by omega) (by omega)) dX8_putTemplateSet_65 (fun Φ4 hΦ1 => ?_)
        have h_13 : Φ4 (x + 78) = some (ai_ G 4 (upd f_1 (nI i_1).toNatClampNeg v_7)) := fset_at hΦ1
        have hI5 : In G x (ca) Φ4 := In.put (k := 78) hI4 hΦ1 (ok15 (k := 78) rfl ⟨_, rfl⟩)
        refine z_aload_n B dX8_putTemplateSet_66 rfl 2 rfl ?_
        have h_14 : Φ4 (x + 74) = some (o_ 10 [.ref (x + 3), .ref (x + 46), .ref (x + 75), .ref (x + 77), .int (nI n_3), .ref (x + 78), .ref (x + 79), .int v_3, .long v_4, .int v_5]) := ((fset_fr hΦ1 (ne_off (x := x) (i := 74) (j := 78) rfl)).trans h_10)
        refine z_get (ref := "FlowExporter$Sender") (C := RX8) (T := TX8) (N := 10) (ci := 10) (v := .ref (x + 79)) B hu_X8_putTemplateSet_X8 rfl 6 (Nat.le_of_ble_eq_true rfl) hv_X8_putTemplateSet_31 rfl h_14 rfl dX8_putTemplateSet_67 ?_
        refine z_iload B dX8_putTemplateSet_70 0 rfl ?_
        refine z_iload_n B dX8_putTemplateSet_72 rfl 4 rfl ?_
        obtain ⟨f_2, h_15⟩ := in15 (k := 79) hI5 rfl
        have h_16 : Φ4 (x + 79) = some (ai_ G 4 f_2) := h_15
        refine z_iast B h_16 (Nat.le_trans hx (Nat.le_add_right x 79)) (vp_in_nI (by omega) (by omega)) dX8_putTemplateSet_73 (fun Φ5 hΦ2 => ?_)
        have h_17 : Φ5 (x + 79) = some (ai_ G 4 (upd f_2 (nI i_1).toNatClampNeg a)) := fset_at hΦ2
        have hI6 : In G x (ca) Φ5 := In.put (k := 79) hI5 hΦ2 (ok15 (k := 79) rfl ⟨_, rfl⟩)
        refine z_iinc (k := 0) (v := nI (i_1 + 1)) (lv' := [(4, .int (nI (i_1 + 1))), (3, .int (nI n_1)), (0, .ref (x + 74)), (1, .ref (x + (k))), (2, .int a)]) B dX8_putTemplateSet_74 rfl (nI_add i_1 1) (Nat.le_of_ble_eq_true rfl) rfl ?_
        refine z_goto (tgt := 8) B dX8_putTemplateSet_77 rfl ?_
        refine z_lv [0, 1, 2, 3, 4] rfl ?_
        exact ih1 (i_1 + 1) Φ5 (show 4 - (i_1 + 1) < 4 - i_1 by omega) ⟨hI6, (fun b9 h9 => ((fset_fr hΦ2 (fun h8 => h9 (79) h8 (show 48 ≤ 79 ∧ 79 < 80 by decide))).trans ((fset_fr hΦ1 (fun h8 => h9 (78) h8 (show 48 ≤ 78 ∧ 78 < 80 by decide))).trans ((hF4 b9 (fun j9 h8 h7 => h9 j9 h8 (fq_160 j9 h7))).trans ((hF3 b9 (fun j9 h8 h7 => (show False from h7).elim)).trans ((hF1 b9 h9).trans rfl)))))), (show (i_1 + 1) ≤ 4 by omega), trivial⟩
      · have e_6 : n_4 = n_1 := (nI_eq (a := n_4) (b := n_1) (by omega) (by omega)).mp c_4
        refine z_aload_n B dX8_putTemplateSet_32 rfl 3 rfl ?_
        refine z_ldc2 (v := 2) B (by decide +kernel) dX8_putTemplateSet_33 ?_
        refine z_iconst (v := 2) B dX8_putTemplateSet_36 rfl ?_
        refine z_callV (As := [.long 2, .int 2]) (rest := []) B (s_X5_put G l Φ2 sz x (ca) k 2 2 hx hI3 hk_k (show 2 ≤ 8 by omega)) (cwV 2 B.1.2.2.2.2 gX8_putTemplateSet_X5_put rfl rfl rfl (by decide +kernel) ⟨Nat.le_of_ble_eq_true rfl, Nat.le_of_ble_eq_true rfl⟩) h_8 rfl rfl rfl rfl (Nat.le_of_ble_eq_true rfl) dX8_putTemplateSet_37 ⟨Nat.le_of_ble_eq_true rfl, Nat.le_of_ble_eq_true rfl⟩ (fun r_4 Φ6 sz4 st4 hp4 hs4 => ?_)
        obtain ⟨rfl, hq4, hI7, hF5⟩ := hp4
        subst sz4
        replace hs4 : st4 = [] := hs4
        subst st4
        replace hI7 : In G x (ca) Φ6 := hI7
        refine z_aload_n B dX8_putTemplateSet_40 rfl 3 rfl ?_
        refine z_lconst (v := 0) B dX8_putTemplateSet_41 rfl ?_
        refine z_iconst (v := 2) B dX8_putTemplateSet_42 rfl ?_
        obtain ⟨n_5, h_18, b_10⟩ := in1 (k := k) hI7 hk_k
        replace b_10 : n_5 ≤ cap (k) := b_10
        have b_11 := cap_le (k)
        have h_19 : Φ6 (x + (k)) = some (o_ 7 [.ref (x + (k + 1)), .int (nI n_5)]) := h_18
        refine z_callV (As := [.long 0, .int 2]) (rest := []) B (s_X5_put G l Φ6 sz x (ca) k 0 2 hx hI7 hk_k (show 2 ≤ 8 by omega)) (cwV 2 B.1.2.2.2.2 gX8_putTemplateSet_X5_put rfl rfl rfl (by decide +kernel) ⟨Nat.le_of_ble_eq_true rfl, Nat.le_of_ble_eq_true rfl⟩) h_19 rfl rfl rfl rfl (Nat.le_of_ble_eq_true rfl) dX8_putTemplateSet_43 ⟨Nat.le_of_ble_eq_true rfl, Nat.le_of_ble_eq_true rfl⟩ (fun r_5 Φ7 sz5 st5 hp5 hs5 => ?_)
        obtain ⟨rfl, hq5, hI8, hF6⟩ := hp5
        subst sz5
        replace hs5 : st5 = [] := hs5
        subst st5
        replace hI8 : In G x (ca) Φ7 := hI8
        refine z_aload_n B dX8_putTemplateSet_46 rfl 2 rfl ?_
        refine z_aload_n B dX8_putTemplateSet_47 rfl 3 rfl ?_
        refine z_iload B dX8_putTemplateSet_48 0 rfl ?_
        have h_20 : Φ7 (x + 74) = some (o_ 10 [.ref (x + 3), .ref (x + 46), .ref (x + 75), .ref (x + 77), .int (nI n_3), .ref (x + 78), .ref (x + 79), .int v_3, .long v_4, .int v_5]) := ((hF6 (x + 74) (fun j9 h8 h7 => by have h6 : j9 = k ∨ j9 = k + 1 := h7; omega)).trans ((hF5 (x + 74) (fun j9 h8 h7 => by have h6 : j9 = k ∨ j9 = k + 1 := h7; omega)).trans ((hF3 (x + 74) (fun j9 h8 h7 => (show False from h7).elim)).trans h_6)))
        refine z_callV (As := [.ref (x + (k)), .int (nI i_1)]) (rest := []) B (s_X8_putTemplate G l Φ7 sz x (ca) k (nI i_1) hx hI8 hk_k (show 48 ≤ k by omega) (show k < 73 by omega)) (cwV 2 B.1.2.2.2.2 gX8_putTemplateSet_X8_putTemplate rfl rfl rfl (by decide +kernel) ⟨Nat.le_of_ble_eq_true rfl, Nat.le_of_ble_eq_true rfl⟩) h_20 rfl rfl rfl rfl (Nat.le_of_ble_eq_true rfl) dX8_putTemplateSet_50 ⟨Nat.le_of_ble_eq_true rfl, Nat.le_of_ble_eq_true rfl⟩ (fun r_6 Φ8 sz6 st6 hp6 hs6 => ?_)
        obtain ⟨rfl, hq6, hI9, hF7⟩ := hp6
        subst sz6
        replace hs6 : st6 = [] := hs6
        subst st6
        replace hI9 : In G x (ca) Φ8 := hI9
        refine z_aload_n B dX8_putTemplateSet_53 rfl 2 rfl ?_
        have h_21 : Φ8 (x + 74) = some (o_ 10 [.ref (x + 3), .ref (x + 46), .ref (x + 75), .ref (x + 77), .int (nI n_3), .ref (x + 78), .ref (x + 79), .int v_3, .long v_4, .int v_5]) := ((hF7 (x + 74) fq_155).trans h_20)
        refine z_get (ref := "FlowExporter$Sender") (C := RX8) (T := TX8) (N := 10) (ci := 10) (v := .ref (x + 78)) B hu_X8_putTemplateSet_X8 rfl 5 (Nat.le_of_ble_eq_true rfl) hv_X8_putTemplateSet_28 rfl h_21 rfl dX8_putTemplateSet_54 ?_
        refine z_iload B dX8_putTemplateSet_57 0 rfl ?_
        refine z_aload_n B dX8_putTemplateSet_59 rfl 2 rfl ?_
        refine z_get (ref := "FlowExporter$Sender") (C := RX8) (T := TX8) (N := 10) (ci := 10) (v := .int v_3) B hu_X8_putTemplateSet_X8 rfl 7 (Nat.le_of_ble_eq_true rfl) hv_X8_putTemplateSet_34 rfl h_21 rfl dX8_putTemplateSet_60 ?_
        refine z_iconst (v := 1) B dX8_putTemplateSet_63 rfl ?_
        refine z_iadd B dX8_putTemplateSet_64 ?_
        refine z_fi (fun v_8 => ?_)
        obtain ⟨f_3, h_22⟩ := in15 (k := 78) hI9 rfl
        have h_23 : Φ8 (x + 78) = some (ai_ G 4 f_3) := h_22
        refine z_iast B h_23 (Nat.le_trans hx (Nat.le_add_right x 78)) (vp_in_nI (by omega) (by omega)) dX8_putTemplateSet_65 (fun Φ9 hΦ3 => ?_)
        have h_24 : Φ9 (x + 78) = some (ai_ G 4 (upd f_3 (nI i_1).toNatClampNeg v_8)) := fset_at hΦ3
        have hI10 : In G x (ca) Φ9 := In.put (k := 78) hI9 hΦ3 (ok15 (k := 78) rfl ⟨_, rfl⟩)
        refine z_aload_n B dX8_putTemplateSet_66 rfl 2 rfl ?_
        have h_25 : Φ9 (x + 74) = some (o_ 10 [.ref (x + 3), .ref (x + 46), .ref (x + 75), .ref (x + 77), .int (nI n_3), .ref (x + 78), .ref (x + 79), .int v_3, .long v_4, .int v_5]) := ((fset_fr hΦ3 (ne_off (x := x) (i := 74) (j := 78) rfl)).trans h_21)
        refine z_get (ref := "FlowExporter$Sender") (C := RX8) (T := TX8) (N := 10) (ci := 10) (v := .ref (x + 79)) B hu_X8_putTemplateSet_X8 rfl 6 (Nat.le_of_ble_eq_true rfl) hv_X8_putTemplateSet_31 rfl h_25 rfl dX8_putTemplateSet_67 ?_
        refine z_iload B dX8_putTemplateSet_70 0 rfl ?_
        refine z_iload_n B dX8_putTemplateSet_72 rfl 4 rfl ?_
        obtain ⟨f_4, h_26⟩ := in15 (k := 79) hI10 rfl
        have h_27 : Φ9 (x + 79) = some (ai_ G 4 f_4) := h_26
        refine z_iast B h_27 (Nat.le_trans hx (Nat.le_add_right x 79)) (vp_in_nI (by omega) (by omega)) dX8_putTemplateSet_73 (fun Φ10 hΦ4 => ?_)
        have h_28 : Φ10 (x + 79) = some (ai_ G 4 (upd f_4 (nI i_1).toNatClampNeg a)) := fset_at hΦ4
        have hI11 : In G x (ca) Φ10 := In.put (k := 79) hI10 hΦ4 (ok15 (k := 79) rfl ⟨_, rfl⟩)
        refine z_iinc (k := 0) (v := nI (i_1 + 1)) (lv' := [(4, .int (nI (i_1 + 1))), (3, .int (nI n_1)), (0, .ref (x + 74)), (1, .ref (x + (k))), (2, .int a)]) B dX8_putTemplateSet_74 rfl (nI_add i_1 1) (Nat.le_of_ble_eq_true rfl) rfl ?_
        refine z_goto (tgt := 8) B dX8_putTemplateSet_77 rfl ?_
        refine z_lv [0, 1, 2, 3, 4] rfl ?_
        exact ih1 (i_1 + 1) Φ10 (show 4 - (i_1 + 1) < 4 - i_1 by omega) ⟨hI11, (fun b9 h9 => ((fset_fr hΦ4 (fun h8 => h9 (79) h8 (show 48 ≤ 79 ∧ 79 < 80 by decide))).trans ((fset_fr hΦ3 (fun h8 => h9 (78) h8 (show 48 ≤ 78 ∧ 78 < 80 by decide))).trans ((hF7 b9 (fun j9 h8 h7 => h9 j9 h8 (fq_160 j9 h7))).trans ((hF6 b9 (fun j9 h8 h7 => h9 j9 h8 (show 48 ≤ j9 ∧ j9 < 80 by have h6 : j9 = k ∨ j9 = k + 1 := h7; omega))).trans ((hF5 b9 (fun j9 h8 h7 => h9 j9 h8 (show 48 ≤ j9 ∧ j9 < 80 by have h6 : j9 = k ∨ j9 = k + 1 := h7; omega))).trans ((hF3 b9 (fun j9 h8 h7 => (show False from h7).elim)).trans ((hF1 b9 h9).trans rfl)))))))), (show (i_1 + 1) ≤ 4 by omega), trivial⟩

theorem hu_X8_beginMessage_X8 : ∀ w ∈ u_ws RX8 TX8 10, w ∈ wsX8_beginMessage := fun _ h => List.mem_cons_of_mem _ (List.mem_append_left _ (List.mem_append_left _ (List.mem_append_left _ (List.mem_append_left _ (List.mem_append_left _ (List.mem_append_right _ (h)))))))

theorem hv_X8_beginMessage_48 : Cond.fieldLink RX8 48 "FlowExporter$Sender" (TX8 1).2.1 (TX8 1).2.2.1 ∈ wsX8_beginMessage := List.mem_cons_of_mem _ (List.mem_append_left _ (List.mem_append_left _ (List.mem_append_left _ (List.mem_append_left _ (List.mem_append_left _ (List.mem_append_left _ (List.mem_append_left _ (List.mem_of_getElem? (i := 0) rfl))))))))

theorem hv_X8_beginMessage_41 : Cond.fieldLink RX8 41 "FlowExporter$Sender" (TX8 9).2.1 (TX8 9).2.2.1 ∈ wsX8_beginMessage := List.mem_cons_of_mem _ (List.mem_append_left _ (List.mem_append_left _ (List.mem_append_left _ (List.mem_append_left _ (List.mem_append_left _ (List.mem_append_left _ (List.mem_append_left _ (List.mem_of_getElem? (i := 2) rfl))))))))

set_option maxHeartbeats 4000000 in
set_option maxRecDepth 100000 in
theorem s_X8_beginMessage (G : EnvG) (l : Launch) (Φ : Hm) (sz x ca : Nat) (a : Int32) (hx : G.2.2.2 ≤ x) (hI : In G x ca Φ)  : Ct G l yX8_beginMessage wsX8_beginMessage ({ frames := 3, cells := 0, slots := 0, locals := 73 }) 0 0 [.ref (x + 74), .int a] Φ sz (fun v Φ1 sz1 => (∃ m9 : Nat, m9 < 13 ∧ v = some (.ref (x + (48 + 2 * m9)))) ∧ sz1 = sz ∧ In G x (ca) Φ1 ∧ Fr x (fun j9 => 48 ≤ j9 ∧ j9 < 80) Φ Φ1) := by
  refine Ct.of (cc := cX8_beginMessage) (maxL := 3) (ret := (some (.object "FlowExporter$Message"))) (by decide) rfl (Nat.le_of_ble_eq_true rfl) ?_
  intro p9 e9 s9 m9 w9 t9 k9 B
  show Z p9 l e9 _ s9 m9 _ w9 t9 k9 _ G 3 0 [(0, .ref (x + 74)), (1, .int a)] [] Φ sz 0 0
  refine z_aload_n B dX8_beginMessage_0 rfl 0 rfl ?_
  obtain ⟨n_1, v_1, v_2, v_3, h_1, b_1⟩ := in13 (k := 74) hI rfl
  have h_2 : Φ (x + 74) = some (o_ 10 [.ref (x + 3), .ref (x + 46), .ref (x + 75), .ref (x + 77), .int (nI n_1), .ref (x + 78), .ref (x + 79), .int v_1, .long v_2, .int v_3]) := h_1
  refine z_get (ref := "FlowExporter$Sender") (C := RX8) (T := TX8) (N := 10) (ci := 10) (v := .ref (x + 46)) B hu_X8_beginMessage_X8 rfl 1 (Nat.le_of_ble_eq_true rfl) hv_X8_beginMessage_48 rfl h_2 rfl dX8_beginMessage_1 ?_
  obtain ⟨n_2, v_4, h_3, b_2⟩ := in11 (k := 46) hI rfl
  have h_4 : Φ (x + 46) = some (o_ 9 [.ref (x + 47), .int (nI n_2), .int v_4]) := h_3
  refine z_callV (As := []) (rest := []) B (s_X7_freeMessage G l Φ sz x (ca)  hx hI ) (cwV 0 B.1.2.2.2.2 gX8_beginMessage_X7_freeMessage rfl rfl rfl (by decide +kernel) ⟨Nat.le_of_ble_eq_true rfl, Nat.le_of_ble_eq_true rfl⟩) h_4 rfl rfl rfl rfl (Nat.le_of_ble_eq_true rfl) dX8_beginMessage_4 ⟨Nat.le_of_ble_eq_true rfl, Nat.le_of_ble_eq_true rfl⟩ (fun r_1 Φ1 sz1 st1 hp1 hs1 => ?_)
  obtain ⟨⟨m_1, hm_1, rfl⟩, hq1, hI1, hF1⟩ := hp1
  subst sz1
  replace hs1 : st1 = [.ref (x + (48 + 2 * m_1))] := hs1
  subst st1
  replace hI1 : In G x (ca) Φ1 := hI1
  replace hm_1 : m_1 < 13 := hm_1
  refine z_astore_n (lv' := [(2, .ref (x + (48 + 2 * m_1))), (0, .ref (x + 74)), (1, .int a)]) B dX8_beginMessage_7 rfl (Nat.le_of_ble_eq_true rfl) rfl ?_
  refine z_aload_n B dX8_beginMessage_8 rfl 0 rfl ?_
  refine z_ldc2 (v := 10) B (by decide +kernel) dX8_beginMessage_9 ?_
  refine z_iconst (v := 2) B dX8_beginMessage_12 rfl ?_
  obtain ⟨n_3, h_5, b_3⟩ := in1 (k := 48 + 2 * m_1) hI1 (kd_q hm_1)
  replace b_3 : n_3 ≤ cap (48 + 2 * m_1) := b_3
  have b_4 := cap_le (48 + 2 * m_1)
  have h_6 : Φ1 (x + (48 + 2 * m_1)) = some (o_ 7 [.ref (x + (48 + 2 * m_1 + 1)), .int (nI n_3)]) := h_5
  refine z_callV (As := [.long 10, .int 2]) (rest := []) B (s_X5_put G l Φ1 sz x (ca) (48 + 2 * m_1) 10 2 hx hI1 (kd_q hm_1) (show 2 ≤ 8 by omega)) (cwV 2 B.1.2.2.2.2 gX8_beginMessage_X5_put rfl rfl rfl (by decide +kernel) ⟨Nat.le_of_ble_eq_true rfl, Nat.le_of_ble_eq_true rfl⟩) h_6 rfl rfl rfl rfl (Nat.le_of_ble_eq_true rfl) dX8_beginMessage_13 ⟨Nat.le_of_ble_eq_true rfl, Nat.le_of_ble_eq_true rfl⟩ (fun r_2 Φ2 sz2 st2 hp2 hs2 => ?_)
  obtain ⟨rfl, hq2, hI2, hF2⟩ := hp2
  subst sz2
  replace hs2 : st2 = [] := hs2
  subst st2
  replace hI2 : In G x (ca) Φ2 := hI2
  refine z_aload_n B dX8_beginMessage_16 rfl 0 rfl ?_
  refine z_lconst (v := 0) B dX8_beginMessage_17 rfl ?_
  refine z_iconst (v := 2) B dX8_beginMessage_18 rfl ?_
  obtain ⟨n_4, h_7, b_5⟩ := in1 (k := 48 + 2 * m_1) hI2 (kd_q hm_1)
  replace b_5 : n_4 ≤ cap (48 + 2 * m_1) := b_5
  have b_6 := cap_le (48 + 2 * m_1)
  have h_8 : Φ2 (x + (48 + 2 * m_1)) = some (o_ 7 [.ref (x + (48 + 2 * m_1 + 1)), .int (nI n_4)]) := h_7
  refine z_callV (As := [.long 0, .int 2]) (rest := []) B (s_X5_put G l Φ2 sz x (ca) (48 + 2 * m_1) 0 2 hx hI2 (kd_q hm_1) (show 2 ≤ 8 by omega)) (cwV 2 B.1.2.2.2.2 gX8_beginMessage_X5_put rfl rfl rfl (by decide +kernel) ⟨Nat.le_of_ble_eq_true rfl, Nat.le_of_ble_eq_true rfl⟩) h_8 rfl rfl rfl rfl (Nat.le_of_ble_eq_true rfl) dX8_beginMessage_19 ⟨Nat.le_of_ble_eq_true rfl, Nat.le_of_ble_eq_true rfl⟩ (fun r_3 Φ3 sz3 st3 hp3 hs3 => ?_)
  obtain ⟨rfl, hq3, hI3, hF3⟩ := hp3
  subst sz3
  replace hs3 : st3 = [] := hs3
  subst st3
  replace hI3 : In G x (ca) Φ3 := hI3
  refine z_aload_n B dX8_beginMessage_22 rfl 0 rfl ?_
  refine z_iload_n B dX8_beginMessage_23 rfl 2 rfl ?_
  refine z_i2l (v := a.toInt64) B dX8_beginMessage_24 rfl ?_
  refine z_fl (fun v_5 => ?_)
  refine z_iconst (v := 4) B dX8_beginMessage_25 rfl ?_
  obtain ⟨n_5, h_9, b_7⟩ := in1 (k := 48 + 2 * m_1) hI3 (kd_q hm_1)
  replace b_7 : n_5 ≤ cap (48 + 2 * m_1) := b_7
  have b_8 := cap_le (48 + 2 * m_1)
  have h_10 : Φ3 (x + (48 + 2 * m_1)) = some (o_ 7 [.ref (x + (48 + 2 * m_1 + 1)), .int (nI n_5)]) := h_9
  refine z_callV (As := [.long v_5, .int 4]) (rest := []) B (s_X5_put G l Φ3 sz x (ca) (48 + 2 * m_1) v_5 4 hx hI3 (kd_q hm_1) (show 4 ≤ 8 by omega)) (cwV 2 B.1.2.2.2.2 gX8_beginMessage_X5_put rfl rfl rfl (by decide +kernel) ⟨Nat.le_of_ble_eq_true rfl, Nat.le_of_ble_eq_true rfl⟩) h_10 rfl rfl rfl rfl (Nat.le_of_ble_eq_true rfl) dX8_beginMessage_26 ⟨Nat.le_of_ble_eq_true rfl, Nat.le_of_ble_eq_true rfl⟩ (fun r_4 Φ4 sz4 st4 hp4 hs4 => ?_)
  obtain ⟨rfl, hq4, hI4, hF4⟩ := hp4
  subst sz4
  replace hs4 : st4 = [] := hs4
  subst st4
  replace hI4 : In G x (ca) Φ4 := hI4
  refine z_aload_n B dX8_beginMessage_29 rfl 0 rfl ?_
  refine z_aload_n B dX8_beginMessage_30 rfl 1 rfl ?_
  have h_11 : Φ4 (x + 74) = some (o_ 10 [.ref (x + 3), .ref (x + 46), .ref (x + 75), .ref (x + 77), .int (nI n_1), .ref (x + 78), .ref (x + 79), .int v_1, .long v_2, .int v_3]) := ((hF4 (x + 74) (fun j9 h8 h7 => by have h6 : j9 = (48 + 2 * m_1) ∨ j9 = (48 + 2 * m_1) + 1 := h7; omega)).trans ((hF3 (x + 74) (fun j9 h8 h7 => by have h6 : j9 = (48 + 2 * m_1) ∨ j9 = (48 + 2 * m_1) + 1 := h7; omega)).trans ((hF2 (x + 74) (fun j9 h8 h7 => by have h6 : j9 = (48 + 2 * m_1) ∨ j9 = (48 + 2 * m_1) + 1 := h7; omega)).trans ((hF1 (x + 74) fq_155).trans h_2))))
  refine z_get (ref := "FlowExporter$Sender") (C := RX8) (T := TX8) (N := 10) (ci := 10) (v := .int v_3) B hu_X8_beginMessage_X8 rfl 9 (Nat.le_of_ble_eq_true rfl) hv_X8_beginMessage_41 rfl h_11 rfl dX8_beginMessage_31 ?_
  refine z_i2l (v := v_3.toInt64) B dX8_beginMessage_34 rfl ?_
  refine z_fl (fun v_6 => ?_)
  refine z_iconst (v := 4) B dX8_beginMessage_35 rfl ?_
  obtain ⟨n_6, h_12, b_9⟩ := in1 (k := 48 + 2 * m_1) hI4 (kd_q hm_1)
  replace b_9 : n_6 ≤ cap (48 + 2 * m_1) := b_9
  have b_10 := cap_le (48 + 2 * m_1)
  have h_13 : Φ4 (x + (48 + 2 * m_1)) = some (o_ 7 [.ref (x + (48 + 2 * m_1 + 1)), .int (nI n_6)]) := h_12
  refine z_callV (As := [.long v_6, .int 4]) (rest := []) B (s_X5_put G l Φ4 sz x (ca) (48 + 2 * m_1) v_6 4 hx hI4 (kd_q hm_1) (show 4 ≤ 8 by omega)) (cwV 2 B.1.2.2.2.2 gX8_beginMessage_X5_put rfl rfl rfl (by decide +kernel) ⟨Nat.le_of_ble_eq_true rfl, Nat.le_of_ble_eq_true rfl⟩) h_13 rfl rfl rfl rfl (Nat.le_of_ble_eq_true rfl) dX8_beginMessage_36 ⟨Nat.le_of_ble_eq_true rfl, Nat.le_of_ble_eq_true rfl⟩ (fun r_5 Φ5 sz5 st5 hp5 hs5 => ?_)
  obtain ⟨rfl, hq5, hI5, hF5⟩ := hp5
  subst sz5
  replace hs5 : st5 = [] := hs5
  subst st5
  replace hI5 : In G x (ca) Φ5 := hI5
  refine z_aload_n B dX8_beginMessage_39 rfl 0 rfl ?_
  refine z_lconst (v := 0) B dX8_beginMessage_40 rfl ?_
  refine z_iconst (v := 4) B dX8_beginMessage_41 rfl ?_
  obtain ⟨n_7, h_14, b_11⟩ := in1 (k := 48 + 2 * m_1) hI5 (kd_q hm_1)
  replace b_11 : n_7 ≤ cap (48 + 2 * m_1) := b_11
  have b_12 := cap_le (48 + 2 * m_1)
  have h_15 : Φ5 (x + (48 + 2 * m_1)) = some (o_ 7 [.ref (x + (48 + 2 * m_1 + 1)), .int (nI n_7)]) := h_14
  refine z_callV (As := [.long 0, .int 4]) (rest := []) B (s_X5_put G l Φ5 sz x (ca) (48 + 2 * m_1) 0 4 hx hI5 (kd_q hm_1) (show 4 ≤ 8 by omega)) (cwV 2 B.1.2.2.2.2 gX8_beginMessage_X5_put rfl rfl rfl (by decide +kernel) ⟨Nat.le_of_ble_eq_true rfl, Nat.le_of_ble_eq_true rfl⟩) h_15 rfl rfl rfl rfl (Nat.le_of_ble_eq_true rfl) dX8_beginMessage_42 ⟨Nat.le_of_ble_eq_true rfl, Nat.le_of_ble_eq_true rfl⟩ (fun r_6 Φ6 sz6 st6 hp6 hs6 => ?_)
  obtain ⟨rfl, hq6, hI6, hF6⟩ := hp6
  subst sz6
  replace hs6 : st6 = [] := hs6
  subst st6
  replace hI6 : In G x (ca) Φ6 := hI6
  refine z_aload_n B dX8_beginMessage_45 rfl 1 rfl ?_
  refine z_aload_n B dX8_beginMessage_46 rfl 0 rfl ?_
  refine z_iload_n B dX8_beginMessage_47 rfl 2 rfl ?_
  have h_16 : Φ6 (x + 74) = some (o_ 10 [.ref (x + 3), .ref (x + 46), .ref (x + 75), .ref (x + 77), .int (nI n_1), .ref (x + 78), .ref (x + 79), .int v_1, .long v_2, .int v_3]) := ((hF6 (x + 74) (fun j9 h8 h7 => by have h6 : j9 = (48 + 2 * m_1) ∨ j9 = (48 + 2 * m_1) + 1 := h7; omega)).trans ((hF5 (x + 74) (fun j9 h8 h7 => by have h6 : j9 = (48 + 2 * m_1) ∨ j9 = (48 + 2 * m_1) + 1 := h7; omega)).trans h_11))
  refine z_callV (As := [.ref (x + (48 + 2 * m_1)), .int a]) (rest := []) B (s_X8_putTemplateSet G l Φ6 sz x (ca) (48 + 2 * m_1) a hx hI6 (kd_q hm_1) (show 48 ≤ (48 + 2 * m_1) by omega) (show (48 + 2 * m_1) < 73 by omega)) (cwV 2 B.1.2.2.2.2 gX8_beginMessage_X8_putTemplateSet rfl rfl rfl (by decide +kernel) ⟨Nat.le_of_ble_eq_true rfl, Nat.le_of_ble_eq_true rfl⟩) h_16 rfl rfl rfl rfl (Nat.le_of_ble_eq_true rfl) dX8_beginMessage_48 ⟨Nat.le_of_ble_eq_true rfl, Nat.le_of_ble_eq_true rfl⟩ (fun r_7 Φ7 sz7 st7 hp7 hs7 => ?_)
  obtain ⟨rfl, hq7, hI7, hF7⟩ := hp7
  subst sz7
  replace hs7 : st7 = [] := hs7
  subst st7
  replace hI7 : In G x (ca) Φ7 := hI7
  refine z_aload_n B dX8_beginMessage_51 rfl 0 rfl ?_
  exact z_ret_a B dX8_beginMessage_52 ⟨⟨m_1, by omega, rfl⟩, rfl, hI7, (fun b9 h9 => ((hF7 b9 h9).trans ((hF6 b9 (fun j9 h8 h7 => h9 j9 h8 (show 48 ≤ j9 ∧ j9 < 80 by have h6 : j9 = (48 + 2 * m_1) ∨ j9 = (48 + 2 * m_1) + 1 := h7; omega))).trans ((hF5 b9 (fun j9 h8 h7 => h9 j9 h8 (show 48 ≤ j9 ∧ j9 < 80 by have h6 : j9 = (48 + 2 * m_1) ∨ j9 = (48 + 2 * m_1) + 1 := h7; omega))).trans ((hF4 b9 (fun j9 h8 h7 => h9 j9 h8 (show 48 ≤ j9 ∧ j9 < 80 by have h6 : j9 = (48 + 2 * m_1) ∨ j9 = (48 + 2 * m_1) + 1 := h7; omega))).trans ((hF3 b9 (fun j9 h8 h7 => h9 j9 h8 (show 48 ≤ j9 ∧ j9 < 80 by have h6 : j9 = (48 + 2 * m_1) ∨ j9 = (48 + 2 * m_1) + 1 := h7; omega))).trans ((hF2 b9 (fun j9 h8 h7 => h9 j9 h8 (show 48 ≤ j9 ∧ j9 < 80 by have h6 : j9 = (48 + 2 * m_1) ∨ j9 = (48 + 2 * m_1) + 1 := h7; omega))).trans ((hF1 b9 (fun j9 h8 h7 => h9 j9 h8 (fq_160 j9 h7))).trans rfl))))))))⟩

theorem hu_X8_endMessage_X5 : ∀ w ∈ u_ws RX5 TX5 2, w ∈ wsX8_endMessage := fun _ h => List.mem_cons_of_mem _ (List.mem_append_left _ (List.mem_append_left _ (List.mem_append_left _ (List.mem_append_right _ (h)))))

theorem hv_X8_endMessage_61 : Cond.fieldLink RX8 61 "FlowExporter$Message" (TX5 1).2.1 (TX5 1).2.2.1 ∈ wsX8_endMessage := List.mem_cons_of_mem _ (List.mem_append_left _ (List.mem_append_left _ (List.mem_append_left _ (List.mem_append_left _ (List.mem_of_getElem? (i := 0) rfl)))))

theorem hu_X8_endMessage_X8 : ∀ w ∈ u_ws RX8 TX8 10, w ∈ wsX8_endMessage := fun _ h => List.mem_cons_of_mem _ (List.mem_append_left _ (List.mem_append_left _ (List.mem_append_right _ (h))))

theorem hv_X8_endMessage_48 : Cond.fieldLink RX8 48 "FlowExporter$Sender" (TX8 1).2.1 (TX8 1).2.2.1 ∈ wsX8_endMessage := List.mem_cons_of_mem _ (List.mem_append_left _ (List.mem_append_left _ (List.mem_append_left _ (List.mem_append_left _ (List.mem_of_getElem? (i := 1) rfl)))))

theorem fq_168 {x : Nat} : ∀ j9 : Nat, x + 74 = x + j9 → (j9 = 46) → False := by
  intro j9 h1 h2
  omega

theorem hv_X8_endMessage_34 : Cond.fieldLink RX8 34 "FlowExporter$Sender" (TX8 7).2.1 (TX8 7).2.2.1 ∈ wsX8_endMessage := List.mem_cons_of_mem _ (List.mem_append_left _ (List.mem_append_left _ (List.mem_append_left _ (List.mem_append_left _ (List.mem_of_getElem? (i := 2) rfl)))))

theorem hv_X8_endMessage_37 : Cond.fieldLink RX8 37 "FlowExporter$Sender" (TX8 8).2.1 (TX8 8).2.2.1 ∈ wsX8_endMessage := List.mem_cons_of_mem _ (List.mem_append_left _ (List.mem_append_left _ (List.mem_append_left _ (List.mem_append_left _ (List.mem_of_getElem? (i := 3) rfl)))))

theorem hv_X8_endMessage_41 : Cond.fieldLink RX8 41 "FlowExporter$Sender" (TX8 9).2.1 (TX8 9).2.2.1 ∈ wsX8_endMessage := List.mem_cons_of_mem _ (List.mem_append_left _ (List.mem_append_left _ (List.mem_append_left _ (List.mem_append_left _ (List.mem_of_getElem? (i := 4) rfl)))))

theorem fq_172 : ∀ j9 : Nat, (j9 = 46) → (46 ≤ j9 ∧ j9 < 80) := by
  intro j9 h
  omega

set_option maxHeartbeats 4000000 in
set_option maxRecDepth 100000 in
theorem s_X8_endMessage (G : EnvG) (l : Launch) (Φ : Hm) (sz x ca : Nat) (k : Nat) (a : Int32) (hx : G.2.2.2 ≤ x) (hI : In G x ca Φ) (hk_k : kd k = 1) (hq1 : 48 ≤ k) (hq2 : k < 73) : Ct G l yX8_endMessage wsX8_endMessage ({ frames := 1, cells := 0, slots := 0, locals := 26 }) 0 0 [.ref (x + 74), .ref (x + (k)), .int a] Φ sz (fun v Φ1 sz1 => (v = none) ∧ sz1 = sz ∧ In G x (ca) Φ1 ∧ Fr x (fun j9 => 46 ≤ j9 ∧ j9 < 80) Φ Φ1) := by
  refine Ct.of (cc := cX8_endMessage) (maxL := 3) (ret := none) (by decide) rfl (Nat.le_of_ble_eq_true rfl) ?_
  intro p9 e9 s9 m9 w9 t9 k9 B
  show Z p9 l e9 _ s9 m9 _ w9 t9 k9 _ G 3 0 [(0, .ref (x + 74)), (1, .ref (x + (k))), (2, .int a)] [] Φ sz 0 0
  refine z_aload_n B dX8_endMessage_0 rfl 1 rfl ?_
  refine z_iconst (v := 2) B dX8_endMessage_1 rfl ?_
  refine z_aload_n B dX8_endMessage_2 rfl 1 rfl ?_
  obtain ⟨n_1, h_1, b_1⟩ := in1 (k := k) hI hk_k
  replace b_1 : n_1 ≤ cap (k) := b_1
  have b_2 := cap_le (k)
  have h_2 : Φ (x + (k)) = some (o_ 7 [.ref (x + (k + 1)), .int (nI n_1)]) := h_1
  refine z_get (ref := "FlowExporter$Message") (C := RX5) (T := TX5) (N := 2) (ci := 7) (v := .int (nI n_1)) B hu_X8_endMessage_X5 rfl 1 (Nat.le_of_ble_eq_true rfl) hv_X8_endMessage_61 rfl h_2 rfl dX8_endMessage_3 ?_
  refine z_i2l (v := (nI n_1).toInt64) B dX8_endMessage_6 rfl ?_
  refine z_fl (fun v_1 => ?_)
  refine z_iconst (v := 2) B dX8_endMessage_7 rfl ?_
  refine z_callV (As := [.int 2, .long v_1, .int 2]) (rest := []) B (s_X5_putAt G l Φ sz x (ca) k 2 v_1 2 hx hI hk_k (show 2 ≤ 8 by omega)) (cwV 3 B.1.2.2.2.2 gX8_endMessage_X5_putAt rfl rfl rfl (by decide +kernel) ⟨Nat.le_of_ble_eq_true rfl, Nat.le_of_ble_eq_true rfl⟩) h_2 rfl rfl rfl rfl (Nat.le_of_ble_eq_true rfl) dX8_endMessage_8 ⟨Nat.le_of_ble_eq_true rfl, Nat.le_of_ble_eq_true rfl⟩ (fun r_1 Φ1 sz1 st1 hp1 hs1 => ?_)
  obtain ⟨rfl, hq1, hI1, hF1⟩ := hp1
  subst sz1
  replace hs1 : st1 = [] := hs1
  subst st1
  replace hI1 : In G x (ca) Φ1 := hI1
  refine z_aload_n B dX8_endMessage_11 rfl 1 rfl ?_
  refine z_bipush (v := 12) B dX8_endMessage_12 rfl ?_
  refine z_iload_n B dX8_endMessage_14 rfl 2 rfl ?_
  refine z_i2l (v := a.toInt64) B dX8_endMessage_15 rfl ?_
  refine z_fl (fun v_2 => ?_)
  refine z_iconst (v := 4) B dX8_endMessage_16 rfl ?_
  have h_3 : Φ1 (x + (k)) = some (o_ 7 [.ref (x + (k + 1)), .int (nI n_1)]) := ((hF1 (x + (k)) (fun j9 h8 h7 => by have h6 : j9 = k + 1 := h7; omega)).trans h_2)
  refine z_callV (As := [.int 12, .long v_2, .int 4]) (rest := []) B (s_X5_putAt G l Φ1 sz x (ca) k 12 v_2 4 hx hI1 hk_k (show 4 ≤ 8 by omega)) (cwV 3 B.1.2.2.2.2 gX8_endMessage_X5_putAt rfl rfl rfl (by decide +kernel) ⟨Nat.le_of_ble_eq_true rfl, Nat.le_of_ble_eq_true rfl⟩) h_3 rfl rfl rfl rfl (Nat.le_of_ble_eq_true rfl) dX8_endMessage_17 ⟨Nat.le_of_ble_eq_true rfl, Nat.le_of_ble_eq_true rfl⟩ (fun r_2 Φ2 sz2 st2 hp2 hs2 => ?_)
  obtain ⟨rfl, hq2, hI2, hF2⟩ := hp2
  subst sz2
  replace hs2 : st2 = [] := hs2
  subst st2
  replace hI2 : In G x (ca) Φ2 := hI2
  refine z_aload_n B dX8_endMessage_20 rfl 0 rfl ?_
  obtain ⟨n_2, v_3, v_4, v_5, h_4, b_3⟩ := in13 (k := 74) hI2 rfl
  have h_5 : Φ2 (x + 74) = some (o_ 10 [.ref (x + 3), .ref (x + 46), .ref (x + 75), .ref (x + 77), .int (nI n_2), .ref (x + 78), .ref (x + 79), .int v_3, .long v_4, .int v_5]) := h_4
  refine z_get (ref := "FlowExporter$Sender") (C := RX8) (T := TX8) (N := 10) (ci := 10) (v := .ref (x + 46)) B hu_X8_endMessage_X8 rfl 1 (Nat.le_of_ble_eq_true rfl) hv_X8_endMessage_48 rfl h_5 rfl dX8_endMessage_21 ?_
  obtain ⟨n_3, v_6, h_6, b_4⟩ := in11 (k := 46) hI2 rfl
  have h_7 : Φ2 (x + 46) = some (o_ 9 [.ref (x + 47), .int (nI n_3), .int v_6]) := h_6
  refine z_callV (As := []) (rest := []) B (s_X7_addFreeMessage G l Φ2 sz x (ca)  hx hI2 ) (cwV 0 B.1.2.2.2.2 gX8_endMessage_X7_addFreeMessage rfl rfl rfl (by decide +kernel) ⟨Nat.le_of_ble_eq_true rfl, Nat.le_of_ble_eq_true rfl⟩) h_7 rfl rfl rfl rfl (Nat.le_of_ble_eq_true rfl) dX8_endMessage_24 ⟨Nat.le_of_ble_eq_true rfl, Nat.le_of_ble_eq_true rfl⟩ (fun r_3 Φ3 sz3 st3 hp3 hs3 => ?_)
  obtain ⟨rfl, hq3, hI3, hF3⟩ := hp3
  subst sz3
  replace hs3 : st3 = [] := hs3
  subst st3
  replace hI3 : In G x (ca) Φ3 := hI3
  refine z_aload_n B dX8_endMessage_27 rfl 0 rfl ?_
  refine z_dup B dX8_endMessage_28 rfl ?_
  have h_8 : Φ3 (x + 74) = some (o_ 10 [.ref (x + 3), .ref (x + 46), .ref (x + 75), .ref (x + 77), .int (nI n_2), .ref (x + 78), .ref (x + 79), .int v_3, .long v_4, .int v_5]) := ((hF3 (x + 74) fq_168).trans h_5)
  refine z_get (ref := "FlowExporter$Sender") (C := RX8) (T := TX8) (N := 10) (ci := 10) (v := .int v_3) B hu_X8_endMessage_X8 rfl 7 (Nat.le_of_ble_eq_true rfl) hv_X8_endMessage_34 rfl h_8 rfl dX8_endMessage_29 ?_
  refine z_iconst (v := 1) B dX8_endMessage_32 rfl ?_
  refine z_iadd B dX8_endMessage_33 ?_
  refine z_fi (fun v_7 => ?_)
  refine z_put (ref := "FlowExporter$Sender") (C := RX8) (T := TX8) (N := 10) (ci := 10) (v := .int v_7) B hu_X8_endMessage_X8 tyX8 tyX8_ok nmX8 rfl 7 (Nat.le_of_ble_eq_true rfl) hv_X8_endMessage_34 rfl (Or.inl rfl) h_8 (Nat.le_trans hx (Nat.le_add_right x 74)) rfl rfl (Nat.le_of_ble_eq_true rfl) dX8_endMessage_34 (fun Φ4 hΦ1 => ?_)
  have h_9 : Φ4 (x + 74) = some (o_ 10 [.ref (x + 3), .ref (x + 46), .ref (x + 75), .ref (x + 77), .int (nI n_2), .ref (x + 78), .ref (x + 79), .int v_7, .long v_4, .int v_5]) := fset_at hΦ1
  have hI4 : In G x (ca) Φ4 := In.put (k := 74) hI3 hΦ1 (ok13 (k := 74) rfl ⟨n_2, v_7, v_4, v_5, rfl, (show n_2 ≤ 12 by omega)⟩)
  refine z_aload_n B dX8_endMessage_37 rfl 0 rfl ?_
  refine z_dup B dX8_endMessage_38 rfl ?_
  refine z_get (ref := "FlowExporter$Sender") (C := RX8) (T := TX8) (N := 10) (ci := 10) (v := .long v_4) B hu_X8_endMessage_X8 rfl 8 (Nat.le_of_ble_eq_true rfl) hv_X8_endMessage_37 rfl h_9 rfl dX8_endMessage_39 ?_
  refine z_iload_n B dX8_endMessage_42 rfl 2 rfl ?_
  refine z_i2l (v := a.toInt64) B dX8_endMessage_43 rfl ?_
  refine z_fl (fun v_8 => ?_)
  refine z_ladd B dX8_endMessage_44 ?_
  refine z_fl (fun v_9 => ?_)
  refine z_put (ref := "FlowExporter$Sender") (C := RX8) (T := TX8) (N := 10) (ci := 10) (v := .long v_9) B hu_X8_endMessage_X8 tyX8 tyX8_ok nmX8 rfl 8 (Nat.le_of_ble_eq_true rfl) hv_X8_endMessage_37 rfl (Or.inl rfl) h_9 (Nat.le_trans hx (Nat.le_add_right x 74)) rfl rfl (Nat.le_of_ble_eq_true rfl) dX8_endMessage_45 (fun Φ5 hΦ2 => ?_)
  have h_10 : Φ5 (x + 74) = some (o_ 10 [.ref (x + 3), .ref (x + 46), .ref (x + 75), .ref (x + 77), .int (nI n_2), .ref (x + 78), .ref (x + 79), .int v_7, .long v_9, .int v_5]) := fset_at hΦ2
  have hI5 : In G x (ca) Φ5 := In.put (k := 74) hI4 hΦ2 (ok13 (k := 74) rfl ⟨n_2, v_7, v_9, v_5, rfl, (show n_2 ≤ 12 by omega)⟩)
  refine z_aload_n B dX8_endMessage_48 rfl 0 rfl ?_
  refine z_dup B dX8_endMessage_49 rfl ?_
  refine z_get (ref := "FlowExporter$Sender") (C := RX8) (T := TX8) (N := 10) (ci := 10) (v := .int v_5) B hu_X8_endMessage_X8 rfl 9 (Nat.le_of_ble_eq_true rfl) hv_X8_endMessage_41 rfl h_10 rfl dX8_endMessage_50 ?_
  refine z_iload_n B dX8_endMessage_53 rfl 2 rfl ?_
  refine z_iadd B dX8_endMessage_54 ?_
  refine z_fi (fun v_10 => ?_)
  refine z_put (ref := "FlowExporter$Sender") (C := RX8) (T := TX8) (N := 10) (ci := 10) (v := .int v_10) B hu_X8_endMessage_X8 tyX8 tyX8_ok nmX8 rfl 9 (Nat.le_of_ble_eq_true rfl) hv_X8_endMessage_41 rfl (Or.inl rfl) h_10 (Nat.le_trans hx (Nat.le_add_right x 74)) rfl rfl (Nat.le_of_ble_eq_true rfl) dX8_endMessage_55 (fun Φ6 hΦ3 => ?_)
  have h_11 : Φ6 (x + 74) = some (o_ 10 [.ref (x + 3), .ref (x + 46), .ref (x + 75), .ref (x + 77), .int (nI n_2), .ref (x + 78), .ref (x + 79), .int v_7, .long v_9, .int v_10]) := fset_at hΦ3
  have hI6 : In G x (ca) Φ6 := In.put (k := 74) hI5 hΦ3 (ok13 (k := 74) rfl ⟨n_2, v_7, v_9, v_10, rfl, (show n_2 ≤ 12 by omega)⟩)
  exact z_ret_v B dX8_endMessage_58 ⟨rfl, rfl, hI6, (fun b9 h9 => ((fset_fr hΦ3 (fun h8 => h9 (74) h8 (show 46 ≤ 74 ∧ 74 < 80 by decide))).trans ((fset_fr hΦ2 (fun h8 => h9 (74) h8 (show 46 ≤ 74 ∧ 74 < 80 by decide))).trans ((fset_fr hΦ1 (fun h8 => h9 (74) h8 (show 46 ≤ 74 ∧ 74 < 80 by decide))).trans ((hF3 b9 (fun j9 h8 h7 => h9 j9 h8 (fq_172 j9 h7))).trans ((hF2 b9 (fun j9 h8 h7 => h9 j9 h8 (show 46 ≤ j9 ∧ j9 < 80 by have h6 : j9 = k + 1 := h7; omega))).trans ((hF1 b9 (fun j9 h8 h7 => h9 j9 h8 (show 46 ≤ j9 ∧ j9 < 80 by have h6 : j9 = k + 1 := h7; omega))).trans rfl)))))))⟩

theorem hu_X8_sendPending_X8 : ∀ w ∈ u_ws RX8 TX8 10, w ∈ wsX8_sendPending := fun _ h => List.mem_cons_of_mem _ (List.mem_append_left _ (List.mem_append_left _ (List.mem_append_left _ (List.mem_append_left _ (List.mem_append_left _ (List.mem_append_right _ (h)))))))

theorem hv_X8_sendPending_24 : Cond.fieldLink RX8 24 "FlowExporter$Sender" (TX8 4).2.1 (TX8 4).2.2.1 ∈ wsX8_sendPending := List.mem_cons_of_mem _ (List.mem_append_left _ (List.mem_append_left _ (List.mem_append_left _ (List.mem_append_left _ (List.mem_append_left _ (List.mem_append_left _ (List.mem_append_left _ (List.mem_of_getElem? (i := 0) rfl))))))))

theorem fq_175 : ∀ j9 : Nat, (48 ≤ j9 ∧ j9 < 80) → (46 ≤ j9 ∧ j9 < 80) := by
  intro j9 h
  omega

theorem fq_176 : ∀ j9 : Nat, (j9 = 74 ∨ j9 = 75) → (46 ≤ j9 ∧ j9 < 80) := by
  intro j9 h
  omega

theorem hv_X8_sendPending_20 : Cond.fieldLink RX8 20 "FlowExporter$Sender" (TX8 3).2.1 (TX8 3).2.2.1 ∈ wsX8_sendPending := List.mem_cons_of_mem _ (List.mem_append_left _ (List.mem_append_left _ (List.mem_append_left _ (List.mem_append_left _ (List.mem_append_left _ (List.mem_append_left _ (List.mem_append_left _ (List.mem_of_getElem? (i := 1) rfl))))))))

theorem hv_X8_sendPending_44 : Cond.fieldLink RX8 44 "FlowExporter$Sender" (TX8 0).2.1 (TX8 0).2.2.1 ∈ wsX8_sendPending := List.mem_cons_of_mem _ (List.mem_append_left _ (List.mem_append_left _ (List.mem_append_left _ (List.mem_append_left _ (List.mem_append_left _ (List.mem_append_left _ (List.mem_append_left _ (List.mem_of_getElem? (i := 2) rfl))))))))

theorem hu_X8_sendPending_X10 : ∀ w ∈ u_ws RX10 TX10 4, w ∈ wsX8_sendPending := fun _ h => List.mem_cons_of_mem _ (List.mem_append_left _ (List.mem_append_left _ (List.mem_append_left _ (List.mem_append_left _ (List.mem_append_right _ (h))))))

theorem hv_X8_sendPending_114 : Cond.fieldLink RX8 114 "FlowExporter$Template" (TX10 3).2.1 (TX10 3).2.2.1 ∈ wsX8_sendPending := List.mem_cons_of_mem _ (List.mem_append_left _ (List.mem_append_left _ (List.mem_append_left _ (List.mem_append_left _ (List.mem_append_left _ (List.mem_append_left _ (List.mem_append_left _ (List.mem_of_getElem? (i := 3) rfl))))))))

theorem hu_X8_sendPending_X5 : ∀ w ∈ u_ws RX5 TX5 2, w ∈ wsX8_sendPending := fun _ h => List.mem_cons_of_mem _ (List.mem_append_left _ (List.mem_append_left _ (List.mem_append_left _ (List.mem_append_right _ (h)))))

theorem hv_X8_sendPending_61 : Cond.fieldLink RX8 61 "FlowExporter$Message" (TX5 1).2.1 (TX5 1).2.2.1 ∈ wsX8_sendPending := List.mem_cons_of_mem _ (List.mem_append_left _ (List.mem_append_left _ (List.mem_append_left _ (List.mem_append_left _ (List.mem_append_left _ (List.mem_append_left _ (List.mem_append_left _ (List.mem_of_getElem? (i := 4) rfl))))))))

theorem hv_X8_sendPending_14 : Cond.fieldLink RX8 14 "FlowExporter$Sender" (TX8 2).2.1 (TX8 2).2.2.1 ∈ wsX8_sendPending := List.mem_cons_of_mem _ (List.mem_append_left _ (List.mem_append_left _ (List.mem_append_left _ (List.mem_append_left _ (List.mem_append_left _ (List.mem_append_left _ (List.mem_append_left _ (List.mem_of_getElem? (i := 5) rfl))))))))

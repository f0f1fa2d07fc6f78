set_option maxRecDepth 20000 in
theorem ggX3_value_X3_partOf : GoodIn wsX3_value wsX3_partOf := goodIn_ca (goodIn_r _ [9, 10, 11] rfl (by decide +kernel)) (goodIn_sub (fun _ h => List.mem_cons_of_mem _ (List.mem_append_right _ h)) (by decide +kernel))
set_option maxRecDepth 20000 in
theorem gX3_value_X3_partOf : GoodIn wsX3_value (va_wsS RX3 38 yX3_partOf wsX3_partOf) := goodIn_app (goodIn_of _ (by decide +kernel)) ggX3_value_X3_partOf
theorem dX3_value_0 : decode cX3_value 0 = .ok (.iload_n 1, 1) := by decide +kernel
theorem dX3_value_1 : decode cX3_value 1 = .ok (.tableswitch 53 4 7 #[31, 36, 41, 47], 31) := by decide +kernel
theorem dX3_value_32 : decode cX3_value 32 = .ok (.aload_n 0, 1) := by decide +kernel
theorem dX3_value_33 : decode cX3_value 33 = .ok (.getfield 15, 3) := by decide +kernel
theorem dX3_value_36 : decode cX3_value 36 = .ok (.lreturn, 1) := by decide +kernel
theorem dX3_value_37 : decode cX3_value 37 = .ok (.aload_n 0, 1) := by decide +kernel
theorem dX3_value_38 : decode cX3_value 38 = .ok (.getfield 18, 3) := by decide +kernel
theorem dX3_value_41 : decode cX3_value 41 = .ok (.lreturn, 1) := by decide +kernel
theorem dX3_value_42 : decode cX3_value 42 = .ok (.aload_n 0, 1) := by decide +kernel
theorem dX3_value_43 : decode cX3_value 43 = .ok (.getfield 21, 3) := by decide +kernel
theorem dX3_value_46 : decode cX3_value 46 = .ok (.i2l, 1) := by decide +kernel
theorem dX3_value_47 : decode cX3_value 47 = .ok (.lreturn, 1) := by decide +kernel
theorem dX3_value_48 : decode cX3_value 48 = .ok (.aload_n 0, 1) := by decide +kernel
theorem dX3_value_49 : decode cX3_value 49 = .ok (.getfield 25, 3) := by decide +kernel
theorem dX3_value_52 : decode cX3_value 52 = .ok (.i2l, 1) := by decide +kernel
theorem dX3_value_53 : decode cX3_value 53 = .ok (.lreturn, 1) := by decide +kernel
theorem dX3_value_54 : decode cX3_value 54 = .ok (.aload_n 0, 1) := by decide +kernel
theorem dX3_value_55 : decode cX3_value 55 = .ok (.getfield 9, 3) := by decide +kernel
theorem dX3_value_58 : decode cX3_value 58 = .ok (.iload_n 1, 1) := by decide +kernel
theorem dX3_value_59 : decode cX3_value 59 = .ok (.invokestatic 38, 3) := by decide +kernel
theorem dX3_value_62 : decode cX3_value 62 = .ok (.i2l, 1) := by decide +kernel
theorem dX3_value_63 : decode cX3_value 63 = .ok (.lreturn, 1) := by decide +kernel
set_option maxRecDepth 20000 in
theorem ggX8_clear_X8_restart : GoodIn wsX8_clear wsX8_restart := goodIn_r _ [7, 8, 9, 10, 11, 6, 12, 13, 14, 15, 16, 17, 18, 19, 20, 21, 22, 23, 24, 25, 26, 27, 28, 29, 30, 31, 32, 33, 34, 35, 36] rfl (by decide +kernel)
set_option maxRecDepth 20000 in
theorem gX8_clear_X8_restart : GoodIn wsX8_clear (wsV RX8 52 RX8 yX8_restart wsX8_restart) := goodIn_app (goodIn_of _ (by decide +kernel)) ggX8_clear_X8_restart
theorem dX8_clear_0 : decode cX8_clear 0 = .ok (.aload_n 0, 1) := by decide +kernel
theorem dX8_clear_1 : decode cX8_clear 1 = .ok (.lconst 0, 1) := by decide +kernel
theorem dX8_clear_2 : decode cX8_clear 2 = .ok (.putfield 37, 3) := by decide +kernel
theorem dX8_clear_5 : decode cX8_clear 5 = .ok (.aload_n 0, 1) := by decide +kernel
theorem dX8_clear_6 : decode cX8_clear 6 = .ok (.iconst 0, 1) := by decide +kernel
theorem dX8_clear_7 : decode cX8_clear 7 = .ok (.putfield 34, 3) := by decide +kernel
theorem dX8_clear_10 : decode cX8_clear 10 = .ok (.aload_n 0, 1) := by decide +kernel
theorem dX8_clear_11 : decode cX8_clear 11 = .ok (.invokevirtual 52, 3) := by decide +kernel
theorem dX8_clear_14 : decode cX8_clear 14 = .ok (.return_, 1) := by decide +kernel
set_option maxRecDepth 20000 in
theorem ggX8_restart_X8_emptyPending : GoodIn wsX8_restart wsX8_emptyPending := goodIn_r _ [6, 7, 8, 9, 19, 20, 21, 22, 23, 24, 25, 26, 27, 28, 29, 30] rfl (by decide +kernel)
set_option maxRecDepth 20000 in
theorem gX8_restart_X8_emptyPending : GoodIn wsX8_restart (wsV RX8 55 RX8 yX8_emptyPending wsX8_emptyPending) := goodIn_app (goodIn_of _ (by decide +kernel)) ggX8_restart_X8_emptyPending
set_option maxRecDepth 20000 in
theorem ggX8_restart_X8_forgetTemplates : GoodIn wsX8_restart wsX8_forgetTemplates := goodIn_r _ [13, 14, 15, 16, 17, 18, 19, 20, 21, 22, 23, 24, 25, 26, 27, 28] rfl (by decide +kernel)
set_option maxRecDepth 20000 in
theorem gX8_restart_X8_forgetTemplates : GoodIn wsX8_restart (wsV RX8 58 RX8 yX8_forgetTemplates wsX8_forgetTemplates) := goodIn_app (goodIn_of _ (by decide +kernel)) ggX8_restart_X8_forgetTemplates
theorem dX8_restart_0 : decode cX8_restart 0 = .ok (.aload_n 0, 1) := by decide +kernel
theorem dX8_restart_1 : decode cX8_restart 1 = .ok (.invokevirtual 55, 3) := by decide +kernel
theorem dX8_restart_4 : decode cX8_restart 4 = .ok (.aload_n 0, 1) := by decide +kernel
theorem dX8_restart_5 : decode cX8_restart 5 = .ok (.iconst 0, 1) := by decide +kernel
theorem dX8_restart_6 : decode cX8_restart 6 = .ok (.putfield 41, 3) := by decide +kernel
theorem dX8_restart_9 : decode cX8_restart 9 = .ok (.aload_n 0, 1) := by decide +kernel
theorem dX8_restart_10 : decode cX8_restart 10 = .ok (.invokevirtual 58, 3) := by decide +kernel
theorem dX8_restart_13 : decode cX8_restart 13 = .ok (.return_, 1) := by decide +kernel
theorem dX8_emptyPending_0 : decode cX8_emptyPending 0 = .ok (.aload_n 0, 1) := by decide +kernel
theorem dX8_emptyPending_1 : decode cX8_emptyPending 1 = .ok (.getfield 14, 3) := by decide +kernel
theorem dX8_emptyPending_4 : decode cX8_emptyPending 4 = .ok (.iconst 0, 1) := by decide +kernel
theorem dX8_emptyPending_5 : decode cX8_emptyPending 5 = .ok (.putfield 61, 3) := by decide +kernel
theorem dX8_emptyPending_8 : decode cX8_emptyPending 8 = .ok (.aload_n 0, 1) := by decide +kernel
theorem dX8_emptyPending_9 : decode cX8_emptyPending 9 = .ok (.iconst 0, 1) := by decide +kernel
theorem dX8_emptyPending_10 : decode cX8_emptyPending 10 = .ok (.putfield 24, 3) := by decide +kernel
theorem dX8_emptyPending_13 : decode cX8_emptyPending 13 = .ok (.return_, 1) := by decide +kernel
set_option maxRecDepth 20000 in
theorem ggX8_forgetTemplates_J7_fill_53178 : GoodIn wsX8_forgetTemplates wsJ7_fill_53178 := goodIn_r _ [5] rfl (by decide +kernel)
set_option maxRecDepth 20000 in
theorem gX8_forgetTemplates_J7_fill_53178 : GoodIn wsX8_forgetTemplates (va_wsS RX8 64 yJ7_fill_53178 wsJ7_fill_53178) := goodIn_app (goodIn_of _ (by decide +kernel)) ggX8_forgetTemplates_J7_fill_53178
theorem dX8_forgetTemplates_0 : decode cX8_forgetTemplates 0 = .ok (.aload_n 0, 1) := by decide +kernel
theorem dX8_forgetTemplates_1 : decode cX8_forgetTemplates 1 = .ok (.getfield 28, 3) := by decide +kernel
theorem dX8_forgetTemplates_4 : decode cX8_forgetTemplates 4 = .ok (.iconst 0, 1) := by decide +kernel
theorem dX8_forgetTemplates_5 : decode cX8_forgetTemplates 5 = .ok (.invokestatic 64, 3) := by decide +kernel
theorem dX8_forgetTemplates_8 : decode cX8_forgetTemplates 8 = .ok (.return_, 1) := by decide +kernel
set_option maxRecDepth 20000 in
theorem ggX8_forgetTemplatesWith_X1_template : GoodIn wsX8_forgetTemplatesWith wsX1_template := goodIn_r _ [7, 8, 25, 26, 27, 28, 29, 30] rfl (by decide +kernel)
set_option maxRecDepth 20000 in
theorem gX8_forgetTemplatesWith_X1_template : GoodIn wsX8_forgetTemplatesWith (wsV RX8 70 RX1 yX1_template wsX1_template) := goodIn_app (goodIn_of _ (by decide +kernel)) ggX8_forgetTemplatesWith_X1_template
set_option maxRecDepth 20000 in
theorem ggX8_forgetTemplatesWith_X10_has : GoodIn wsX8_forgetTemplatesWith wsX10_has := goodIn_r _ [13, 14, 31, 32, 33, 34] rfl (by decide +kernel)
set_option maxRecDepth 20000 in
theorem gX8_forgetTemplatesWith_X10_has : GoodIn wsX8_forgetTemplatesWith (wsV RX8 76 RX10 yX10_has wsX10_has) := goodIn_app (goodIn_of _ (by decide +kernel)) ggX8_forgetTemplatesWith_X10_has
theorem dX8_forgetTemplatesWith_0 : decode cX8_forgetTemplatesWith 0 = .ok (.iconst 0, 1) := by decide +kernel
theorem dX8_forgetTemplatesWith_1 : decode cX8_forgetTemplatesWith 1 = .ok (.istore_n 2, 1) := by decide +kernel
theorem dX8_forgetTemplatesWith_2 : decode cX8_forgetTemplatesWith 2 = .ok (.iload_n 2, 1) := by decide +kernel
theorem dX8_forgetTemplatesWith_3 : decode cX8_forgetTemplatesWith 3 = .ok (.iconst 4, 1) := by decide +kernel
theorem dX8_forgetTemplatesWith_4 : decode cX8_forgetTemplatesWith 4 = .ok (.if_icmp .ge 31, 3) := by decide +kernel
theorem dX8_forgetTemplatesWith_7 : decode cX8_forgetTemplatesWith 7 = .ok (.aload_n 0, 1) := by decide +kernel
theorem dX8_forgetTemplatesWith_8 : decode cX8_forgetTemplatesWith 8 = .ok (.getfield 44, 3) := by decide +kernel
theorem dX8_forgetTemplatesWith_11 : decode cX8_forgetTemplatesWith 11 = .ok (.iload_n 2, 1) := by decide +kernel
theorem dX8_forgetTemplatesWith_12 : decode cX8_forgetTemplatesWith 12 = .ok (.invokevirtual 70, 3) := by decide +kernel
theorem dX8_forgetTemplatesWith_15 : decode cX8_forgetTemplatesWith 15 = .ok (.iload_n 1, 1) := by decide +kernel
theorem dX8_forgetTemplatesWith_16 : decode cX8_forgetTemplatesWith 16 = .ok (.invokevirtual 76, 3) := by decide +kernel
theorem dX8_forgetTemplatesWith_19 : decode cX8_forgetTemplatesWith 19 = .ok (.ifCond .eq 10, 3) := by decide +kernel
theorem dX8_forgetTemplatesWith_22 : decode cX8_forgetTemplatesWith 22 = .ok (.aload_n 0, 1) := by decide +kernel
theorem dX8_forgetTemplatesWith_23 : decode cX8_forgetTemplatesWith 23 = .ok (.getfield 28, 3) := by decide +kernel
theorem dX8_forgetTemplatesWith_26 : decode cX8_forgetTemplatesWith 26 = .ok (.iload_n 2, 1) := by decide +kernel
theorem dX8_forgetTemplatesWith_27 : decode cX8_forgetTemplatesWith 27 = .ok (.iconst 0, 1) := by decide +kernel
theorem dX8_forgetTemplatesWith_28 : decode cX8_forgetTemplatesWith 28 = .ok (.iastore, 1) := by decide +kernel
theorem dX8_forgetTemplatesWith_29 : decode cX8_forgetTemplatesWith 29 = .ok (.iinc 2 1, 3) := by decide +kernel
theorem dX8_forgetTemplatesWith_32 : decode cX8_forgetTemplatesWith 32 = .ok (.goto (-30), 3) := by decide +kernel
theorem dX8_forgetTemplatesWith_35 : decode cX8_forgetTemplatesWith 35 = .ok (.return_, 1) := by decide +kernel
set_option maxRecDepth 20000 in
theorem ggX8_mustSend_X1_effective : GoodIn wsX8_mustSend wsX1_effective := goodIn_r _ [10, 11, 31, 32, 33, 34, 35, 36] rfl (by decide +kernel)
set_option maxRecDepth 20000 in
theorem gX8_mustSend_X1_effective : GoodIn wsX8_mustSend (wsV RX8 82 RX1 yX1_effective wsX1_effective) := goodIn_app (goodIn_of _ (by decide +kernel)) ggX8_mustSend_X1_effective
set_option maxRecDepth 20000 in
theorem ggX8_mustSend_X1_get : GoodIn wsX8_mustSend wsX1_get := goodIn_ca (goodIn_r _ [15, 16, 31, 32, 33, 34, 35, 36] rfl (by decide +kernel)) (goodIn_sub (fun _ h => List.mem_cons_of_mem _ (List.mem_append_right _ h)) (by decide +kernel))
set_option maxRecDepth 20000 in
theorem gX8_mustSend_X1_get : GoodIn wsX8_mustSend (wsV RX8 88 RX1 yX1_get wsX1_get) := goodIn_app (goodIn_of _ (by decide +kernel)) ggX8_mustSend_X1_get
theorem dX8_mustSend_0 : decode cX8_mustSend 0 = .ok (.iload_n 1, 1) := by decide +kernel
theorem dX8_mustSend_1 : decode cX8_mustSend 1 = .ok (.ifCond .lt 22, 3) := by decide +kernel
theorem dX8_mustSend_4 : decode cX8_mustSend 4 = .ok (.iload_n 1, 1) := by decide +kernel
theorem dX8_mustSend_5 : decode cX8_mustSend 5 = .ok (.iconst 4, 1) := by decide +kernel
theorem dX8_mustSend_6 : decode cX8_mustSend 6 = .ok (.if_icmp .ge 17, 3) := by decide +kernel
theorem dX8_mustSend_9 : decode cX8_mustSend 9 = .ok (.aload_n 0, 1) := by decide +kernel
theorem dX8_mustSend_10 : decode cX8_mustSend 10 = .ok (.getfield 44, 3) := by decide +kernel
theorem dX8_mustSend_13 : decode cX8_mustSend 13 = .ok (.iload_n 1, 1) := by decide +kernel
theorem dX8_mustSend_14 : decode cX8_mustSend 14 = .ok (.invokevirtual 82, 3) := by decide +kernel
theorem dX8_mustSend_17 : decode cX8_mustSend 17 = .ok (.getfield 85, 3) := by decide +kernel
theorem dX8_mustSend_20 : decode cX8_mustSend 20 = .ok (.ifCond .ne 5, 3) := by decide +kernel
theorem dX8_mustSend_23 : decode cX8_mustSend 23 = .ok (.iconst 0, 1) := by decide +kernel
theorem dX8_mustSend_24 : decode cX8_mustSend 24 = .ok (.ireturn, 1) := by decide +kernel
theorem dX8_mustSend_25 : decode cX8_mustSend 25 = .ok (.aload_n 0, 1) := by decide +kernel
theorem dX8_mustSend_26 : decode cX8_mustSend 26 = .ok (.getfield 28, 3) := by decide +kernel
theorem dX8_mustSend_29 : decode cX8_mustSend 29 = .ok (.iload_n 1, 1) := by decide +kernel
theorem dX8_mustSend_30 : decode cX8_mustSend 30 = .ok (.iaload, 1) := by decide +kernel
theorem dX8_mustSend_31 : decode cX8_mustSend 31 = .ok (.ifCond .eq 44, 3) := by decide +kernel
theorem dX8_mustSend_34 : decode cX8_mustSend 34 = .ok (.aload_n 0, 1) := by decide +kernel
theorem dX8_mustSend_35 : decode cX8_mustSend 35 = .ok (.getfield 34, 3) := by decide +kernel
theorem dX8_mustSend_38 : decode cX8_mustSend 38 = .ok (.aload_n 0, 1) := by decide +kernel
theorem dX8_mustSend_39 : decode cX8_mustSend 39 = .ok (.getfield 28, 3) := by decide +kernel
theorem dX8_mustSend_42 : decode cX8_mustSend 42 = .ok (.iload_n 1, 1) := by decide +kernel
theorem dX8_mustSend_43 : decode cX8_mustSend 43 = .ok (.iaload, 1) := by decide +kernel
theorem dX8_mustSend_44 : decode cX8_mustSend 44 = .ok (.isub, 1) := by decide +kernel
theorem dX8_mustSend_45 : decode cX8_mustSend 45 = .ok (.aload_n 0, 1) := by decide +kernel
theorem dX8_mustSend_46 : decode cX8_mustSend 46 = .ok (.getfield 44, 3) := by decide +kernel
theorem dX8_mustSend_49 : decode cX8_mustSend 49 = .ok (.iconst 4, 1) := by decide +kernel
theorem dX8_mustSend_50 : decode cX8_mustSend 50 = .ok (.invokevirtual 88, 3) := by decide +kernel
theorem dX8_mustSend_53 : decode cX8_mustSend 53 = .ok (.if_icmp .ge 22, 3) := by decide +kernel
theorem dX8_mustSend_56 : decode cX8_mustSend 56 = .ok (.iload_n 2, 1) := by decide +kernel
theorem dX8_mustSend_57 : decode cX8_mustSend 57 = .ok (.aload_n 0, 1) := by decide +kernel
theorem dX8_mustSend_58 : decode cX8_mustSend 58 = .ok (.getfield 31, 3) := by decide +kernel
theorem dX8_mustSend_61 : decode cX8_mustSend 61 = .ok (.iload_n 1, 1) := by decide +kernel
theorem dX8_mustSend_62 : decode cX8_mustSend 62 = .ok (.iaload, 1) := by decide +kernel
theorem dX8_mustSend_63 : decode cX8_mustSend 63 = .ok (.isub, 1) := by decide +kernel
theorem dX8_mustSend_64 : decode cX8_mustSend 64 = .ok (.aload_n 0, 1) := by decide +kernel
theorem dX8_mustSend_65 : decode cX8_mustSend 65 = .ok (.getfield 44, 3) := by decide +kernel
theorem dX8_mustSend_68 : decode cX8_mustSend 68 = .ok (.iconst 5, 1) := by decide +kernel
theorem dX8_mustSend_69 : decode cX8_mustSend 69 = .ok (.invokevirtual 88, 3) := by decide +kernel
theorem dX8_mustSend_72 : decode cX8_mustSend 72 = .ok (.if_icmp .lt 7, 3) := by decide +kernel
theorem dX8_mustSend_75 : decode cX8_mustSend 75 = .ok (.iconst 1, 1) := by decide +kernel
theorem dX8_mustSend_76 : decode cX8_mustSend 76 = .ok (.goto 4, 3) := by decide +kernel
theorem dX8_mustSend_79 : decode cX8_mustSend 79 = .ok (.iconst 0, 1) := by decide +kernel
theorem dX8_mustSend_80 : decode cX8_mustSend 80 = .ok (.ireturn, 1) := by decide +kernel
set_option maxRecDepth 20000 in
theorem ggX8_addRecord_X1_effective : GoodIn wsX8_addRecord wsX1_effective := goodIn_r _ [11, 12, 60, 61, 62, 63, 64, 65] rfl (by decide +kernel)
set_option maxRecDepth 20000 in
theorem gX8_addRecord_X1_effective : GoodIn wsX8_addRecord (wsV RX8 82 RX1 yX1_effective wsX1_effective) := goodIn_app (goodIn_of _ (by decide +kernel)) ggX8_addRecord_X1_effective
set_option maxRecDepth 20000 in
theorem ggX8_addRecord_X10_field : GoodIn wsX8_addRecord wsX10_field := goodIn_ca (goodIn_r _ [17, 18, 19, 56, 57, 58, 59] rfl (by decide +kernel)) (goodIn_sub (fun _ h => List.mem_cons_of_mem _ (List.mem_append_right _ h)) (by decide +kernel))
set_option maxRecDepth 20000 in
theorem gX8_addRecord_X10_field : GoodIn wsX8_addRecord (wsV RX8 92 RX10 yX10_field wsX10_field) := goodIn_app (goodIn_of _ (by decide +kernel)) ggX8_addRecord_X10_field
set_option maxRecDepth 20000 in
theorem ggX8_addRecord_X3_value : GoodIn wsX8_addRecord wsX3_value := goodIn_ca (goodIn_r _ [24, 25, 26, 27, 28, 29, 30, 31, 23, 32, 33, 34, 66, 67, 68, 69, 70] rfl (by decide +kernel)) (goodIn_sub (fun _ h => List.mem_cons_of_mem _ (List.mem_append_right _ h)) (by decide +kernel))
set_option maxRecDepth 20000 in
theorem gX8_addRecord_X3_value : GoodIn wsX8_addRecord (wsV RX8 95 RX3 yX3_value wsX3_value) := goodIn_app (goodIn_of _ (by decide +kernel)) ggX8_addRecord_X3_value
set_option maxRecDepth 20000 in
theorem ggX8_addRecord_X11_lengthOf : GoodIn wsX8_addRecord wsX11_lengthOf := goodIn_ca (goodIn_r _ [37, 38] rfl (by decide +kernel)) (goodIn_sub (fun _ h => List.mem_cons_of_mem _ (List.mem_append_right _ h)) (by decide +kernel))
set_option maxRecDepth 20000 in
theorem gX8_addRecord_X11_lengthOf_n103 : GoodIn wsX8_addRecord (wsX11_lengthOf) := ggX8_addRecord_X11_lengthOf
set_option maxRecDepth 20000 in
theorem ggX8_addRecord_X5_put : GoodIn wsX8_addRecord wsX5_put := goodIn_ca (goodIn_r _ [43, 44, 45, 71, 72] rfl (by decide +kernel)) (goodIn_sub (fun _ h => List.mem_cons_of_mem _ (List.mem_append_right _ h)) (by decide +kernel))
set_option maxRecDepth 20000 in
theorem gX8_addRecord_X5_put : GoodIn wsX8_addRecord (wsV RX8 106 RX5 yX5_put wsX5_put) := goodIn_app (goodIn_of _ (by decide +kernel)) ggX8_addRecord_X5_put
theorem dX8_addRecord_0 : decode cX8_addRecord 0 = .ok (.aload_n 0, 1) := by decide +kernel
theorem dX8_addRecord_1 : decode cX8_addRecord 1 = .ok (.getfield 24, 3) := by decide +kernel
theorem dX8_addRecord_4 : decode cX8_addRecord 4 = .ok (.aload_n 0, 1) := by decide +kernel
theorem dX8_addRecord_5 : decode cX8_addRecord 5 = .ok (.getfield 20, 3) := by decide +kernel
theorem dX8_addRecord_8 : decode cX8_addRecord 8 = .ok (.arraylength, 1) := by decide +kernel
theorem dX8_addRecord_9 : decode cX8_addRecord 9 = .ok (.if_icmp .lt 4, 3) := by decide +kernel
theorem dX8_addRecord_12 : decode cX8_addRecord 12 = .ok (.return_, 1) := by decide +kernel
theorem dX8_addRecord_13 : decode cX8_addRecord 13 = .ok (.aload_n 0, 1) := by decide +kernel
theorem dX8_addRecord_14 : decode cX8_addRecord 14 = .ok (.getfield 20, 3) := by decide +kernel
theorem dX8_addRecord_17 : decode cX8_addRecord 17 = .ok (.aload_n 0, 1) := by decide +kernel
theorem dX8_addRecord_18 : decode cX8_addRecord 18 = .ok (.getfield 24, 3) := by decide +kernel
theorem dX8_addRecord_21 : decode cX8_addRecord 21 = .ok (.iload_n 2, 1) := by decide +kernel
theorem dX8_addRecord_22 : decode cX8_addRecord 22 = .ok (.iastore, 1) := by decide +kernel
theorem dX8_addRecord_23 : decode cX8_addRecord 23 = .ok (.aload_n 0, 1) := by decide +kernel
theorem dX8_addRecord_24 : decode cX8_addRecord 24 = .ok (.dup, 1) := by decide +kernel
theorem dX8_addRecord_25 : decode cX8_addRecord 25 = .ok (.getfield 24, 3) := by decide +kernel
theorem dX8_addRecord_28 : decode cX8_addRecord 28 = .ok (.iconst 1, 1) := by decide +kernel
theorem dX8_addRecord_29 : decode cX8_addRecord 29 = .ok (.iadd, 1) := by decide +kernel
theorem dX8_addRecord_30 : decode cX8_addRecord 30 = .ok (.putfield 24, 3) := by decide +kernel
theorem dX8_addRecord_33 : decode cX8_addRecord 33 = .ok (.aload_n 0, 1) := by decide +kernel
theorem dX8_addRecord_34 : decode cX8_addRecord 34 = .ok (.getfield 44, 3) := by decide +kernel
theorem dX8_addRecord_37 : decode cX8_addRecord 37 = .ok (.iload_n 2, 1) := by decide +kernel
theorem dX8_addRecord_38 : decode cX8_addRecord 38 = .ok (.invokevirtual 82, 3) := by decide +kernel
theorem dX8_addRecord_41 : decode cX8_addRecord 41 = .ok (.astore 4, 2) := by decide +kernel
theorem dX8_addRecord_43 : decode cX8_addRecord 43 = .ok (.iconst 0, 1) := by decide +kernel
theorem dX8_addRecord_44 : decode cX8_addRecord 44 = .ok (.istore 5, 2) := by decide +kernel
theorem dX8_addRecord_46 : decode cX8_addRecord 46 = .ok (.iload 5, 2) := by decide +kernel
theorem dX8_addRecord_48 : decode cX8_addRecord 48 = .ok (.aload 4, 2) := by decide +kernel
theorem dX8_addRecord_50 : decode cX8_addRecord 50 = .ok (.getfield 85, 3) := by decide +kernel
theorem dX8_addRecord_53 : decode cX8_addRecord 53 = .ok (.if_icmp .ge 56, 3) := by decide +kernel
theorem dX8_addRecord_56 : decode cX8_addRecord 56 = .ok (.aload 4, 2) := by decide +kernel
theorem dX8_addRecord_58 : decode cX8_addRecord 58 = .ok (.iload 5, 2) := by decide +kernel
theorem dX8_addRecord_60 : decode cX8_addRecord 60 = .ok (.invokevirtual 92, 3) := by decide +kernel
theorem dX8_addRecord_63 : decode cX8_addRecord 63 = .ok (.istore 6, 2) := by decide +kernel
theorem dX8_addRecord_65 : decode cX8_addRecord 65 = .ok (.iload 6, 2) := by decide +kernel
theorem dX8_addRecord_67 : decode cX8_addRecord 67 = .ok (.bipush 8, 2) := by decide +kernel
theorem dX8_addRecord_69 : decode cX8_addRecord 69 = .ok (.if_icmp .ne 8, 3) := by decide +kernel
theorem dX8_addRecord_72 : decode cX8_addRecord 72 = .ok (.iload_n 3, 1) := by decide +kernel
theorem dX8_addRecord_73 : decode cX8_addRecord 73 = .ok (.i2l, 1) := by decide +kernel
theorem dX8_addRecord_74 : decode cX8_addRecord 74 = .ok (.goto 9, 3) := by decide +kernel
theorem dX8_addRecord_77 : decode cX8_addRecord 77 = .ok (.aload_n 1, 1) := by decide +kernel
theorem dX8_addRecord_78 : decode cX8_addRecord 78 = .ok (.iload 6, 2) := by decide +kernel
theorem dX8_addRecord_80 : decode cX8_addRecord 80 = .ok (.invokevirtual 95, 3) := by decide +kernel
theorem dX8_addRecord_83 : decode cX8_addRecord 83 = .ok (.lstore 7, 2) := by decide +kernel
theorem dX8_addRecord_85 : decode cX8_addRecord 85 = .ok (.aload_n 0, 1) := by decide +kernel
theorem dX8_addRecord_86 : decode cX8_addRecord 86 = .ok (.getfield 14, 3) := by decide +kernel
theorem dX8_addRecord_89 : decode cX8_addRecord 89 = .ok (.lload 7, 2) := by decide +kernel
theorem dX8_addRecord_91 : decode cX8_addRecord 91 = .ok (.ldc2_w 101, 3) := by decide +kernel
theorem dX8_addRecord_94 : decode cX8_addRecord 94 = .ok (.land, 1) := by decide +kernel
theorem dX8_addRecord_95 : decode cX8_addRecord 95 = .ok (.iload 6, 2) := by decide +kernel
theorem dX8_addRecord_97 : decode cX8_addRecord 97 = .ok (.invokestatic 103, 3) := by decide +kernel
theorem dX8_addRecord_100 : decode cX8_addRecord 100 = .ok (.invokevirtual 106, 3) := by decide +kernel
theorem dX8_addRecord_103 : decode cX8_addRecord 103 = .ok (.iinc 5 1, 3) := by decide +kernel
theorem dX8_addRecord_106 : decode cX8_addRecord 106 = .ok (.goto (-60), 3) := by decide +kernel
theorem dX8_addRecord_109 : decode cX8_addRecord 109 = .ok (.return_, 1) := by decide +kernel
set_option maxRecDepth 20000 in
theorem ggX8_beginMessage_X7_freeMessage : GoodIn wsX8_beginMessage wsX7_freeMessage := goodIn_r _ [8, 9, 10, 11, 12, 13, 7, 14, 15, 79, 80, 81, 82, 83] rfl (by decide +kernel)
set_option maxRecDepth 20000 in
theorem gX8_beginMessage_X7_freeMessage : GoodIn wsX8_beginMessage (wsV RX8 129 RX7 yX7_freeMessage wsX7_freeMessage) := goodIn_app (goodIn_of _ (by decide +kernel)) ggX8_beginMessage_X7_freeMessage
set_option maxRecDepth 20000 in
theorem ggX8_beginMessage_X5_put : GoodIn wsX8_beginMessage wsX5_put := goodIn_ca (goodIn_r _ [20, 21, 22, 82, 83] rfl (by decide +kernel)) (goodIn_sub (fun _ h => List.mem_cons_of_mem _ (List.mem_append_right _ h)) (by decide +kernel))
set_option maxRecDepth 20000 in
theorem gX8_beginMessage_X5_put : GoodIn wsX8_beginMessage (wsV RX8 106 RX5 yX5_put wsX5_put) := goodIn_app (goodIn_of _ (by decide +kernel)) ggX8_beginMessage_X5_put
set_option maxRecDepth 20000 in
theorem ggX8_beginMessage_X8_putTemplateSet : GoodIn wsX8_beginMessage wsX8_putTemplateSet := goodIn_ca (goodIn_r _ [27, 28, 29, 30, 31, 32, 33, 34, 35, 26, 36, 37, 38, 39, 40, 41, 42, 43, 44, 45, 46, 47, 48, 49, 16, 17, 18, 19, 20, 21, 22, 50, 51, 52, 53, 54, 55, 56, 57, 58, 59, 60, 61, 62, 63, 64, 65, 66, 67, 68, 82, 83, 69, 70, 71, 72, 73, 74, 75, 76, 77, 78, 84, 85, 86, 87, 88, 89, 90, 91, 92, 93] rfl (by decide +kernel)) (goodIn_sub (fun _ h => List.mem_cons_of_mem _ (List.mem_append_right _ h)) (by decide +kernel))
set_option maxRecDepth 20000 in
theorem gX8_beginMessage_X8_putTemplateSet : GoodIn wsX8_beginMessage (wsV RX8 137 RX8 yX8_putTemplateSet wsX8_putTemplateSet) := goodIn_app (goodIn_of _ (by decide +kernel)) ggX8_beginMessage_X8_putTemplateSet
theorem dX8_beginMessage_0 : decode cX8_beginMessage 0 = .ok (.aload_n 0, 1) := by decide +kernel
theorem dX8_beginMessage_1 : decode cX8_beginMessage 1 = .ok (.getfield 48, 3) := by decide +kernel
theorem dX8_beginMessage_4 : decode cX8_beginMessage 4 = .ok (.invokevirtual 129, 3) := by decide +kernel
theorem dX8_beginMessage_7 : decode cX8_beginMessage 7 = .ok (.astore_n 2, 1) := by decide +kernel
theorem dX8_beginMessage_8 : decode cX8_beginMessage 8 = .ok (.aload_n 2, 1) := by decide +kernel
theorem dX8_beginMessage_9 : decode cX8_beginMessage 9 = .ok (.ldc2_w 135, 3) := by decide +kernel
theorem dX8_beginMessage_12 : decode cX8_beginMessage 12 = .ok (.iconst 2, 1) := by decide +kernel
theorem dX8_beginMessage_13 : decode cX8_beginMessage 13 = .ok (.invokevirtual 106, 3) := by decide +kernel
theorem dX8_beginMessage_16 : decode cX8_beginMessage 16 = .ok (.aload_n 2, 1) := by decide +kernel
theorem dX8_beginMessage_17 : decode cX8_beginMessage 17 = .ok (.lconst 0, 1) := by decide +kernel
theorem dX8_beginMessage_18 : decode cX8_beginMessage 18 = .ok (.iconst 2, 1) := by decide +kernel
theorem dX8_beginMessage_19 : decode cX8_beginMessage 19 = .ok (.invokevirtual 106, 3) := by decide +kernel
theorem dX8_beginMessage_22 : decode cX8_beginMessage 22 = .ok (.aload_n 2, 1) := by decide +kernel
theorem dX8_beginMessage_23 : decode cX8_beginMessage 23 = .ok (.iload_n 1, 1) := by decide +kernel
theorem dX8_beginMessage_24 : decode cX8_beginMessage 24 = .ok (.i2l, 1) := by decide +kernel
theorem dX8_beginMessage_25 : decode cX8_beginMessage 25 = .ok (.iconst 4, 1) := by decide +kernel
theorem dX8_beginMessage_26 : decode cX8_beginMessage 26 = .ok (.invokevirtual 106, 3) := by decide +kernel
theorem dX8_beginMessage_29 : decode cX8_beginMessage 29 = .ok (.aload_n 2, 1) := by decide +kernel
theorem dX8_beginMessage_30 : decode cX8_beginMessage 30 = .ok (.aload_n 0, 1) := by decide +kernel
theorem dX8_beginMessage_31 : decode cX8_beginMessage 31 = .ok (.getfield 41, 3) := by decide +kernel
theorem dX8_beginMessage_34 : decode cX8_beginMessage 34 = .ok (.i2l, 1) := by decide +kernel
theorem dX8_beginMessage_35 : decode cX8_beginMessage 35 = .ok (.iconst 4, 1) := by decide +kernel
theorem dX8_beginMessage_36 : decode cX8_beginMessage 36 = .ok (.invokevirtual 106, 3) := by decide +kernel
theorem dX8_beginMessage_39 : decode cX8_beginMessage 39 = .ok (.aload_n 2, 1) := by decide +kernel
theorem dX8_beginMessage_40 : decode cX8_beginMessage 40 = .ok (.lconst 0, 1) := by decide +kernel
theorem dX8_beginMessage_41 : decode cX8_beginMessage 41 = .ok (.iconst 4, 1) := by decide +kernel
theorem dX8_beginMessage_42 : decode cX8_beginMessage 42 = .ok (.invokevirtual 106, 3) := by decide +kernel
theorem dX8_beginMessage_45 : decode cX8_beginMessage 45 = .ok (.aload_n 0, 1) := by decide +kernel
theorem dX8_beginMessage_46 : decode cX8_beginMessage 46 = .ok (.aload_n 2, 1) := by decide +kernel
theorem dX8_beginMessage_47 : decode cX8_beginMessage 47 = .ok (.iload_n 1, 1) := by decide +kernel
theorem dX8_beginMessage_48 : decode cX8_beginMessage 48 = .ok (.invokevirtual 137, 3) := by decide +kernel
theorem dX8_beginMessage_51 : decode cX8_beginMessage 51 = .ok (.aload_n 2, 1) := by decide +kernel
theorem dX8_beginMessage_52 : decode cX8_beginMessage 52 = .ok (.areturn, 1) := by decide +kernel
set_option maxRecDepth 20000 in
theorem ggX8_putTemplateSet_X8_mustSend : GoodIn wsX8_putTemplateSet wsX8_mustSend := goodIn_ca (goodIn_r _ [10, 11, 12, 3, 4, 5, 13, 14, 15, 16, 17, 18, 19, 20, 21, 22, 23, 52, 53, 54, 55, 56, 57, 58, 59, 60, 61, 62, 63, 64, 65, 66, 67, 68, 69, 70, 71] rfl (by decide +kernel)) (goodIn_sub (fun _ h => List.mem_cons_of_mem _ (List.mem_append_right _ h)) (by decide +kernel))
set_option maxRecDepth 20000 in
theorem gX8_putTemplateSet_X8_mustSend : GoodIn wsX8_putTemplateSet (wsV RX8 143 RX8 yX8_mustSend wsX8_mustSend) := goodIn_app (goodIn_of _ (by decide +kernel)) ggX8_putTemplateSet_X8_mustSend
set_option maxRecDepth 20000 in
theorem ggX8_putTemplateSet_X5_put : GoodIn wsX8_putTemplateSet wsX5_put := goodIn_ca (goodIn_r _ [28, 29, 30, 50, 51] rfl (by decide +kernel)) (goodIn_sub (fun _ h => List.mem_cons_of_mem _ (List.mem_append_right _ h)) (by decide +kernel))
set_option maxRecDepth 20000 in
theorem gX8_putTemplateSet_X5_put : GoodIn wsX8_putTemplateSet (wsV RX8 106 RX5 yX5_put wsX5_put) := goodIn_app (goodIn_of _ (by decide +kernel)) ggX8_putTemplateSet_X5_put
set_option maxRecDepth 20000 in
theorem ggX8_putTemplateSet_X8_putTemplate : GoodIn wsX8_putTemplateSet wsX8_putTemplate := goodIn_ca (goodIn_r _ [34, 11, 12, 13, 14, 15, 16, 17, 18, 24, 25, 26, 27, 28, 29, 30, 35, 36, 37, 38, 39, 40, 41, 42, 43, 44, 45, 52, 53, 54, 55, 56, 57, 58, 59, 60, 61, 62, 63, 64, 65, 66, 67, 68, 69, 70, 71, 50, 51] rfl (by decide +kernel)) (goodIn_sub (fun _ h => List.mem_cons_of_mem _ (List.mem_append_right _ h)) (by decide +kernel))
set_option maxRecDepth 20000 in
theorem gX8_putTemplateSet_X8_putTemplate : GoodIn wsX8_putTemplateSet (wsV RX8 149 RX8 yX8_putTemplate wsX8_putTemplate) := goodIn_app (goodIn_of _ (by decide +kernel)) ggX8_putTemplateSet_X8_putTemplate
set_option maxRecDepth 20000 in
theorem ggX8_putTemplateSet_X5_putAt : GoodIn wsX8_putTemplateSet wsX5_putAt := goodIn_ca (goodIn_r _ [49, 29, 30, 50, 51] rfl (by decide +kernel)) (goodIn_sub (fun _ h => List.mem_cons_of_mem _ (List.mem_append_right _ h)) (by decide +kernel))
set_option maxRecDepth 20000 in
theorem gX8_putTemplateSet_X5_putAt : GoodIn wsX8_putTemplateSet (wsV RX8 125 RX5 yX5_putAt wsX5_putAt) := goodIn_app (goodIn_of _ (by decide +kernel)) ggX8_putTemplateSet_X5_putAt
theorem dX8_putTemplateSet_0 : decode cX8_putTemplateSet 0 = .ok (.aload_n 1, 1) := by decide +kernel
theorem dX8_putTemplateSet_1 : decode cX8_putTemplateSet 1 = .ok (.getfield 61, 3) := by decide +kernel
theorem dX8_putTemplateSet_4 : decode cX8_putTemplateSet 4 = .ok (.istore_n 3, 1) := by decide +kernel
theorem dX8_putTemplateSet_5 : decode cX8_putTemplateSet 5 = .ok (.iconst 0, 1) := by decide +kernel
theorem dX8_putTemplateSet_6 : decode cX8_putTemplateSet 6 = .ok (.istore 4, 2) := by decide +kernel
theorem dX8_putTemplateSet_8 : decode cX8_putTemplateSet 8 = .ok (.iload 4, 2) := by decide +kernel
theorem dX8_putTemplateSet_10 : decode cX8_putTemplateSet 10 = .ok (.iconst 4, 1) := by decide +kernel
theorem dX8_putTemplateSet_11 : decode cX8_putTemplateSet 11 = .ok (.if_icmp .ge 69, 3) := by decide +kernel
theorem dX8_putTemplateSet_14 : decode cX8_putTemplateSet 14 = .ok (.aload_n 0, 1) := by decide +kernel
theorem dX8_putTemplateSet_15 : decode cX8_putTemplateSet 15 = .ok (.iload 4, 2) := by decide +kernel
theorem dX8_putTemplateSet_17 : decode cX8_putTemplateSet 17 = .ok (.iload_n 2, 1) := by decide +kernel
theorem dX8_putTemplateSet_18 : decode cX8_putTemplateSet 18 = .ok (.invokevirtual 143, 3) := by decide +kernel
theorem dX8_putTemplateSet_21 : decode cX8_putTemplateSet 21 = .ok (.ifCond .eq 53, 3) := by decide +kernel
theorem dX8_putTemplateSet_24 : decode cX8_putTemplateSet 24 = .ok (.aload_n 1, 1) := by decide +kernel
theorem dX8_putTemplateSet_25 : decode cX8_putTemplateSet 25 = .ok (.getfield 61, 3) := by decide +kernel
theorem dX8_putTemplateSet_28 : decode cX8_putTemplateSet 28 = .ok (.iload_n 3, 1) := by decide +kernel
theorem dX8_putTemplateSet_29 : decode cX8_putTemplateSet 29 = .ok (.if_icmp .ne 17, 3) := by decide +kernel
theorem dX8_putTemplateSet_32 : decode cX8_putTemplateSet 32 = .ok (.aload_n 1, 1) := by decide +kernel
theorem dX8_putTemplateSet_33 : decode cX8_putTemplateSet 33 = .ok (.ldc2_w 147, 3) := by decide +kernel
theorem dX8_putTemplateSet_36 : decode cX8_putTemplateSet 36 = .ok (.iconst 2, 1) := by decide +kernel
theorem dX8_putTemplateSet_37 : decode cX8_putTemplateSet 37 = .ok (.invokevirtual 106, 3) := by decide +kernel
theorem dX8_putTemplateSet_40 : decode cX8_putTemplateSet 40 = .ok (.aload_n 1, 1) := by decide +kernel
theorem dX8_putTemplateSet_41 : decode cX8_putTemplateSet 41 = .ok (.lconst 0, 1) := by decide +kernel
theorem dX8_putTemplateSet_42 : decode cX8_putTemplateSet 42 = .ok (.iconst 2, 1) := by decide +kernel
theorem dX8_putTemplateSet_43 : decode cX8_putTemplateSet 43 = .ok (.invokevirtual 106, 3) := by decide +kernel
theorem dX8_putTemplateSet_46 : decode cX8_putTemplateSet 46 = .ok (.aload_n 0, 1) := by decide +kernel
theorem dX8_putTemplateSet_47 : decode cX8_putTemplateSet 47 = .ok (.aload_n 1, 1) := by decide +kernel
theorem dX8_putTemplateSet_48 : decode cX8_putTemplateSet 48 = .ok (.iload 4, 2) := by decide +kernel
theorem dX8_putTemplateSet_50 : decode cX8_putTemplateSet 50 = .ok (.invokevirtual 149, 3) := by decide +kernel
theorem dX8_putTemplateSet_53 : decode cX8_putTemplateSet 53 = .ok (.aload_n 0, 1) := by decide +kernel
theorem dX8_putTemplateSet_54 : decode cX8_putTemplateSet 54 = .ok (.getfield 28, 3) := by decide +kernel
theorem dX8_putTemplateSet_57 : decode cX8_putTemplateSet 57 = .ok (.iload 4, 2) := by decide +kernel
theorem dX8_putTemplateSet_59 : decode cX8_putTemplateSet 59 = .ok (.aload_n 0, 1) := by decide +kernel
theorem dX8_putTemplateSet_60 : decode cX8_putTemplateSet 60 = .ok (.getfield 34, 3) := by decide +kernel
theorem dX8_putTemplateSet_63 : decode cX8_putTemplateSet 63 = .ok (.iconst 1, 1) := by decide +kernel
theorem dX8_putTemplateSet_64 : decode cX8_putTemplateSet 64 = .ok (.iadd, 1) := by decide +kernel
theorem dX8_putTemplateSet_65 : decode cX8_putTemplateSet 65 = .ok (.iastore, 1) := by decide +kernel
theorem dX8_putTemplateSet_66 : decode cX8_putTemplateSet 66 = .ok (.aload_n 0, 1) := by decide +kernel
theorem dX8_putTemplateSet_67 : decode cX8_putTemplateSet 67 = .ok (.getfield 31, 3) := by decide +kernel
theorem dX8_putTemplateSet_70 : decode cX8_putTemplateSet 70 = .ok (.iload 4, 2) := by decide +kernel
theorem dX8_putTemplateSet_72 : decode cX8_putTemplateSet 72 = .ok (.iload_n 2, 1) := by decide +kernel
theorem dX8_putTemplateSet_73 : decode cX8_putTemplateSet 73 = .ok (.iastore, 1) := by decide +kernel
theorem dX8_putTemplateSet_74 : decode cX8_putTemplateSet 74 = .ok (.iinc 4 1, 3) := by decide +kernel
theorem dX8_putTemplateSet_77 : decode cX8_putTemplateSet 77 = .ok (.goto (-69), 3) := by decide +kernel
theorem dX8_putTemplateSet_80 : decode cX8_putTemplateSet 80 = .ok (.aload_n 1, 1) := by decide +kernel
theorem dX8_putTemplateSet_81 : decode cX8_putTemplateSet 81 = .ok (.getfield 61, 3) := by decide +kernel
theorem dX8_putTemplateSet_84 : decode cX8_putTemplateSet 84 = .ok (.iload_n 3, 1) := by decide +kernel
theorem dX8_putTemplateSet_85 : decode cX8_putTemplateSet 85 = .ok (.if_icmp .le 18, 3) := by decide +kernel
theorem dX8_putTemplateSet_88 : decode cX8_putTemplateSet 88 = .ok (.aload_n 1, 1) := by decide +kernel
theorem dX8_putTemplateSet_89 : decode cX8_putTemplateSet 89 = .ok (.iload_n 3, 1) := by decide +kernel
theorem dX8_putTemplateSet_90 : decode cX8_putTemplateSet 90 = .ok (.iconst 2, 1) := by decide +kernel
theorem dX8_putTemplateSet_91 : decode cX8_putTemplateSet 91 = .ok (.iadd, 1) := by decide +kernel
theorem dX8_putTemplateSet_92 : decode cX8_putTemplateSet 92 = .ok (.aload_n 1, 1) := by decide +kernel
theorem dX8_putTemplateSet_93 : decode cX8_putTemplateSet 93 = .ok (.getfield 61, 3) := by decide +kernel
theorem dX8_putTemplateSet_96 : decode cX8_putTemplateSet 96 = .ok (.iload_n 3, 1) := by decide +kernel
theorem dX8_putTemplateSet_97 : decode cX8_putTemplateSet 97 = .ok (.isub, 1) := by decide +kernel
theorem dX8_putTemplateSet_98 : decode cX8_putTemplateSet 98 = .ok (.i2l, 1) := by decide +kernel
theorem dX8_putTemplateSet_99 : decode cX8_putTemplateSet 99 = .ok (.iconst 2, 1) := by decide +kernel
theorem dX8_putTemplateSet_100 : decode cX8_putTemplateSet 100 = .ok (.invokevirtual 125, 3) := by decide +kernel
theorem dX8_putTemplateSet_103 : decode cX8_putTemplateSet 103 = .ok (.return_, 1) := by decide +kernel
set_option maxRecDepth 20000 in
theorem ggX8_putTemplate_X1_effective : GoodIn wsX8_putTemplate wsX1_effective := goodIn_r _ [7, 8, 41, 42, 43, 44, 45, 46] rfl (by decide +kernel)
set_option maxRecDepth 20000 in
theorem gX8_putTemplate_X1_effective : GoodIn wsX8_putTemplate (wsV RX8 82 RX1 yX1_effective wsX1_effective) := goodIn_app (goodIn_of _ (by decide +kernel)) ggX8_putTemplate_X1_effective
set_option maxRecDepth 20000 in
theorem ggX8_putTemplate_X5_put : GoodIn wsX8_putTemplate wsX5_put := goodIn_ca (goodIn_r _ [13, 14, 15, 47, 48] rfl (by decide +kernel)) (goodIn_sub (fun _ h => List.mem_cons_of_mem _ (List.mem_append_right _ h)) (by decide +kernel))
set_option maxRecDepth 20000 in
theorem gX8_putTemplate_X5_put : GoodIn wsX8_putTemplate (wsV RX8 106 RX5 yX5_put wsX5_put) := goodIn_app (goodIn_of _ (by decide +kernel)) ggX8_putTemplate_X5_put
set_option maxRecDepth 20000 in
theorem ggX8_putTemplate_X10_field : GoodIn wsX8_putTemplate wsX10_field := goodIn_ca (goodIn_r _ [20, 21, 22, 37, 38, 39, 40] rfl (by decide +kernel)) (goodIn_sub (fun _ h => List.mem_cons_of_mem _ (List.mem_append_right _ h)) (by decide +kernel))
set_option maxRecDepth 20000 in
theorem gX8_putTemplate_X10_field : GoodIn wsX8_putTemplate (wsV RX8 92 RX10 yX10_field wsX10_field) := goodIn_app (goodIn_of _ (by decide +kernel)) ggX8_putTemplate_X10_field
set_option maxRecDepth 20000 in
theorem ggX8_putTemplate_X11_lengthOf : GoodIn wsX8_putTemplate wsX11_lengthOf := goodIn_ca (goodIn_r _ [25, 26] rfl (by decide +kernel)) (goodIn_sub (fun _ h => List.mem_cons_of_mem _ (List.mem_append_right _ h)) (by decide +kernel))
set_option maxRecDepth 20000 in
theorem gX8_putTemplate_X11_lengthOf_n103 : GoodIn wsX8_putTemplate (wsX11_lengthOf) := ggX8_putTemplate_X11_lengthOf
theorem dX8_putTemplate_0 : decode cX8_putTemplate 0 = .ok (.aload_n 0, 1) := by decide +kernel
theorem dX8_putTemplate_1 : decode cX8_putTemplate 1 = .ok (.getfield 44, 3) := by decide +kernel
theorem dX8_putTemplate_4 : decode cX8_putTemplate 4 = .ok (.iload_n 2, 1) := by decide +kernel
theorem dX8_putTemplate_5 : decode cX8_putTemplate 5 = .ok (.invokevirtual 82, 3) := by decide +kernel
theorem dX8_putTemplate_8 : decode cX8_putTemplate 8 = .ok (.astore_n 3, 1) := by decide +kernel
theorem dX8_putTemplate_9 : decode cX8_putTemplate 9 = .ok (.aload_n 1, 1) := by decide +kernel
theorem dX8_putTemplate_10 : decode cX8_putTemplate 10 = .ok (.sipush 256, 3) := by decide +kernel
theorem dX8_putTemplate_13 : decode cX8_putTemplate 13 = .ok (.iload_n 2, 1) := by decide +kernel
theorem dX8_putTemplate_14 : decode cX8_putTemplate 14 = .ok (.iadd, 1) := by decide +kernel
theorem dX8_putTemplate_15 : decode cX8_putTemplate 15 = .ok (.i2l, 1) := by decide +kernel
theorem dX8_putTemplate_16 : decode cX8_putTemplate 16 = .ok (.iconst 2, 1) := by decide +kernel
theorem dX8_putTemplate_17 : decode cX8_putTemplate 17 = .ok (.invokevirtual 106, 3) := by decide +kernel
theorem dX8_putTemplate_20 : decode cX8_putTemplate 20 = .ok (.aload_n 1, 1) := by decide +kernel
theorem dX8_putTemplate_21 : decode cX8_putTemplate 21 = .ok (.aload_n 3, 1) := by decide +kernel
theorem dX8_putTemplate_22 : decode cX8_putTemplate 22 = .ok (.getfield 85, 3) := by decide +kernel
theorem dX8_putTemplate_25 : decode cX8_putTemplate 25 = .ok (.i2l, 1) := by decide +kernel
theorem dX8_putTemplate_26 : decode cX8_putTemplate 26 = .ok (.iconst 2, 1) := by decide +kernel
theorem dX8_putTemplate_27 : decode cX8_putTemplate 27 = .ok (.invokevirtual 106, 3) := by decide +kernel
theorem dX8_putTemplate_30 : decode cX8_putTemplate 30 = .ok (.iconst 0, 1) := by decide +kernel
theorem dX8_putTemplate_31 : decode cX8_putTemplate 31 = .ok (.istore 4, 2) := by decide +kernel
theorem dX8_putTemplate_33 : decode cX8_putTemplate 33 = .ok (.iload 4, 2) := by decide +kernel
theorem dX8_putTemplate_35 : decode cX8_putTemplate 35 = .ok (.aload_n 3, 1) := by decide +kernel
theorem dX8_putTemplate_36 : decode cX8_putTemplate 36 = .ok (.getfield 85, 3) := by decide +kernel
theorem dX8_putTemplate_39 : decode cX8_putTemplate 39 = .ok (.if_icmp .ge 36, 3) := by decide +kernel
theorem dX8_putTemplate_42 : decode cX8_putTemplate 42 = .ok (.aload_n 3, 1) := by decide +kernel
theorem dX8_putTemplate_43 : decode cX8_putTemplate 43 = .ok (.iload 4, 2) := by decide +kernel
theorem dX8_putTemplate_45 : decode cX8_putTemplate 45 = .ok (.invokevirtual 92, 3) := by decide +kernel
theorem dX8_putTemplate_48 : decode cX8_putTemplate 48 = .ok (.istore 5, 2) := by decide +kernel
theorem dX8_putTemplate_50 : decode cX8_putTemplate 50 = .ok (.aload_n 1, 1) := by decide +kernel
theorem dX8_putTemplate_51 : decode cX8_putTemplate 51 = .ok (.iload 5, 2) := by decide +kernel
theorem dX8_putTemplate_53 : decode cX8_putTemplate 53 = .ok (.i2l, 1) := by decide +kernel
theorem dX8_putTemplate_54 : decode cX8_putTemplate 54 = .ok (.iconst 2, 1) := by decide +kernel
theorem dX8_putTemplate_55 : decode cX8_putTemplate 55 = .ok (.invokevirtual 106, 3) := by decide +kernel
theorem dX8_putTemplate_58 : decode cX8_putTemplate 58 = .ok (.aload_n 1, 1) := by decide +kernel
theorem dX8_putTemplate_59 : decode cX8_putTemplate 59 = .ok (.iload 5, 2) := by decide +kernel
theorem dX8_putTemplate_61 : decode cX8_putTemplate 61 = .ok (.invokestatic 103, 3) := by decide +kernel
theorem dX8_putTemplate_64 : decode cX8_putTemplate 64 = .ok (.i2l, 1) := by decide +kernel
theorem dX8_putTemplate_65 : decode cX8_putTemplate 65 = .ok (.iconst 2, 1) := by decide +kernel
theorem dX8_putTemplate_66 : decode cX8_putTemplate 66 = .ok (.invokevirtual 106, 3) := by decide +kernel
theorem dX8_putTemplate_69 : decode cX8_putTemplate 69 = .ok (.iinc 4 1, 3) := by decide +kernel
theorem dX8_putTemplate_72 : decode cX8_putTemplate 72 = .ok (.goto (-39), 3) := by decide +kernel
theorem dX8_putTemplate_75 : decode cX8_putTemplate 75 = .ok (.return_, 1) := by decide +kernel

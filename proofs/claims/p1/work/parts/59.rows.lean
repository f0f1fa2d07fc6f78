set_option maxRecDepth 20000 in
theorem ggX8_forgetTemplatesWith_X1_template : GoodIn wsX8_forgetTemplatesWith wsX1_template := goodIn_r _ [7, 8, 25, 26, 27, 28, 29, 30] (by decide +kernel) (by decide +kernel)
set_option maxRecDepth 20000 in
theorem gX8_forgetTemplatesWith_X1_template : GoodIn wsX8_forgetTemplatesWith (wsV RX8 70 RX1 yX1_template wsX1_template) := goodIn_app (goodIn_of _ (by decide +kernel)) ggX8_forgetTemplatesWith_X1_template
set_option maxRecDepth 20000 in
theorem ggX8_forgetTemplatesWith_X10_has : GoodIn wsX8_forgetTemplatesWith wsX10_has := goodIn_r _ [13, 14, 31, 32, 33, 34] (by decide +kernel) (by decide +kernel)
set_option maxRecDepth 20000 in
theorem gX8_forgetTemplatesWith_X10_has : GoodIn wsX8_forgetTemplatesWith (wsV RX8 76 RX10 yX10_has wsX10_has) := goodIn_app (goodIn_of _ (by decide +kernel)) ggX8_forgetTemplatesWith_X10_has
theorem dX8_forgetTemplatesWith_0 : decode cX8_forgetTemplatesWith 0 = .ok (.iconst 0, 1) := by decide +kernel
theorem dX8_forgetTemplatesWith_1 : decode cX8_forgetTemplatesWith 1 = .ok (.istore_n 2, 1) := by decide +kernel
theorem dX8_forgetTemplatesWith_2 : decode cX8_forgetTemplatesWith 2 = .ok (.iload_n 2, 1) := by decide +kernel
theorem dX8_forgetTemplatesWith_3 : decode cX8_forgetTemplatesWith 3 = .ok (.iconst 4, 1) := by decide +kernel
theorem dX8_forgetTemplatesWith_4 : decode cX8_forgetTemplatesWith 4 = .ok (.if_icmp .ge 31, 3) := by decide +kernel
theorem dX8_forgetTemplatesWith_7 : decode cX8_forgetTemplatesWith 7 = .ok (.aload_n 0, 1) := by decide +kernel
theorem dX8_forgetTemplatesWith_8 : decode cX8_forgetTemplatesWith 8 = .ok (.getfield 44, 3) := by decide +kernel
theorem dX8_forgetTemplatesWith_11 : decode cX8_forgetTemplatesWith 11 = .ok (.iload_n 2, 1) := by decide +kernel
theorem dX8_forgetTemplatesWith_12 : decode cX8_forgetTemplatesWith 12 = .ok (.invokevirtual 70, 3) := by decide +kernel
theorem dX8_forgetTemplatesWith_15 : decode cX8_forgetTemplatesWith 15 = .ok (.iload_n 1, 1) := by decide +kernel
theorem dX8_forgetTemplatesWith_16 : decode cX8_forgetTemplatesWith 16 = .ok (.invokevirtual 76, 3) := by decide +kernel
theorem dX8_forgetTemplatesWith_19 : decode cX8_forgetTemplatesWith 19 = .ok (.ifCond .eq 10, 3) := by decide +kernel
theorem dX8_forgetTemplatesWith_22 : decode cX8_forgetTemplatesWith 22 = .ok (.aload_n 0, 1) := by decide +kernel
theorem dX8_forgetTemplatesWith_23 : decode cX8_forgetTemplatesWith 23 = .ok (.getfield 28, 3) := by decide +kernel
theorem dX8_forgetTemplatesWith_26 : decode cX8_forgetTemplatesWith 26 = .ok (.iload_n 2, 1) := by decide +kernel
theorem dX8_forgetTemplatesWith_27 : decode cX8_forgetTemplatesWith 27 = .ok (.iconst 0, 1) := by decide +kernel
theorem dX8_forgetTemplatesWith_28 : decode cX8_forgetTemplatesWith 28 = .ok (.iastore, 1) := by decide +kernel
theorem dX8_forgetTemplatesWith_29 : decode cX8_forgetTemplatesWith 29 = .ok (.iinc 2 1, 3) := by decide +kernel
theorem dX8_forgetTemplatesWith_32 : decode cX8_forgetTemplatesWith 32 = .ok (.goto (-30), 3) := by decide +kernel
theorem dX8_forgetTemplatesWith_35 : decode cX8_forgetTemplatesWith 35 = .ok (.return_, 1) := by decide +kernel
theorem dX10_has_0 : decode cX10_has 0 = .ok (.iload_n 1, 1) := by decide +kernel
theorem dX10_has_1 : decode cX10_has 1 = .ok (.ifCond .lt 25, 3) := by decide +kernel
theorem dX10_has_4 : decode cX10_has 4 = .ok (.iload_n 1, 1) := by decide +kernel
theorem dX10_has_5 : decode cX10_has 5 = .ok (.bipush 9, 2) := by decide +kernel
theorem dX10_has_7 : decode cX10_has 7 = .ok (.if_icmp .ge 19, 3) := by decide +kernel
theorem dX10_has_10 : decode cX10_has 10 = .ok (.aload_n 0, 1) := by decide +kernel
theorem dX10_has_11 : decode cX10_has 11 = .ok (.getfield 19, 3) := by decide +kernel
theorem dX10_has_14 : decode cX10_has 14 = .ok (.iload_n 1, 1) := by decide +kernel
theorem dX10_has_15 : decode cX10_has 15 = .ok (.ishr, 1) := by decide +kernel
theorem dX10_has_16 : decode cX10_has 16 = .ok (.iconst 1, 1) := by decide +kernel
theorem dX10_has_17 : decode cX10_has 17 = .ok (.iand, 1) := by decide +kernel
theorem dX10_has_18 : decode cX10_has 18 = .ok (.iconst 1, 1) := by decide +kernel
theorem dX10_has_19 : decode cX10_has 19 = .ok (.if_icmp .ne 7, 3) := by decide +kernel
theorem dX10_has_22 : decode cX10_has 22 = .ok (.iconst 1, 1) := by decide +kernel
theorem dX10_has_23 : decode cX10_has 23 = .ok (.goto 4, 3) := by decide +kernel
theorem dX10_has_26 : decode cX10_has 26 = .ok (.iconst 0, 1) := by decide +kernel
theorem dX10_has_27 : decode cX10_has 27 = .ok (.ireturn, 1) := by decide +kernel
set_option maxRecDepth 20000 in
theorem ggX11_setSupport_X1_support : GoodIn wsX11_setSupport wsX1_support := goodIn_ca (goodIn_r _ [10, 11, 12, 13, 14, 15, 16, 17, 18, 19, 20, 21, 22, 23, 24, 25, 26, 27, 28, 29, 30, 31, 32, 33, 34, 58, 59, 60, 61, 62, 63, 64, 65, 66, 67] (by decide +kernel) (by decide +kernel)) (goodIn_sub (fun _ h => List.mem_cons_of_mem _ (List.mem_append_right _ h)) (by decide +kernel))
set_option maxRecDepth 20000 in
theorem gX11_setSupport_X1_support : GoodIn wsX11_setSupport (wsV RX11 218 RX1 yX1_support wsX1_support) := goodIn_app (goodIn_of _ (by decide +kernel)) ggX11_setSupport_X1_support
set_option maxRecDepth 20000 in
theorem ggX11_setSupport_X8_forgetTemplatesWith : GoodIn wsX11_setSupport wsX8_forgetTemplatesWith := goodIn_ca (goodIn_r _ [39, 40, 41, 42, 43, 44, 9, 45, 13, 46, 47, 48, 17, 49, 24, 68, 69, 70, 71, 72, 73, 74, 75, 76, 77, 58, 59, 60, 61, 62, 63, 64, 65, 66, 67] (by decide +kernel) (by decide +kernel)) (goodIn_sub (fun _ h => List.mem_cons_of_mem _ (List.mem_append_right _ h)) (by decide +kernel))
set_option maxRecDepth 20000 in
theorem gX11_setSupport_X8_forgetTemplatesWith : GoodIn wsX11_setSupport (wsV RX11 221 RX8 yX8_forgetTemplatesWith wsX8_forgetTemplatesWith) := goodIn_app (goodIn_of _ (by decide +kernel)) ggX11_setSupport_X8_forgetTemplatesWith
theorem dX11_setSupport_0 : decode cX11_setSupport 0 = .ok (.iload_n 1, 1) := by decide +kernel
theorem dX11_setSupport_1 : decode cX11_setSupport 1 = .ok (.ifCond .lt 9, 3) := by decide +kernel
theorem dX11_setSupport_4 : decode cX11_setSupport 4 = .ok (.iload_n 1, 1) := by decide +kernel
theorem dX11_setSupport_5 : decode cX11_setSupport 5 = .ok (.bipush 9, 2) := by decide +kernel
theorem dX11_setSupport_7 : decode cX11_setSupport 7 = .ok (.if_icmp .lt 11, 3) := by decide +kernel
theorem dX11_setSupport_10 : decode cX11_setSupport 10 = .ok (.new 116, 3) := by decide +kernel
theorem dX11_setSupport_13 : decode cX11_setSupport 13 = .ok (.dup, 1) := by decide +kernel
theorem dX11_setSupport_14 : decode cX11_setSupport 14 = .ok (.invokespecial 118, 3) := by decide +kernel
theorem dX11_setSupport_17 : decode cX11_setSupport 17 = .ok (.athrow, 1) := by decide +kernel
theorem dX11_setSupport_18 : decode cX11_setSupport 18 = .ok (.aload_n 0, 1) := by decide +kernel
theorem dX11_setSupport_19 : decode cX11_setSupport 19 = .ok (.getfield 21, 3) := by decide +kernel
theorem dX11_setSupport_22 : decode cX11_setSupport 22 = .ok (.getfield 215, 3) := by decide +kernel
theorem dX11_setSupport_25 : decode cX11_setSupport 25 = .ok (.iload_n 1, 1) := by decide +kernel
theorem dX11_setSupport_26 : decode cX11_setSupport 26 = .ok (.ishr, 1) := by decide +kernel
theorem dX11_setSupport_27 : decode cX11_setSupport 27 = .ok (.iconst 1, 1) := by decide +kernel
theorem dX11_setSupport_28 : decode cX11_setSupport 28 = .ok (.iand, 1) := by decide +kernel
theorem dX11_setSupport_29 : decode cX11_setSupport 29 = .ok (.iconst 1, 1) := by decide +kernel
theorem dX11_setSupport_30 : decode cX11_setSupport 30 = .ok (.if_icmp .ne 7, 3) := by decide +kernel
theorem dX11_setSupport_33 : decode cX11_setSupport 33 = .ok (.iconst 1, 1) := by decide +kernel
theorem dX11_setSupport_34 : decode cX11_setSupport 34 = .ok (.goto 4, 3) := by decide +kernel
theorem dX11_setSupport_38 : decode cX11_setSupport 38 = .ok (.istore_n 3, 1) := by decide +kernel
theorem dX11_setSupport_39 : decode cX11_setSupport 39 = .ok (.iload_n 3, 1) := by decide +kernel
theorem dX11_setSupport_40 : decode cX11_setSupport 40 = .ok (.iload_n 2, 1) := by decide +kernel
theorem dX11_setSupport_41 : decode cX11_setSupport 41 = .ok (.if_icmp .eq 29, 3) := by decide +kernel
theorem dX11_setSupport_44 : decode cX11_setSupport 44 = .ok (.aload_n 0, 1) := by decide +kernel
theorem dX11_setSupport_45 : decode cX11_setSupport 45 = .ok (.getfield 21, 3) := by decide +kernel
theorem dX11_setSupport_48 : decode cX11_setSupport 48 = .ok (.aload_n 0, 1) := by decide +kernel
theorem dX11_setSupport_49 : decode cX11_setSupport 49 = .ok (.getfield 21, 3) := by decide +kernel
theorem dX11_setSupport_52 : decode cX11_setSupport 52 = .ok (.getfield 215, 3) := by decide +kernel
theorem dX11_setSupport_55 : decode cX11_setSupport 55 = .ok (.iconst 1, 1) := by decide +kernel
theorem dX11_setSupport_56 : decode cX11_setSupport 56 = .ok (.iload_n 1, 1) := by decide +kernel
theorem dX11_setSupport_57 : decode cX11_setSupport 57 = .ok (.ishl, 1) := by decide +kernel
theorem dX11_setSupport_58 : decode cX11_setSupport 58 = .ok (.ixor, 1) := by decide +kernel
theorem dX11_setSupport_59 : decode cX11_setSupport 59 = .ok (.invokevirtual 218, 3) := by decide +kernel
theorem dX11_setSupport_62 : decode cX11_setSupport 62 = .ok (.aload_n 0, 1) := by decide +kernel
theorem dX11_setSupport_63 : decode cX11_setSupport 63 = .ok (.getfield 46, 3) := by decide +kernel
theorem dX11_setSupport_66 : decode cX11_setSupport 66 = .ok (.iload_n 1, 1) := by decide +kernel
theorem dX11_setSupport_67 : decode cX11_setSupport 67 = .ok (.invokevirtual 221, 3) := by decide +kernel
theorem dX11_setSupport_70 : decode cX11_setSupport 70 = .ok (.iload_n 3, 1) := by decide +kernel
theorem dX11_setSupport_71 : decode cX11_setSupport 71 = .ok (.ireturn, 1) := by decide +kernel

theorem dX11_requirePackets_0 : decode cX11_requirePackets 0 = .ok (.lload_n 0, 1) := by decide +kernel
theorem dX11_requirePackets_1 : decode cX11_requirePackets 1 = .ok (.ldc2_w 113, 3) := by decide +kernel
theorem dX11_requirePackets_4 : decode cX11_requirePackets 4 = .ok (.lcmp, 1) := by decide +kernel
theorem dX11_requirePackets_5 : decode cX11_requirePackets 5 = .ok (.ifCond .eq 26, 3) := by decide +kernel
theorem dX11_requirePackets_8 : decode cX11_requirePackets 8 = .ok (.iload_n 2, 1) := by decide +kernel
theorem dX11_requirePackets_9 : decode cX11_requirePackets 9 = .ok (.iconst 1, 1) := by decide +kernel
theorem dX11_requirePackets_10 : decode cX11_requirePackets 10 = .ok (.if_icmp .lt 21, 3) := by decide +kernel
theorem dX11_requirePackets_13 : decode cX11_requirePackets 13 = .ok (.iload_n 2, 1) := by decide +kernel
theorem dX11_requirePackets_14 : decode cX11_requirePackets 14 = .ok (.ldc 115, 2) := by decide +kernel
theorem dX11_requirePackets_16 : decode cX11_requirePackets 16 = .ok (.if_icmp .gt 15, 3) := by decide +kernel
theorem dX11_requirePackets_19 : decode cX11_requirePackets 19 = .ok (.iload_n 3, 1) := by decide +kernel
theorem dX11_requirePackets_20 : decode cX11_requirePackets 20 = .ok (.iconst 1, 1) := by decide +kernel
theorem dX11_requirePackets_21 : decode cX11_requirePackets 21 = .ok (.if_icmp .lt 10, 3) := by decide +kernel
theorem dX11_requirePackets_24 : decode cX11_requirePackets 24 = .ok (.iload_n 3, 1) := by decide +kernel
theorem dX11_requirePackets_25 : decode cX11_requirePackets 25 = .ok (.sipush 200, 3) := by decide +kernel
theorem dX11_requirePackets_28 : decode cX11_requirePackets 28 = .ok (.if_icmp .le 11, 3) := by decide +kernel
theorem dX11_requirePackets_31 : decode cX11_requirePackets 31 = .ok (.new 116, 3) := by decide +kernel
theorem dX11_requirePackets_34 : decode cX11_requirePackets 34 = .ok (.dup, 1) := by decide +kernel
theorem dX11_requirePackets_35 : decode cX11_requirePackets 35 = .ok (.invokespecial 118, 3) := by decide +kernel
theorem dX11_requirePackets_38 : decode cX11_requirePackets 38 = .ok (.athrow, 1) := by decide +kernel
theorem dX11_requirePackets_39 : decode cX11_requirePackets 39 = .ok (.return_, 1) := by decide +kernel
set_option maxRecDepth 20000 in
theorem ggX11_cached_X4_flowAt : GoodIn wsX11_cached wsX4_flowAt := goodIn_r _ [12, 13, 50, 51] rfl (by decide +kernel)
set_option maxRecDepth 20000 in
theorem gX11_cached_X4_flowAt : GoodIn wsX11_cached (wsV RX11 156 RX4 yX4_flowAt wsX4_flowAt) := goodIn_app (goodIn_of _ (by decide +kernel)) ggX11_cached_X4_flowAt
set_option maxRecDepth 20000 in
theorem ggX11_cached_X3_value : GoodIn wsX11_cached wsX3_value := goodIn_ca (goodIn_r _ [18, 19, 20, 21, 22, 23, 24, 25, 17, 26, 27, 28, 52, 53, 54, 55, 56] rfl (by decide +kernel)) (goodIn_sub (fun _ h => List.mem_cons_of_mem _ (List.mem_append_right _ h)) (by decide +kernel))
set_option maxRecDepth 20000 in
theorem gX11_cached_X3_value : GoodIn wsX11_cached (wsV RX11 160 RX3 yX3_value wsX3_value) := goodIn_app (goodIn_of _ (by decide +kernel)) ggX11_cached_X3_value
theorem dX11_cached_0 : decode cX11_cached 0 = .ok (.iload_n 1, 1) := by decide +kernel
theorem dX11_cached_1 : decode cX11_cached 1 = .ok (.ifCond .lt 17, 3) := by decide +kernel
theorem dX11_cached_4 : decode cX11_cached 4 = .ok (.iload_n 1, 1) := by decide +kernel
theorem dX11_cached_5 : decode cX11_cached 5 = .ok (.aload_n 0, 1) := by decide +kernel
theorem dX11_cached_6 : decode cX11_cached 6 = .ok (.getfield 55, 3) := by decide +kernel
theorem dX11_cached_9 : decode cX11_cached 9 = .ok (.getfield 146, 3) := by decide +kernel
theorem dX11_cached_12 : decode cX11_cached 12 = .ok (.getfield 150, 3) := by decide +kernel
theorem dX11_cached_15 : decode cX11_cached 15 = .ok (.if_icmp .lt 11, 3) := by decide +kernel
theorem dX11_cached_18 : decode cX11_cached 18 = .ok (.new 153, 3) := by decide +kernel
theorem dX11_cached_21 : decode cX11_cached 21 = .ok (.dup, 1) := by decide +kernel
theorem dX11_cached_22 : decode cX11_cached 22 = .ok (.invokespecial 155, 3) := by decide +kernel
theorem dX11_cached_25 : decode cX11_cached 25 = .ok (.athrow, 1) := by decide +kernel
theorem dX11_cached_26 : decode cX11_cached 26 = .ok (.iload_n 2, 1) := by decide +kernel
theorem dX11_cached_27 : decode cX11_cached 27 = .ok (.ifCond .lt 9, 3) := by decide +kernel
theorem dX11_cached_30 : decode cX11_cached 30 = .ok (.iload_n 2, 1) := by decide +kernel
theorem dX11_cached_31 : decode cX11_cached 31 = .ok (.bipush 7, 2) := by decide +kernel
theorem dX11_cached_33 : decode cX11_cached 33 = .ok (.if_icmp .le 11, 3) := by decide +kernel
theorem dX11_cached_36 : decode cX11_cached 36 = .ok (.new 116, 3) := by decide +kernel
theorem dX11_cached_39 : decode cX11_cached 39 = .ok (.dup, 1) := by decide +kernel
theorem dX11_cached_40 : decode cX11_cached 40 = .ok (.invokespecial 118, 3) := by decide +kernel
theorem dX11_cached_43 : decode cX11_cached 43 = .ok (.athrow, 1) := by decide +kernel
theorem dX11_cached_44 : decode cX11_cached 44 = .ok (.aload_n 0, 1) := by decide +kernel
theorem dX11_cached_45 : decode cX11_cached 45 = .ok (.getfield 55, 3) := by decide +kernel
theorem dX11_cached_48 : decode cX11_cached 48 = .ok (.getfield 146, 3) := by decide +kernel
theorem dX11_cached_51 : decode cX11_cached 51 = .ok (.iload_n 1, 1) := by decide +kernel
theorem dX11_cached_52 : decode cX11_cached 52 = .ok (.invokevirtual 156, 3) := by decide +kernel
theorem dX11_cached_55 : decode cX11_cached 55 = .ok (.iload_n 2, 1) := by decide +kernel
theorem dX11_cached_56 : decode cX11_cached 56 = .ok (.invokevirtual 160, 3) := by decide +kernel
theorem dX11_cached_59 : decode cX11_cached 59 = .ok (.lreturn, 1) := by decide +kernel
theorem dX11_requireTemplate_0 : decode cX11_requireTemplate 0 = .ok (.iload_n 1, 1) := by decide +kernel
theorem dX11_requireTemplate_1 : decode cX11_requireTemplate 1 = .ok (.ifCond .lt 14, 3) := by decide +kernel
theorem dX11_requireTemplate_4 : decode cX11_requireTemplate 4 = .ok (.iload_n 1, 1) := by decide +kernel
theorem dX11_requireTemplate_5 : decode cX11_requireTemplate 5 = .ok (.aload_n 0, 1) := by decide +kernel
theorem dX11_requireTemplate_6 : decode cX11_requireTemplate 6 = .ok (.getfield 21, 3) := by decide +kernel
theorem dX11_requireTemplate_9 : decode cX11_requireTemplate 9 = .ok (.getfield 191, 3) := by decide +kernel
theorem dX11_requireTemplate_12 : decode cX11_requireTemplate 12 = .ok (.if_icmp .lt 11, 3) := by decide +kernel
theorem dX11_requireTemplate_15 : decode cX11_requireTemplate 15 = .ok (.new 153, 3) := by decide +kernel
theorem dX11_requireTemplate_18 : decode cX11_requireTemplate 18 = .ok (.dup, 1) := by decide +kernel
theorem dX11_requireTemplate_19 : decode cX11_requireTemplate 19 = .ok (.invokespecial 155, 3) := by decide +kernel
theorem dX11_requireTemplate_22 : decode cX11_requireTemplate 22 = .ok (.athrow, 1) := by decide +kernel
theorem dX11_requireTemplate_23 : decode cX11_requireTemplate 23 = .ok (.return_, 1) := by decide +kernel
set_option maxRecDepth 20000 in
theorem ggX11_templateFields_X11_requireTemplate : GoodIn wsX11_templateFields wsX11_requireTemplate := goodIn_ca (goodIn_r _ [7, 8, 9, 1, 10, 17, 18, 19, 20, 21, 22, 23, 24, 29, 30, 31, 32, 33, 34] rfl (by decide +kernel)) (goodIn_sub (fun _ h => List.mem_cons_of_mem _ (List.mem_append_right _ h)) (by decide +kernel))
set_option maxRecDepth 20000 in
theorem gX11_templateFields_X11_requireTemplate : GoodIn wsX11_templateFields (wsV RX11 194 RX11 yX11_requireTemplate wsX11_requireTemplate) := goodIn_app (goodIn_of _ (by decide +kernel)) ggX11_templateFields_X11_requireTemplate
set_option maxRecDepth 20000 in
theorem ggX11_templateFields_X1_template : GoodIn wsX11_templateFields wsX1_template := goodIn_r _ [15, 16, 29, 30, 31, 32, 33, 34] rfl (by decide +kernel)
set_option maxRecDepth 20000 in
theorem gX11_templateFields_X1_template : GoodIn wsX11_templateFields (wsV RX11 197 RX1 yX1_template wsX1_template) := goodIn_app (goodIn_of _ (by decide +kernel)) ggX11_templateFields_X1_template
theorem dX11_templateFields_0 : decode cX11_templateFields 0 = .ok (.aload_n 0, 1) := by decide +kernel
theorem dX11_templateFields_1 : decode cX11_templateFields 1 = .ok (.iload_n 1, 1) := by decide +kernel
theorem dX11_templateFields_2 : decode cX11_templateFields 2 = .ok (.invokevirtual 194, 3) := by decide +kernel
theorem dX11_templateFields_5 : decode cX11_templateFields 5 = .ok (.aload_n 0, 1) := by decide +kernel
theorem dX11_templateFields_6 : decode cX11_templateFields 6 = .ok (.getfield 21, 3) := by decide +kernel
theorem dX11_templateFields_9 : decode cX11_templateFields 9 = .ok (.iload_n 1, 1) := by decide +kernel
theorem dX11_templateFields_10 : decode cX11_templateFields 10 = .ok (.invokevirtual 197, 3) := by decide +kernel
theorem dX11_templateFields_13 : decode cX11_templateFields 13 = .ok (.getfield 201, 3) := by decide +kernel
theorem dX11_templateFields_16 : decode cX11_templateFields 16 = .ok (.ireturn, 1) := by decide +kernel
set_option maxRecDepth 20000 in
theorem ggX11_effectiveFields_X11_requireTemplate : GoodIn wsX11_effectiveFields wsX11_requireTemplate := goodIn_ca (goodIn_r _ [7, 8, 9, 1, 10, 17, 18, 19, 20, 21, 22, 23, 24, 29, 30, 31, 32, 33, 34] rfl (by decide +kernel)) (goodIn_sub (fun _ h => List.mem_cons_of_mem _ (List.mem_append_right _ h)) (by decide +kernel))
set_option maxRecDepth 20000 in
theorem gX11_effectiveFields_X11_requireTemplate : GoodIn wsX11_effectiveFields (wsV RX11 194 RX11 yX11_requireTemplate wsX11_requireTemplate) := goodIn_app (goodIn_of _ (by decide +kernel)) ggX11_effectiveFields_X11_requireTemplate
set_option maxRecDepth 20000 in
theorem ggX11_effectiveFields_X1_effective : GoodIn wsX11_effectiveFields wsX1_effective := goodIn_r _ [15, 16, 29, 30, 31, 32, 33, 34] rfl (by decide +kernel)
set_option maxRecDepth 20000 in
theorem gX11_effectiveFields_X1_effective : GoodIn wsX11_effectiveFields (wsV RX11 206 RX1 yX1_effective wsX1_effective) := goodIn_app (goodIn_of _ (by decide +kernel)) ggX11_effectiveFields_X1_effective
theorem dX11_effectiveFields_0 : decode cX11_effectiveFields 0 = .ok (.aload_n 0, 1) := by decide +kernel
theorem dX11_effectiveFields_1 : decode cX11_effectiveFields 1 = .ok (.iload_n 1, 1) := by decide +kernel
theorem dX11_effectiveFields_2 : decode cX11_effectiveFields 2 = .ok (.invokevirtual 194, 3) := by decide +kernel
theorem dX11_effectiveFields_5 : decode cX11_effectiveFields 5 = .ok (.aload_n 0, 1) := by decide +kernel
theorem dX11_effectiveFields_6 : decode cX11_effectiveFields 6 = .ok (.getfield 21, 3) := by decide +kernel
theorem dX11_effectiveFields_9 : decode cX11_effectiveFields 9 = .ok (.iload_n 1, 1) := by decide +kernel
theorem dX11_effectiveFields_10 : decode cX11_effectiveFields 10 = .ok (.invokevirtual 206, 3) := by decide +kernel
theorem dX11_effectiveFields_13 : decode cX11_effectiveFields 13 = .ok (.getfield 201, 3) := by decide +kernel
theorem dX11_effectiveFields_16 : decode cX11_effectiveFields 16 = .ok (.ireturn, 1) := by decide +kernel
set_option maxRecDepth 20000 in
theorem ggX11_fieldAt_X11_requireTemplate : GoodIn wsX11_fieldAt wsX11_requireTemplate := goodIn_ca (goodIn_r _ [6, 7, 8, 1, 9, 23, 24, 25, 26, 27, 28, 29, 30, 31, 32, 33, 34, 35, 36] rfl (by decide +kernel)) (goodIn_sub (fun _ h => List.mem_cons_of_mem _ (List.mem_append_left _ (List.mem_append_right _ h))) (by decide +kernel))
set_option maxRecDepth 20000 in
theorem gX11_fieldAt_X11_requireTemplate : GoodIn wsX11_fieldAt (wsV RX11 194 RX11 yX11_requireTemplate wsX11_requireTemplate) := goodIn_app (goodIn_of _ (by decide +kernel)) ggX11_fieldAt_X11_requireTemplate
set_option maxRecDepth 20000 in
theorem ggX11_fieldAt_X1_template : GoodIn wsX11_fieldAt wsX1_template := goodIn_r _ [14, 15, 31, 32, 33, 34, 35, 36] rfl (by decide +kernel)
set_option maxRecDepth 20000 in
theorem gX11_fieldAt_X1_template : GoodIn wsX11_fieldAt (wsV RX11 197 RX1 yX1_template wsX1_template) := goodIn_app (goodIn_of _ (by decide +kernel)) ggX11_fieldAt_X1_template
set_option maxRecDepth 20000 in
theorem ggX11_fieldAt_X10_field : GoodIn wsX11_fieldAt wsX10_field := goodIn_ca (goodIn_r _ [20, 21, 22, 37, 38, 39, 40] rfl (by decide +kernel)) (goodIn_sub (fun _ h => List.mem_cons_of_mem _ (List.mem_append_right _ h)) (by decide +kernel))
set_option maxRecDepth 20000 in
theorem gX11_fieldAt_X10_field : GoodIn wsX11_fieldAt (wsV RX11 209 RX10 yX10_field wsX10_field) := goodIn_app (goodIn_of _ (by decide +kernel)) ggX11_fieldAt_X10_field
theorem dX11_fieldAt_0 : decode cX11_fieldAt 0 = .ok (.aload_n 0, 1) := by decide +kernel
theorem dX11_fieldAt_1 : decode cX11_fieldAt 1 = .ok (.iload_n 1, 1) := by decide +kernel
theorem dX11_fieldAt_2 : decode cX11_fieldAt 2 = .ok (.invokevirtual 194, 3) := by decide +kernel
theorem dX11_fieldAt_5 : decode cX11_fieldAt 5 = .ok (.aload_n 0, 1) := by decide +kernel
theorem dX11_fieldAt_6 : decode cX11_fieldAt 6 = .ok (.getfield 21, 3) := by decide +kernel
theorem dX11_fieldAt_9 : decode cX11_fieldAt 9 = .ok (.iload_n 1, 1) := by decide +kernel
theorem dX11_fieldAt_10 : decode cX11_fieldAt 10 = .ok (.invokevirtual 197, 3) := by decide +kernel
theorem dX11_fieldAt_13 : decode cX11_fieldAt 13 = .ok (.iload_n 2, 1) := by decide +kernel
theorem dX11_fieldAt_14 : decode cX11_fieldAt 14 = .ok (.invokevirtual 209, 3) := by decide +kernel
theorem dX11_fieldAt_17 : decode cX11_fieldAt 17 = .ok (.ireturn, 1) := by decide +kernel
set_option maxRecDepth 20000 in
theorem ggX11_recordLength_X11_requireTemplate : GoodIn wsX11_recordLength wsX11_requireTemplate := goodIn_ca (goodIn_r _ [7, 8, 9, 1, 10, 17, 18, 19, 20, 21, 22, 23, 24, 29, 30, 31, 32, 33, 34] rfl (by decide +kernel)) (goodIn_sub (fun _ h => List.mem_cons_of_mem _ (List.mem_append_right _ h)) (by decide +kernel))
set_option maxRecDepth 20000 in
theorem gX11_recordLength_X11_requireTemplate : GoodIn wsX11_recordLength (wsV RX11 194 RX11 yX11_requireTemplate wsX11_requireTemplate) := goodIn_app (goodIn_of _ (by decide +kernel)) ggX11_recordLength_X11_requireTemplate
set_option maxRecDepth 20000 in
theorem ggX11_recordLength_X1_effective : GoodIn wsX11_recordLength wsX1_effective := goodIn_r _ [15, 16, 29, 30, 31, 32, 33, 34] rfl (by decide +kernel)
set_option maxRecDepth 20000 in
theorem gX11_recordLength_X1_effective : GoodIn wsX11_recordLength (wsV RX11 206 RX1 yX1_effective wsX1_effective) := goodIn_app (goodIn_of _ (by decide +kernel)) ggX11_recordLength_X1_effective
theorem dX11_recordLength_0 : decode cX11_recordLength 0 = .ok (.aload_n 0, 1) := by decide +kernel
theorem dX11_recordLength_1 : decode cX11_recordLength 1 = .ok (.iload_n 1, 1) := by decide +kernel
theorem dX11_recordLength_2 : decode cX11_recordLength 2 = .ok (.invokevirtual 194, 3) := by decide +kernel
theorem dX11_recordLength_5 : decode cX11_recordLength 5 = .ok (.aload_n 0, 1) := by decide +kernel
theorem dX11_recordLength_6 : decode cX11_recordLength 6 = .ok (.getfield 21, 3) := by decide +kernel
theorem dX11_recordLength_9 : decode cX11_recordLength 9 = .ok (.iload_n 1, 1) := by decide +kernel
theorem dX11_recordLength_10 : decode cX11_recordLength 10 = .ok (.invokevirtual 206, 3) := by decide +kernel
theorem dX11_recordLength_13 : decode cX11_recordLength 13 = .ok (.getfield 212, 3) := by decide +kernel
theorem dX11_recordLength_16 : decode cX11_recordLength 16 = .ok (.ireturn, 1) := by decide +kernel
set_option maxRecDepth 20000 in
theorem ggX11_setSupport_X1_support : GoodIn wsX11_setSupport wsX1_support := goodIn_ca (goodIn_r _ [10, 11, 12, 13, 14, 15, 16, 17, 18, 19, 20, 21, 22, 23, 24, 25, 26, 27, 28, 29, 30, 31, 32, 33, 34, 58, 59, 60, 61, 62, 63, 64, 65, 66, 67] rfl (by decide +kernel)) (goodIn_sub (fun _ h => List.mem_cons_of_mem _ (List.mem_append_right _ h)) (by decide +kernel))
set_option maxRecDepth 20000 in
theorem gX11_setSupport_X1_support : GoodIn wsX11_setSupport (wsV RX11 218 RX1 yX1_support wsX1_support) := goodIn_app (goodIn_of _ (by decide +kernel)) ggX11_setSupport_X1_support
set_option maxRecDepth 20000 in
theorem ggX11_setSupport_X8_forgetTemplatesWith : GoodIn wsX11_setSupport wsX8_forgetTemplatesWith := goodIn_ca (goodIn_r _ [39, 40, 41, 42, 43, 44, 9, 45, 13, 46, 47, 48, 17, 49, 24, 68, 69, 70, 71, 72, 73, 74, 75, 76, 77, 58, 59, 60, 61, 62, 63, 64, 65, 66, 67] rfl (by decide +kernel)) (goodIn_sub (fun _ h => List.mem_cons_of_mem _ (List.mem_append_right _ h)) (by decide +kernel))
set_option maxRecDepth 20000 in
theorem gX11_setSupport_X8_forgetTemplatesWith : GoodIn wsX11_setSupport (wsV RX11 221 RX8 yX8_forgetTemplatesWith wsX8_forgetTemplatesWith) := goodIn_app (goodIn_of _ (by decide +kernel)) ggX11_setSupport_X8_forgetTemplatesWith
theorem dX11_setSupport_0 : decode cX11_setSupport 0 = .ok (.iload_n 1, 1) := by decide +kernel
theorem dX11_setSupport_1 : decode cX11_setSupport 1 = .ok (.ifCond .lt 9, 3) := by decide +kernel
theorem dX11_setSupport_4 : decode cX11_setSupport 4 = .ok (.iload_n 1, 1) := by decide +kernel
theorem dX11_setSupport_5 : decode cX11_setSupport 5 = .ok (.bipush 9, 2) := by decide +kernel
theorem dX11_setSupport_7 : decode cX11_setSupport 7 = .ok (.if_icmp .lt 11, 3) := by decide +kernel
theorem dX11_setSupport_10 : decode cX11_setSupport 10 = .ok (.new 116, 3) := by decide +kernel
theorem dX11_setSupport_13 : decode cX11_setSupport 13 = .ok (.dup, 1) := by decide +kernel
theorem dX11_setSupport_14 : decode cX11_setSupport 14 = .ok (.invokespecial 118, 3) := by decide +kernel
theorem dX11_setSupport_17 : decode cX11_setSupport 17 = .ok (.athrow, 1) := by decide +kernel
theorem dX11_setSupport_18 : decode cX11_setSupport 18 = .ok (.aload_n 0, 1) := by decide +kernel
theorem dX11_setSupport_19 : decode cX11_setSupport 19 = .ok (.getfield 21, 3) := by decide +kernel
theorem dX11_setSupport_22 : decode cX11_setSupport 22 = .ok (.getfield 215, 3) := by decide +kernel
theorem dX11_setSupport_25 : decode cX11_setSupport 25 = .ok (.iload_n 1, 1) := by decide +kernel
theorem dX11_setSupport_26 : decode cX11_setSupport 26 = .ok (.ishr, 1) := by decide +kernel
theorem dX11_setSupport_27 : decode cX11_setSupport 27 = .ok (.iconst 1, 1) := by decide +kernel
theorem dX11_setSupport_28 : decode cX11_setSupport 28 = .ok (.iand, 1) := by decide +kernel
theorem dX11_setSupport_29 : decode cX11_setSupport 29 = .ok (.iconst 1, 1) := by decide +kernel
theorem dX11_setSupport_30 : decode cX11_setSupport 30 = .ok (.if_icmp .ne 7, 3) := by decide +kernel
theorem dX11_setSupport_33 : decode cX11_setSupport 33 = .ok (.iconst 1, 1) := by decide +kernel
theorem dX11_setSupport_34 : decode cX11_setSupport 34 = .ok (.goto 4, 3) := by decide +kernel
theorem dX11_setSupport_37 : decode cX11_setSupport 37 = .ok (.iconst 0, 1) := by decide +kernel
theorem dX11_setSupport_38 : decode cX11_setSupport 38 = .ok (.istore_n 3, 1) := by decide +kernel
theorem dX11_setSupport_39 : decode cX11_setSupport 39 = .ok (.iload_n 3, 1) := by decide +kernel
theorem dX11_setSupport_40 : decode cX11_setSupport 40 = .ok (.iload_n 2, 1) := by decide +kernel
theorem dX11_setSupport_41 : decode cX11_setSupport 41 = .ok (.if_icmp .eq 29, 3) := by decide +kernel
theorem dX11_setSupport_44 : decode cX11_setSupport 44 = .ok (.aload_n 0, 1) := by decide +kernel
theorem dX11_setSupport_45 : decode cX11_setSupport 45 = .ok (.getfield 21, 3) := by decide +kernel
theorem dX11_setSupport_48 : decode cX11_setSupport 48 = .ok (.aload_n 0, 1) := by decide +kernel
theorem dX11_setSupport_49 : decode cX11_setSupport 49 = .ok (.getfield 21, 3) := by decide +kernel
theorem dX11_setSupport_52 : decode cX11_setSupport 52 = .ok (.getfield 215, 3) := by decide +kernel
theorem dX11_setSupport_55 : decode cX11_setSupport 55 = .ok (.iconst 1, 1) := by decide +kernel
theorem dX11_setSupport_56 : decode cX11_setSupport 56 = .ok (.iload_n 1, 1) := by decide +kernel
theorem dX11_setSupport_57 : decode cX11_setSupport 57 = .ok (.ishl, 1) := by decide +kernel
theorem dX11_setSupport_58 : decode cX11_setSupport 58 = .ok (.ixor, 1) := by decide +kernel
theorem dX11_setSupport_59 : decode cX11_setSupport 59 = .ok (.invokevirtual 218, 3) := by decide +kernel
theorem dX11_setSupport_62 : decode cX11_setSupport 62 = .ok (.aload_n 0, 1) := by decide +kernel
theorem dX11_setSupport_63 : decode cX11_setSupport 63 = .ok (.getfield 46, 3) := by decide +kernel
theorem dX11_setSupport_66 : decode cX11_setSupport 66 = .ok (.iload_n 1, 1) := by decide +kernel
theorem dX11_setSupport_67 : decode cX11_setSupport 67 = .ok (.invokevirtual 221, 3) := by decide +kernel
theorem dX11_setSupport_70 : decode cX11_setSupport 70 = .ok (.iload_n 3, 1) := by decide +kernel
theorem dX11_setSupport_71 : decode cX11_setSupport 71 = .ok (.ireturn, 1) := by decide +kernel
set_option maxRecDepth 20000 in
theorem ggX11_isDue_X11_requireTemplate : GoodIn wsX11_isDue wsX11_requireTemplate := goodIn_ca (goodIn_r _ [8, 9, 10, 11, 12, 34, 35, 36, 37, 38, 39, 40, 41, 55, 56, 57, 58, 59, 60] rfl (by decide +kernel)) (goodIn_sub (fun _ h => List.mem_cons_of_mem _ (List.mem_append_left _ (List.mem_append_right _ h))) (by decide +kernel))
set_option maxRecDepth 20000 in
theorem gX11_isDue_X11_requireTemplate : GoodIn wsX11_isDue (wsV RX11 194 RX11 yX11_requireTemplate wsX11_requireTemplate) := goodIn_app (goodIn_of _ (by decide +kernel)) ggX11_isDue_X11_requireTemplate
set_option maxRecDepth 20000 in
theorem ggX11_isDue_X8_mustSend : GoodIn wsX11_isDue wsX8_mustSend := goodIn_ca (goodIn_r _ [17, 18, 19, 20, 21, 22, 23, 24, 25, 26, 27, 28, 29, 30, 31, 32, 33, 61, 62, 63, 64, 65, 66, 67, 68, 69, 70, 71, 72, 73, 74, 55, 56, 57, 58, 59, 60] rfl (by decide +kernel)) (goodIn_sub (fun _ h => List.mem_cons_of_mem _ (List.mem_append_right _ h)) (by decide +kernel))
set_option maxRecDepth 20000 in
theorem gX11_isDue_X8_mustSend : GoodIn wsX11_isDue (wsV RX11 227 RX8 yX8_mustSend wsX8_mustSend) := goodIn_app (goodIn_of _ (by decide +kernel)) ggX11_isDue_X8_mustSend
theorem dX11_isDue_0 : decode cX11_isDue 0 = .ok (.aload_n 0, 1) := by decide +kernel
theorem dX11_isDue_1 : decode cX11_isDue 1 = .ok (.iload_n 1, 1) := by decide +kernel
theorem dX11_isDue_2 : decode cX11_isDue 2 = .ok (.invokevirtual 194, 3) := by decide +kernel
theorem dX11_isDue_5 : decode cX11_isDue 5 = .ok (.aload_n 0, 1) := by decide +kernel
theorem dX11_isDue_6 : decode cX11_isDue 6 = .ok (.getfield 46, 3) := by decide +kernel
theorem dX11_isDue_9 : decode cX11_isDue 9 = .ok (.iload_n 1, 1) := by decide +kernel
theorem dX11_isDue_10 : decode cX11_isDue 10 = .ok (.aload_n 0, 1) := by decide +kernel
theorem dX11_isDue_11 : decode cX11_isDue 11 = .ok (.getfield 55, 3) := by decide +kernel
theorem dX11_isDue_14 : decode cX11_isDue 14 = .ok (.getfield 110, 3) := by decide +kernel
theorem dX11_isDue_17 : decode cX11_isDue 17 = .ok (.invokevirtual 227, 3) := by decide +kernel
theorem dX11_isDue_20 : decode cX11_isDue 20 = .ok (.ireturn, 1) := by decide +kernel
theorem dX11_requireMessage_0 : decode cX11_requireMessage 0 = .ok (.iload_n 1, 1) := by decide +kernel
theorem dX11_requireMessage_1 : decode cX11_requireMessage 1 = .ok (.ifCond .lt 14, 3) := by decide +kernel
theorem dX11_requireMessage_4 : decode cX11_requireMessage 4 = .ok (.iload_n 1, 1) := by decide +kernel
theorem dX11_requireMessage_5 : decode cX11_requireMessage 5 = .ok (.aload_n 0, 1) := by decide +kernel
theorem dX11_requireMessage_6 : decode cX11_requireMessage 6 = .ok (.getfield 37, 3) := by decide +kernel
theorem dX11_requireMessage_9 : decode cX11_requireMessage 9 = .ok (.getfield 231, 3) := by decide +kernel
theorem dX11_requireMessage_12 : decode cX11_requireMessage 12 = .ok (.if_icmp .lt 11, 3) := by decide +kernel
theorem dX11_requireMessage_15 : decode cX11_requireMessage 15 = .ok (.new 153, 3) := by decide +kernel
theorem dX11_requireMessage_18 : decode cX11_requireMessage 18 = .ok (.dup, 1) := by decide +kernel
theorem dX11_requireMessage_19 : decode cX11_requireMessage 19 = .ok (.invokespecial 155, 3) := by decide +kernel
theorem dX11_requireMessage_22 : decode cX11_requireMessage 22 = .ok (.athrow, 1) := by decide +kernel
theorem dX11_requireMessage_23 : decode cX11_requireMessage 23 = .ok (.return_, 1) := by decide +kernel
set_option maxRecDepth 20000 in
theorem ggX11_messageLength_X11_requireMessage : GoodIn wsX11_messageLength wsX11_requireMessage := goodIn_ca (goodIn_r _ [7, 8, 9, 1, 10, 17, 18, 19, 20, 21, 22, 23, 24, 27, 28, 29] rfl (by decide +kernel)) (goodIn_sub (fun _ h => List.mem_cons_of_mem _ (List.mem_append_right _ h)) (by decide +kernel))
set_option maxRecDepth 20000 in
theorem gX11_messageLength_X11_requireMessage : GoodIn wsX11_messageLength (wsV RX11 243 RX11 yX11_requireMessage wsX11_requireMessage) := goodIn_app (goodIn_of _ (by decide +kernel)) ggX11_messageLength_X11_requireMessage
set_option maxRecDepth 20000 in
theorem ggX11_messageLength_X7_messageAt : GoodIn wsX11_messageLength wsX7_messageAt := goodIn_r _ [15, 16, 27, 28, 29] rfl (by decide +kernel)
set_option maxRecDepth 20000 in
theorem gX11_messageLength_X7_messageAt : GoodIn wsX11_messageLength (wsV RX11 246 RX7 yX7_messageAt wsX7_messageAt) := goodIn_app (goodIn_of _ (by decide +kernel)) ggX11_messageLength_X7_messageAt
theorem dX11_messageLength_0 : decode cX11_messageLength 0 = .ok (.aload_n 0, 1) := by decide +kernel
theorem dX11_messageLength_1 : decode cX11_messageLength 1 = .ok (.iload_n 1, 1) := by decide +kernel
theorem dX11_messageLength_2 : decode cX11_messageLength 2 = .ok (.invokevirtual 243, 3) := by decide +kernel
theorem dX11_messageLength_5 : decode cX11_messageLength 5 = .ok (.aload_n 0, 1) := by decide +kernel
theorem dX11_messageLength_6 : decode cX11_messageLength 6 = .ok (.getfield 37, 3) := by decide +kernel
theorem dX11_messageLength_9 : decode cX11_messageLength 9 = .ok (.iload_n 1, 1) := by decide +kernel
theorem dX11_messageLength_10 : decode cX11_messageLength 10 = .ok (.invokevirtual 246, 3) := by decide +kernel
theorem dX11_messageLength_13 : decode cX11_messageLength 13 = .ok (.getfield 97, 3) := by decide +kernel
theorem dX11_messageLength_16 : decode cX11_messageLength 16 = .ok (.ireturn, 1) := by decide +kernel
set_option maxRecDepth 20000 in
theorem ggX11_messageByte_X11_requireMessage : GoodIn wsX11_messageByte wsX11_requireMessage := goodIn_ca (goodIn_r _ [6, 7, 8, 1, 9, 23, 24, 25, 26, 27, 28, 29, 30, 31, 32, 33] rfl (by decide +kernel)) (goodIn_sub (fun _ h => List.mem_cons_of_mem _ (List.mem_append_left _ (List.mem_append_right _ h))) (by decide +kernel))
set_option maxRecDepth 20000 in
theorem gX11_messageByte_X11_requireMessage : GoodIn wsX11_messageByte (wsV RX11 243 RX11 yX11_requireMessage wsX11_requireMessage) := goodIn_app (goodIn_of _ (by decide +kernel)) ggX11_messageByte_X11_requireMessage
set_option maxRecDepth 20000 in
theorem ggX11_messageByte_X7_messageAt : GoodIn wsX11_messageByte wsX7_messageAt := goodIn_r _ [14, 15, 31, 32, 33] rfl (by decide +kernel)
set_option maxRecDepth 20000 in
theorem gX11_messageByte_X7_messageAt : GoodIn wsX11_messageByte (wsV RX11 246 RX7 yX7_messageAt wsX7_messageAt) := goodIn_app (goodIn_of _ (by decide +kernel)) ggX11_messageByte_X7_messageAt
set_option maxRecDepth 20000 in
theorem ggX11_messageByte_X5_byteAt : GoodIn wsX11_messageByte wsX5_byteAt := goodIn_ca (goodIn_r _ [20, 21, 22, 34, 35] rfl (by decide +kernel)) (goodIn_sub (fun _ h => List.mem_cons_of_mem _ (List.mem_append_right _ h)) (by decide +kernel))
set_option maxRecDepth 20000 in
theorem gX11_messageByte_X5_byteAt : GoodIn wsX11_messageByte (wsV RX11 250 RX5 yX5_byteAt wsX5_byteAt) := goodIn_app (goodIn_of _ (by decide +kernel)) ggX11_messageByte_X5_byteAt
theorem dX11_messageByte_0 : decode cX11_messageByte 0 = .ok (.aload_n 0, 1) := by decide +kernel
theorem dX11_messageByte_1 : decode cX11_messageByte 1 = .ok (.iload_n 1, 1) := by decide +kernel
theorem dX11_messageByte_2 : decode cX11_messageByte 2 = .ok (.invokevirtual 243, 3) := by decide +kernel
theorem dX11_messageByte_5 : decode cX11_messageByte 5 = .ok (.aload_n 0, 1) := by decide +kernel
theorem dX11_messageByte_6 : decode cX11_messageByte 6 = .ok (.getfield 37, 3) := by decide +kernel
theorem dX11_messageByte_9 : decode cX11_messageByte 9 = .ok (.iload_n 1, 1) := by decide +kernel
theorem dX11_messageByte_10 : decode cX11_messageByte 10 = .ok (.invokevirtual 246, 3) := by decide +kernel
theorem dX11_messageByte_13 : decode cX11_messageByte 13 = .ok (.iload_n 2, 1) := by decide +kernel
theorem dX11_messageByte_14 : decode cX11_messageByte 14 = .ok (.invokevirtual 250, 3) := by decide +kernel
theorem dX11_messageByte_17 : decode cX11_messageByte 17 = .ok (.ireturn, 1) := by decide +kernel
set_option maxRecDepth 20000 in
theorem ggX11_deliver_X11_requireMessage : GoodIn wsX11_deliver wsX11_requireMessage := goodIn_ca (goodIn_r _ [9, 10, 11, 2, 12, 178, 179, 180, 181, 182, 183, 184, 185, 199, 200, 201] rfl (by decide +kernel)) (goodIn_sub (fun _ h => List.mem_cons_of_mem _ (List.mem_append_left _ (List.mem_append_right _ h))) (by decide +kernel))
set_option maxRecDepth 20000 in
theorem gX11_deliver_X11_requireMessage : GoodIn wsX11_deliver (wsV RX11 243 RX11 yX11_requireMessage wsX11_requireMessage) := goodIn_app (goodIn_of _ (by decide +kernel)) ggX11_deliver_X11_requireMessage
set_option maxRecDepth 20000 in
theorem ggX11_deliver_X7_takeOut : GoodIn wsX11_deliver wsX7_takeOut := goodIn_r _ [17, 18, 19, 20, 21, 22, 16, 23, 199, 200, 201] rfl (by decide +kernel)
set_option maxRecDepth 20000 in
theorem gX11_deliver_X7_takeOut : GoodIn wsX11_deliver (wsV RX11 253 RX7 yX7_takeOut wsX7_takeOut) := goodIn_app (goodIn_of _ (by decide +kernel)) ggX11_deliver_X7_takeOut
set_option maxRecDepth 20000 in
theorem ggX11_deliver_X0_take : GoodIn wsX11_deliver wsX0_take := goodIn_ca (goodIn_r _ [28, 29, 30, 31, 32, 33, 34, 35, 36, 37, 38, 39, 40, 41, 42, 43, 44, 45, 46, 47, 48, 27, 49, 50, 51, 52, 53, 54, 55, 56, 57, 58, 59, 60, 61, 62, 63, 64, 65, 66, 67, 68, 69, 70, 71, 72, 73, 74, 75, 76, 77, 78, 79, 80, 81, 82, 83, 84, 85, 86, 87, 88, 89, 90, 8, 91, 92, 93, 94, 95, 96, 97, 98, 99, 100, 101, 102, 103, 104, 105, 106, 107, 108, 109, 110, 111, 112, 113, 114, 115, 116, 117, 118, 119, 120, 121, 122, 123, 124, 125, 126, 127, 128, 129, 130, 131, 132, 133, 134, 135, 136, 137, 138, 139, 140, 141, 142, 143, 144, 145, 146, 147, 148, 149, 150, 151, 152, 153, 154, 155, 156, 157, 158, 159, 160, 161, 162, 163, 164, 165, 166, 167, 168, 169, 170, 171, 172, 173, 174, 175, 176, 177, 202, 203, 204, 205, 206, 207, 208, 209, 210, 211, 212, 213, 214, 215, 216, 217, 218, 219, 220, 221, 222, 223, 224, 225, 226, 227, 228, 229, 230] rfl (by decide +kernel)) (goodIn_sub (fun _ h => List.mem_cons_of_mem _ (List.mem_append_right _ h)) (by decide +kernel))
set_option maxRecDepth 20000 in
theorem gX11_deliver_X0_take : GoodIn wsX11_deliver (wsV RX11 256 RX0 yX0_take wsX0_take) := goodIn_app (goodIn_of _ (by decide +kernel)) ggX11_deliver_X0_take
theorem dX11_deliver_0 : decode cX11_deliver 0 = .ok (.aload_n 0, 1) := by decide +kernel
theorem dX11_deliver_1 : decode cX11_deliver 1 = .ok (.iload_n 1, 1) := by decide +kernel
theorem dX11_deliver_2 : decode cX11_deliver 2 = .ok (.invokevirtual 243, 3) := by decide +kernel
theorem dX11_deliver_5 : decode cX11_deliver 5 = .ok (.aload_n 0, 1) := by decide +kernel
theorem dX11_deliver_6 : decode cX11_deliver 6 = .ok (.getfield 71, 3) := by decide +kernel
theorem dX11_deliver_9 : decode cX11_deliver 9 = .ok (.aload_n 0, 1) := by decide +kernel
theorem dX11_deliver_10 : decode cX11_deliver 10 = .ok (.getfield 37, 3) := by decide +kernel
theorem dX11_deliver_13 : decode cX11_deliver 13 = .ok (.iload_n 1, 1) := by decide +kernel
theorem dX11_deliver_14 : decode cX11_deliver 14 = .ok (.invokevirtual 253, 3) := by decide +kernel
theorem dX11_deliver_17 : decode cX11_deliver 17 = .ok (.aload_n 0, 1) := by decide +kernel
theorem dX11_deliver_18 : decode cX11_deliver 18 = .ok (.getfield 55, 3) := by decide +kernel
theorem dX11_deliver_21 : decode cX11_deliver 21 = .ok (.getfield 110, 3) := by decide +kernel
theorem dX11_deliver_24 : decode cX11_deliver 24 = .ok (.invokevirtual 256, 3) := by decide +kernel
theorem dX11_deliver_27 : decode cX11_deliver 27 = .ok (.ireturn, 1) := by decide +kernel
set_option maxRecDepth 20000 in
theorem ggX11_lose_X11_requireMessage : GoodIn wsX11_lose wsX11_requireMessage := goodIn_ca (goodIn_r _ [7, 8, 9, 1, 10, 22, 23, 24, 25, 26, 27, 28, 29, 32, 33, 34] rfl (by decide +kernel)) (goodIn_sub (fun _ h => List.mem_cons_of_mem _ (List.mem_append_right _ h)) (by decide +kernel))
set_option maxRecDepth 20000 in
theorem gX11_lose_X11_requireMessage : GoodIn wsX11_lose (wsV RX11 243 RX11 yX11_requireMessage wsX11_requireMessage) := goodIn_app (goodIn_of _ (by decide +kernel)) ggX11_lose_X11_requireMessage
set_option maxRecDepth 20000 in
theorem ggX11_lose_X7_takeOut : GoodIn wsX11_lose wsX7_takeOut := goodIn_r _ [15, 16, 17, 18, 19, 20, 14, 21, 32, 33, 34] rfl (by decide +kernel)
set_option maxRecDepth 20000 in
theorem gX11_lose_X7_takeOut : GoodIn wsX11_lose (wsV RX11 253 RX7 yX7_takeOut wsX7_takeOut) := goodIn_app (goodIn_of _ (by decide +kernel)) ggX11_lose_X7_takeOut
theorem dX11_lose_0 : decode cX11_lose 0 = .ok (.aload_n 0, 1) := by decide +kernel
theorem dX11_lose_1 : decode cX11_lose 1 = .ok (.iload_n 1, 1) := by decide +kernel
theorem dX11_lose_2 : decode cX11_lose 2 = .ok (.invokevirtual 243, 3) := by decide +kernel
theorem dX11_lose_5 : decode cX11_lose 5 = .ok (.aload_n 0, 1) := by decide +kernel
theorem dX11_lose_6 : decode cX11_lose 6 = .ok (.getfield 37, 3) := by decide +kernel
theorem dX11_lose_9 : decode cX11_lose 9 = .ok (.iload_n 1, 1) := by decide +kernel
theorem dX11_lose_10 : decode cX11_lose 10 = .ok (.invokevirtual 253, 3) := by decide +kernel
theorem dX11_lose_13 : decode cX11_lose 13 = .ok (.getfield 97, 3) := by decide +kernel
theorem dX11_lose_16 : decode cX11_lose 16 = .ok (.ireturn, 1) := by decide +kernel
set_option maxRecDepth 20000 in
theorem ggX11_duplicate_X11_requireMessage : GoodIn wsX11_duplicate wsX11_requireMessage := goodIn_ca (goodIn_r _ [8, 9, 10, 1, 2, 44, 45, 46, 47, 48, 49, 50, 51, 52, 53, 54] rfl (by decide +kernel)) (goodIn_sub (fun _ h => List.mem_cons_of_mem _ (List.mem_append_right _ h)) (by decide +kernel))
set_option maxRecDepth 20000 in
theorem gX11_duplicate_X11_requireMessage : GoodIn wsX11_duplicate (wsV RX11 243 RX11 yX11_requireMessage wsX11_requireMessage) := goodIn_app (goodIn_of _ (by decide +kernel)) ggX11_duplicate_X11_requireMessage
set_option maxRecDepth 20000 in
theorem ggX11_duplicate_X7_messageAt : GoodIn wsX11_duplicate wsX7_messageAt := goodIn_r _ [15, 16, 52, 53, 54] rfl (by decide +kernel)
set_option maxRecDepth 20000 in
theorem gX11_duplicate_X7_messageAt : GoodIn wsX11_duplicate (wsV RX11 246 RX7 yX7_messageAt wsX7_messageAt) := goodIn_app (goodIn_of _ (by decide +kernel)) ggX11_duplicate_X7_messageAt
set_option maxRecDepth 20000 in
theorem ggX11_duplicate_X7_freeMessage : GoodIn wsX11_duplicate wsX7_freeMessage := goodIn_r _ [20, 21, 22, 23, 12, 13, 14, 15, 16, 52, 53, 54, 55, 56] rfl (by decide +kernel)
set_option maxRecDepth 20000 in
theorem gX11_duplicate_X7_freeMessage : GoodIn wsX11_duplicate (wsV RX11 260 RX7 yX7_freeMessage wsX7_freeMessage) := goodIn_app (goodIn_of _ (by decide +kernel)) ggX11_duplicate_X7_freeMessage
set_option maxRecDepth 20000 in
theorem ggX11_duplicate_X5_putFrom : GoodIn wsX11_duplicate wsX5_putFrom := goodIn_r _ [28, 29, 30, 31, 32, 33, 34, 35, 36, 37, 38, 55, 56] rfl (by decide +kernel)
set_option maxRecDepth 20000 in
theorem gX11_duplicate_X5_putFrom : GoodIn wsX11_duplicate (wsV RX11 264 RX5 yX5_putFrom wsX5_putFrom) := goodIn_app (goodIn_of _ (by decide +kernel)) ggX11_duplicate_X5_putFrom
set_option maxRecDepth 20000 in
theorem ggX11_duplicate_X7_addFreeMessage : GoodIn wsX11_duplicate wsX7_addFreeMessage := goodIn_r _ [42, 21, 43, 52, 53, 54] rfl (by decide +kernel)
set_option maxRecDepth 20000 in
theorem gX11_duplicate_X7_addFreeMessage : GoodIn wsX11_duplicate (wsV RX11 268 RX7 yX7_addFreeMessage wsX7_addFreeMessage) := goodIn_app (goodIn_of _ (by decide +kernel)) ggX11_duplicate_X7_addFreeMessage
theorem dX11_duplicate_0 : decode cX11_duplicate 0 = .ok (.aload_n 0, 1) := by decide +kernel
theorem dX11_duplicate_1 : decode cX11_duplicate 1 = .ok (.iload_n 1, 1) := by decide +kernel
theorem dX11_duplicate_2 : decode cX11_duplicate 2 = .ok (.invokevirtual 243, 3) := by decide +kernel
theorem dX11_duplicate_5 : decode cX11_duplicate 5 = .ok (.aload_n 0, 1) := by decide +kernel
theorem dX11_duplicate_6 : decode cX11_duplicate 6 = .ok (.getfield 37, 3) := by decide +kernel
theorem dX11_duplicate_9 : decode cX11_duplicate 9 = .ok (.getfield 231, 3) := by decide +kernel
theorem dX11_duplicate_12 : decode cX11_duplicate 12 = .ok (.bipush 12, 2) := by decide +kernel
theorem dX11_duplicate_14 : decode cX11_duplicate 14 = .ok (.if_icmp .ne 5, 3) := by decide +kernel
theorem dX11_duplicate_17 : decode cX11_duplicate 17 = .ok (.iconst 0, 1) := by decide +kernel
theorem dX11_duplicate_18 : decode cX11_duplicate 18 = .ok (.ireturn, 1) := by decide +kernel
theorem dX11_duplicate_19 : decode cX11_duplicate 19 = .ok (.aload_n 0, 1) := by decide +kernel
theorem dX11_duplicate_20 : decode cX11_duplicate 20 = .ok (.getfield 37, 3) := by decide +kernel
theorem dX11_duplicate_23 : decode cX11_duplicate 23 = .ok (.iload_n 1, 1) := by decide +kernel
theorem dX11_duplicate_24 : decode cX11_duplicate 24 = .ok (.invokevirtual 246, 3) := by decide +kernel
theorem dX11_duplicate_27 : decode cX11_duplicate 27 = .ok (.astore_n 2, 1) := by decide +kernel
theorem dX11_duplicate_28 : decode cX11_duplicate 28 = .ok (.aload_n 0, 1) := by decide +kernel
theorem dX11_duplicate_29 : decode cX11_duplicate 29 = .ok (.getfield 37, 3) := by decide +kernel
theorem dX11_duplicate_32 : decode cX11_duplicate 32 = .ok (.invokevirtual 260, 3) := by decide +kernel
theorem dX11_duplicate_35 : decode cX11_duplicate 35 = .ok (.aload_n 2, 1) := by decide +kernel
theorem dX11_duplicate_36 : decode cX11_duplicate 36 = .ok (.iconst 0, 1) := by decide +kernel
theorem dX11_duplicate_37 : decode cX11_duplicate 37 = .ok (.aload_n 2, 1) := by decide +kernel
theorem dX11_duplicate_38 : decode cX11_duplicate 38 = .ok (.getfield 97, 3) := by decide +kernel
theorem dX11_duplicate_41 : decode cX11_duplicate 41 = .ok (.invokevirtual 264, 3) := by decide +kernel
theorem dX11_duplicate_44 : decode cX11_duplicate 44 = .ok (.aload_n 0, 1) := by decide +kernel
theorem dX11_duplicate_45 : decode cX11_duplicate 45 = .ok (.getfield 37, 3) := by decide +kernel
theorem dX11_duplicate_48 : decode cX11_duplicate 48 = .ok (.invokevirtual 268, 3) := by decide +kernel
theorem dX11_duplicate_51 : decode cX11_duplicate 51 = .ok (.iconst 1, 1) := by decide +kernel
theorem dX11_duplicate_52 : decode cX11_duplicate 52 = .ok (.ireturn, 1) := by decide +kernel
set_option maxRecDepth 20000 in
theorem ggX11_exchange_X11_requireMessage : GoodIn wsX11_exchange wsX11_requireMessage := goodIn_ca (goodIn_r _ [6, 7, 8, 1, 9, 17, 18, 19, 20, 21, 22, 23, 24, 25, 26, 27] rfl (by decide +kernel)) (goodIn_sub (fun _ h => List.mem_cons_of_mem _ (List.mem_append_right _ h)) (by decide +kernel))
set_option maxRecDepth 20000 in
theorem gX11_exchange_X11_requireMessage : GoodIn wsX11_exchange (wsV RX11 243 RX11 yX11_requireMessage wsX11_requireMessage) := goodIn_app (goodIn_of _ (by decide +kernel)) ggX11_exchange_X11_requireMessage
set_option maxRecDepth 20000 in
theorem ggX11_exchange_X7_swap : GoodIn wsX11_exchange wsX7_swap := goodIn_r _ [14, 15, 16, 25, 26, 27] rfl (by decide +kernel)
set_option maxRecDepth 20000 in
theorem gX11_exchange_X7_swap : GoodIn wsX11_exchange (wsV RX11 271 RX7 yX7_swap wsX7_swap) := goodIn_app (goodIn_of _ (by decide +kernel)) ggX11_exchange_X7_swap
theorem dX11_exchange_0 : decode cX11_exchange 0 = .ok (.aload_n 0, 1) := by decide +kernel
theorem dX11_exchange_1 : decode cX11_exchange 1 = .ok (.iload_n 1, 1) := by decide +kernel
theorem dX11_exchange_2 : decode cX11_exchange 2 = .ok (.invokevirtual 243, 3) := by decide +kernel
theorem dX11_exchange_5 : decode cX11_exchange 5 = .ok (.aload_n 0, 1) := by decide +kernel
theorem dX11_exchange_6 : decode cX11_exchange 6 = .ok (.iload_n 2, 1) := by decide +kernel
theorem dX11_exchange_7 : decode cX11_exchange 7 = .ok (.invokevirtual 243, 3) := by decide +kernel
theorem dX11_exchange_10 : decode cX11_exchange 10 = .ok (.iload_n 1, 1) := by decide +kernel
theorem dX11_exchange_11 : decode cX11_exchange 11 = .ok (.iload_n 2, 1) := by decide +kernel
theorem dX11_exchange_12 : decode cX11_exchange 12 = .ok (.if_icmp .ne 5, 3) := by decide +kernel
theorem dX11_exchange_15 : decode cX11_exchange 15 = .ok (.iconst 0, 1) := by decide +kernel
theorem dX11_exchange_16 : decode cX11_exchange 16 = .ok (.ireturn, 1) := by decide +kernel
theorem dX11_exchange_17 : decode cX11_exchange 17 = .ok (.aload_n 0, 1) := by decide +kernel
theorem dX11_exchange_18 : decode cX11_exchange 18 = .ok (.getfield 37, 3) := by decide +kernel
theorem dX11_exchange_21 : decode cX11_exchange 21 = .ok (.iload_n 1, 1) := by decide +kernel
theorem dX11_exchange_22 : decode cX11_exchange 22 = .ok (.iload_n 2, 1) := by decide +kernel
theorem dX11_exchange_23 : decode cX11_exchange 23 = .ok (.invokevirtual 271, 3) := by decide +kernel
theorem dX11_exchange_26 : decode cX11_exchange 26 = .ok (.iconst 1, 1) := by decide +kernel
theorem dX11_exchange_27 : decode cX11_exchange 27 = .ok (.ireturn, 1) := by decide +kernel
set_option maxRecDepth 20000 in
theorem ggX11_templateAge_X0_ageOf : GoodIn wsX11_templateAge wsX0_ageOf := goodIn_ca (goodIn_r _ [10, 11, 12, 13, 35, 36, 37, 38, 39, 40, 41, 42, 43, 44, 45, 46, 47, 48, 49, 50] rfl (by decide +kernel)) (goodIn_sub (fun _ h => List.mem_cons_of_mem _ (List.mem_append_right _ h)) (by decide +kernel))
set_option maxRecDepth 20000 in
theorem gX11_templateAge_X0_ageOf : GoodIn wsX11_templateAge (wsV RX11 278 RX0 yX0_ageOf wsX0_ageOf) := goodIn_app (goodIn_of _ (by decide +kernel)) ggX11_templateAge_X0_ageOf
theorem dX11_templateAge_0 : decode cX11_templateAge 0 = .ok (.iload_n 1, 1) := by decide +kernel
theorem dX11_templateAge_1 : decode cX11_templateAge 1 = .ok (.ifCond .lt 8, 3) := by decide +kernel
theorem dX11_templateAge_4 : decode cX11_templateAge 4 = .ok (.iload_n 1, 1) := by decide +kernel
theorem dX11_templateAge_5 : decode cX11_templateAge 5 = .ok (.iconst 4, 1) := by decide +kernel
theorem dX11_templateAge_6 : decode cX11_templateAge 6 = .ok (.if_icmp .lt 11, 3) := by decide +kernel
theorem dX11_templateAge_9 : decode cX11_templateAge 9 = .ok (.new 116, 3) := by decide +kernel
theorem dX11_templateAge_12 : decode cX11_templateAge 12 = .ok (.dup, 1) := by decide +kernel
theorem dX11_templateAge_13 : decode cX11_templateAge 13 = .ok (.invokespecial 118, 3) := by decide +kernel
theorem dX11_templateAge_16 : decode cX11_templateAge 16 = .ok (.athrow, 1) := by decide +kernel
theorem dX11_templateAge_17 : decode cX11_templateAge 17 = .ok (.aload_n 0, 1) := by decide +kernel
theorem dX11_templateAge_18 : decode cX11_templateAge 18 = .ok (.getfield 71, 3) := by decide +kernel
theorem dX11_templateAge_21 : decode cX11_templateAge 21 = .ok (.iload_n 1, 1) := by decide +kernel
theorem dX11_templateAge_22 : decode cX11_templateAge 22 = .ok (.aload_n 0, 1) := by decide +kernel
theorem dX11_templateAge_23 : decode cX11_templateAge 23 = .ok (.getfield 55, 3) := by decide +kernel
theorem dX11_templateAge_26 : decode cX11_templateAge 26 = .ok (.getfield 110, 3) := by decide +kernel
theorem dX11_templateAge_29 : decode cX11_templateAge 29 = .ok (.invokevirtual 278, 3) := by decide +kernel
theorem dX11_templateAge_32 : decode cX11_templateAge 32 = .ok (.ireturn, 1) := by decide +kernel
theorem dX11_counter_0 : decode cX11_counter 0 = .ok (.iload_n 1, 1) := by decide +kernel
theorem dX11_counter_1 : decode cX11_counter 1 = .ok (.ifCond .lt 9, 3) := by decide +kernel
theorem dX11_counter_4 : decode cX11_counter 4 = .ok (.iload_n 1, 1) := by decide +kernel
theorem dX11_counter_5 : decode cX11_counter 5 = .ok (.bipush 9, 2) := by decide +kernel
theorem dX11_counter_7 : decode cX11_counter 7 = .ok (.if_icmp .lt 11, 3) := by decide +kernel
theorem dX11_counter_10 : decode cX11_counter 10 = .ok (.new 116, 3) := by decide +kernel
theorem dX11_counter_13 : decode cX11_counter 13 = .ok (.dup, 1) := by decide +kernel
theorem dX11_counter_14 : decode cX11_counter 14 = .ok (.invokespecial 118, 3) := by decide +kernel
theorem dX11_counter_17 : decode cX11_counter 17 = .ok (.athrow, 1) := by decide +kernel
theorem dX11_counter_18 : decode cX11_counter 18 = .ok (.aload_n 0, 1) := by decide +kernel
theorem dX11_counter_19 : decode cX11_counter 19 = .ok (.getfield 71, 3) := by decide +kernel
theorem dX11_counter_22 : decode cX11_counter 22 = .ok (.getfield 289, 3) := by decide +kernel
theorem dX11_counter_25 : decode cX11_counter 25 = .ok (.iload_n 1, 1) := by decide +kernel
theorem dX11_counter_26 : decode cX11_counter 26 = .ok (.laload, 1) := by decide +kernel
theorem dX11_counter_27 : decode cX11_counter 27 = .ok (.lreturn, 1) := by decide +kernel
theorem dX11_requireWhat_0 : decode cX11_requireWhat 0 = .ok (.iload_n 0, 1) := by decide +kernel
theorem dX11_requireWhat_1 : decode cX11_requireWhat 1 = .ok (.ifCond .eq 16, 3) := by decide +kernel
theorem dX11_requireWhat_4 : decode cX11_requireWhat 4 = .ok (.iload_n 0, 1) := by decide +kernel
theorem dX11_requireWhat_5 : decode cX11_requireWhat 5 = .ok (.iconst 1, 1) := by decide +kernel
theorem dX11_requireWhat_6 : decode cX11_requireWhat 6 = .ok (.if_icmp .eq 11, 3) := by decide +kernel
theorem dX11_requireWhat_9 : decode cX11_requireWhat 9 = .ok (.new 116, 3) := by decide +kernel
theorem dX11_requireWhat_12 : decode cX11_requireWhat 12 = .ok (.dup, 1) := by decide +kernel
theorem dX11_requireWhat_13 : decode cX11_requireWhat 13 = .ok (.invokespecial 118, 3) := by decide +kernel
theorem dX11_requireWhat_16 : decode cX11_requireWhat 16 = .ok (.athrow, 1) := by decide +kernel
theorem dX11_requireWhat_17 : decode cX11_requireWhat 17 = .ok (.return_, 1) := by decide +kernel
theorem dX11_requireKey_0 : decode cX11_requireKey 0 = .ok (.iload_n 1, 1) := by decide +kernel
theorem dX11_requireKey_1 : decode cX11_requireKey 1 = .ok (.ifCond .lt 14, 3) := by decide +kernel
theorem dX11_requireKey_4 : decode cX11_requireKey 4 = .ok (.iload_n 1, 1) := by decide +kernel
theorem dX11_requireKey_5 : decode cX11_requireKey 5 = .ok (.aload_n 0, 1) := by decide +kernel
theorem dX11_requireKey_6 : decode cX11_requireKey 6 = .ok (.getfield 62, 3) := by decide +kernel
theorem dX11_requireKey_9 : decode cX11_requireKey 9 = .ok (.getfield 92, 3) := by decide +kernel
theorem dX11_requireKey_12 : decode cX11_requireKey 12 = .ok (.if_icmp .lt 11, 3) := by decide +kernel
theorem dX11_requireKey_15 : decode cX11_requireKey 15 = .ok (.new 153, 3) := by decide +kernel
theorem dX11_requireKey_18 : decode cX11_requireKey 18 = .ok (.dup, 1) := by decide +kernel
theorem dX11_requireKey_19 : decode cX11_requireKey 19 = .ok (.invokespecial 155, 3) := by decide +kernel
theorem dX11_requireKey_22 : decode cX11_requireKey 22 = .ok (.athrow, 1) := by decide +kernel
theorem dX11_requireKey_23 : decode cX11_requireKey 23 = .ok (.return_, 1) := by decide +kernel
set_option maxRecDepth 20000 in
theorem ggX11_truth_X11_requireWhat : GoodIn wsX11_truth wsX11_requireWhat := goodIn_ca (goodIn_r _ [5, 6, 7] rfl (by decide +kernel)) (goodIn_sub (fun _ h => List.mem_cons_of_mem _ (List.mem_append_left _ (List.mem_append_right _ h))) (by decide +kernel))
set_option maxRecDepth 20000 in
theorem gX11_truth_X11_requireWhat : GoodIn wsX11_truth (va_wsS RX11 312 yX11_requireWhat wsX11_requireWhat) := goodIn_app (goodIn_of _ (by decide +kernel)) ggX11_truth_X11_requireWhat
set_option maxRecDepth 20000 in
theorem ggX11_truth_X3_keyOf : GoodIn wsX11_truth wsX3_keyOf := goodIn_r _ [11, 12, 13] rfl (by decide +kernel)
set_option maxRecDepth 20000 in
theorem gX11_truth_X3_keyOf : GoodIn wsX11_truth (va_wsS RX11 119 yX3_keyOf wsX3_keyOf) := goodIn_app (goodIn_of _ (by decide +kernel)) ggX11_truth_X3_keyOf
set_option maxRecDepth 20000 in
theorem ggX11_truth_X2_trueValue : GoodIn wsX11_truth wsX2_trueValue := goodIn_ca (goodIn_r _ [18, 19, 20, 21, 22, 23, 24, 25, 26, 27, 28, 29, 30, 31, 32, 33, 34, 10, 35, 36, 37, 38, 39, 40, 41, 42, 43, 44, 45, 54, 55, 56, 57, 58, 59, 60, 61, 62, 63, 64, 65, 66, 67, 68, 69, 70, 71, 72, 73] rfl (by decide +kernel)) (goodIn_sub (fun _ h => List.mem_cons_of_mem _ (List.mem_append_right _ h)) (by decide +kernel))
set_option maxRecDepth 20000 in
theorem gX11_truth_X2_trueValue : GoodIn wsX11_truth (wsV RX11 329 RX2 yX2_trueValue wsX2_trueValue) := goodIn_app (goodIn_of _ (by decide +kernel)) ggX11_truth_X2_trueValue
theorem dX11_truth_0 : decode cX11_truth 0 = .ok (.iload 5, 2) := by decide +kernel
theorem dX11_truth_2 : decode cX11_truth 2 = .ok (.invokestatic 312, 3) := by decide +kernel
theorem dX11_truth_5 : decode cX11_truth 5 = .ok (.aload_n 0, 1) := by decide +kernel
theorem dX11_truth_6 : decode cX11_truth 6 = .ok (.getfield 55, 3) := by decide +kernel
theorem dX11_truth_9 : decode cX11_truth 9 = .ok (.iload_n 1, 1) := by decide +kernel
theorem dX11_truth_10 : decode cX11_truth 10 = .ok (.iload_n 2, 1) := by decide +kernel
theorem dX11_truth_11 : decode cX11_truth 11 = .ok (.iload_n 3, 1) := by decide +kernel
theorem dX11_truth_12 : decode cX11_truth 12 = .ok (.iload 4, 2) := by decide +kernel
theorem dX11_truth_14 : decode cX11_truth 14 = .ok (.invokestatic 119, 3) := by decide +kernel
theorem dX11_truth_17 : decode cX11_truth 17 = .ok (.iload 5, 2) := by decide +kernel
theorem dX11_truth_19 : decode cX11_truth 19 = .ok (.invokevirtual 329, 3) := by decide +kernel
theorem dX11_truth_22 : decode cX11_truth 22 = .ok (.lreturn, 1) := by decide +kernel

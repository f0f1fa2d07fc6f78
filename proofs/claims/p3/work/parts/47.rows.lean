set_option maxRecDepth 20000 in
theorem ggX12_rateBits_Jxf58ca_floatToIntBits_5c35a : GoodIn wsX12_rateBits wsJxf58ca_floatToIntBits_5c35a := goodIn_r _ [6, 7, 8, 9, 10, 11, 12, 13, 5, 14] rfl (by decide +kernel)
set_option maxRecDepth 20000 in
theorem gX12_rateBits_Jxf58ca_floatToIntBits_5c35a : GoodIn wsX12_rateBits (va_wsS RX12 163 yJxf58ca_floatToIntBits_5c35a wsJxf58ca_floatToIntBits_5c35a) := goodIn_app (goodIn_of _ (by decide +kernel)) ggX12_rateBits_Jxf58ca_floatToIntBits_5c35a
theorem dX12_rateBits_0 : decode cX12_rateBits 0 = .ok (.aload_n 0, 1) := by decide +kernel
theorem dX12_rateBits_1 : decode cX12_rateBits 1 = .ok (.iconst 0, 1) := by decide +kernel
theorem dX12_rateBits_2 : decode cX12_rateBits 2 = .ok (.putfield 1, 3) := by decide +kernel
theorem dX12_rateBits_5 : decode cX12_rateBits 5 = .ok (.fconst 1, 1) := by decide +kernel
theorem dX12_rateBits_6 : decode cX12_rateBits 6 = .ok (.aload_n 0, 1) := by decide +kernel
theorem dX12_rateBits_7 : decode cX12_rateBits 7 = .ok (.getfield 107, 3) := by decide +kernel
theorem dX12_rateBits_10 : decode cX12_rateBits 10 = .ok (.i2f, 1) := by decide +kernel
theorem dX12_rateBits_11 : decode cX12_rateBits 11 = .ok (.fdiv, 1) := by decide +kernel
theorem dX12_rateBits_12 : decode cX12_rateBits 12 = .ok (.invokestatic 163, 3) := by decide +kernel
theorem dX12_rateBits_15 : decode cX12_rateBits 15 = .ok (.ireturn, 1) := by decide +kernel
theorem dX12_startExporter_0 : decode cX12_startExporter 0 = .ok (.aload_n 0, 1) := by decide +kernel
theorem dX12_startExporter_1 : decode cX12_startExporter 1 = .ok (.iconst 0, 1) := by decide +kernel
theorem dX12_startExporter_2 : decode cX12_startExporter 2 = .ok (.putfield 133, 3) := by decide +kernel
theorem dX12_startExporter_5 : decode cX12_startExporter 5 = .ok (.aload_n 0, 1) := by decide +kernel
theorem dX12_startExporter_6 : decode cX12_startExporter 6 = .ok (.iconst 0, 1) := by decide +kernel
theorem dX12_startExporter_7 : decode cX12_startExporter 7 = .ok (.putfield 136, 3) := by decide +kernel
theorem dX12_startExporter_10 : decode cX12_startExporter 10 = .ok (.aload_n 0, 1) := by decide +kernel
theorem dX12_startExporter_11 : decode cX12_startExporter 11 = .ok (.lconst 0, 1) := by decide +kernel
theorem dX12_startExporter_12 : decode cX12_startExporter 12 = .ok (.putfield 201, 3) := by decide +kernel
theorem dX12_startExporter_15 : decode cX12_startExporter 15 = .ok (.iconst 0, 1) := by decide +kernel
theorem dX12_startExporter_16 : decode cX12_startExporter 16 = .ok (.istore_n 1, 1) := by decide +kernel
theorem dX12_startExporter_17 : decode cX12_startExporter 17 = .ok (.iload_n 1, 1) := by decide +kernel
theorem dX12_startExporter_18 : decode cX12_startExporter 18 = .ok (.iconst 4, 1) := by decide +kernel
theorem dX12_startExporter_19 : decode cX12_startExporter 19 = .ok (.if_icmp .ge 16, 3) := by decide +kernel
theorem dX12_startExporter_22 : decode cX12_startExporter 22 = .ok (.aload_n 0, 1) := by decide +kernel
theorem dX12_startExporter_23 : decode cX12_startExporter 23 = .ok (.getfield 20, 3) := by decide +kernel
theorem dX12_startExporter_26 : decode cX12_startExporter 26 = .ok (.iload_n 1, 1) := by decide +kernel
theorem dX12_startExporter_27 : decode cX12_startExporter 27 = .ok (.iconst (-1), 1) := by decide +kernel
theorem dX12_startExporter_28 : decode cX12_startExporter 28 = .ok (.iastore, 1) := by decide +kernel
theorem dX12_startExporter_29 : decode cX12_startExporter 29 = .ok (.iinc 1 1, 3) := by decide +kernel
theorem dX12_startExporter_32 : decode cX12_startExporter 32 = .ok (.goto (-15), 3) := by decide +kernel
theorem dX12_startExporter_35 : decode cX12_startExporter 35 = .ok (.return_, 1) := by decide +kernel
set_option maxRecDepth 20000 in
theorem ggX12_setSupport_X12_inRange : GoodIn wsX12_setSupport wsX12_inRange := goodIn_r _ [8] rfl (by decide +kernel)
set_option maxRecDepth 20000 in
theorem gX12_setSupport_X12_inRange : GoodIn wsX12_setSupport (va_wsS RX12 169 yX12_inRange wsX12_inRange) := goodIn_app (goodIn_of _ (by decide +kernel)) ggX12_setSupport_X12_inRange
set_option maxRecDepth 20000 in
theorem ggX12_setSupport_X12_throwsIf : GoodIn wsX12_setSupport wsX12_throwsIf := goodIn_r _ [12, 1, 29, 30, 31, 32, 33, 34, 35, 36, 37, 38, 39, 40, 41, 42, 43, 44, 45, 46, 47, 48, 49, 50, 51, 52, 53, 54, 55, 56, 57, 58, 59, 60, 61, 62, 63, 64, 65, 66, 67, 68, 69, 70, 71, 72, 73, 74, 75, 76, 77, 78, 79, 80, 81, 82] rfl (by decide +kernel)
set_option maxRecDepth 20000 in
theorem gX12_setSupport_X12_throwsIf : GoodIn wsX12_setSupport (wsV RX12 185 RX12 yX12_throwsIf wsX12_throwsIf) := goodIn_app (goodIn_of _ (by decide +kernel)) ggX12_setSupport_X12_throwsIf
set_option maxRecDepth 20000 in
theorem ggX12_setSupport_X12_isSupported : GoodIn wsX12_setSupport wsX12_isSupported := goodIn_ca (goodIn_r _ [16, 3, 29, 30, 31, 32, 33, 34, 35, 36, 37, 38, 39, 40, 41, 42, 43, 44, 45, 46, 47, 48, 49, 50, 51, 52, 53, 54, 55, 56, 57, 58, 59, 60, 61, 62, 63, 64, 65, 66, 67, 68, 69, 70, 71, 72, 73, 74, 75, 76, 77, 78, 79, 80, 81, 82] rfl (by decide +kernel)) (goodIn_sub (fun _ h => List.mem_cons_of_mem _ (List.mem_append_right _ h)) (by decide +kernel))
set_option maxRecDepth 20000 in
theorem gX12_setSupport_X12_isSupported : GoodIn wsX12_setSupport (wsV RX12 206 RX12 yX12_isSupported wsX12_isSupported) := goodIn_app (goodIn_of _ (by decide +kernel)) ggX12_setSupport_X12_isSupported
set_option maxRecDepth 20000 in
theorem ggX12_setSupport_X12_fieldsOf : GoodIn wsX12_setSupport wsX12_fieldsOf := goodIn_ca (goodIn_r _ [20, 21, 22, 23, 7, 24, 3, 25, 26, 27, 28, 29, 30, 31, 32, 33, 34, 35, 36, 37, 38, 39, 40, 41, 42, 43, 44, 45, 46, 47, 48, 49, 50, 51, 52, 53, 54, 55, 56, 57, 58, 59, 60, 61, 62, 63, 64, 65, 66, 67, 68, 69, 70, 71, 72, 73, 74, 75, 76, 77, 78, 79, 80, 81, 82] rfl (by decide +kernel)) (goodIn_sub (fun _ h => List.mem_cons_of_mem _ (List.mem_append_right _ h)) (by decide +kernel))
set_option maxRecDepth 20000 in
theorem gX12_setSupport_X12_fieldsOf : GoodIn wsX12_setSupport (wsV RX12 189 RX12 yX12_fieldsOf wsX12_fieldsOf) := goodIn_app (goodIn_of _ (by decide +kernel)) ggX12_setSupport_X12_fieldsOf
theorem dX12_setSupport_0 : decode cX12_setSupport 0 = .ok (.aload_n 0, 1) := by decide +kernel
theorem dX12_setSupport_1 : decode cX12_setSupport 1 = .ok (.iconst 0, 1) := by decide +kernel
theorem dX12_setSupport_2 : decode cX12_setSupport 2 = .ok (.putfield 1, 3) := by decide +kernel
theorem dX12_setSupport_5 : decode cX12_setSupport 5 = .ok (.aload_n 0, 1) := by decide +kernel
theorem dX12_setSupport_6 : decode cX12_setSupport 6 = .ok (.iload_n 1, 1) := by decide +kernel
theorem dX12_setSupport_7 : decode cX12_setSupport 7 = .ok (.i2l, 1) := by decide +kernel
theorem dX12_setSupport_8 : decode cX12_setSupport 8 = .ok (.lconst 0, 1) := by decide +kernel
theorem dX12_setSupport_9 : decode cX12_setSupport 9 = .ok (.ldc2_w 204, 3) := by decide +kernel
theorem dX12_setSupport_12 : decode cX12_setSupport 12 = .ok (.invokestatic 169, 3) := by decide +kernel
theorem dX12_setSupport_15 : decode cX12_setSupport 15 = .ok (.ifCond .ne 7, 3) := by decide +kernel
theorem dX12_setSupport_18 : decode cX12_setSupport 18 = .ok (.iconst 1, 1) := by decide +kernel
theorem dX12_setSupport_19 : decode cX12_setSupport 19 = .ok (.goto 4, 3) := by decide +kernel
theorem dX12_setSupport_22 : decode cX12_setSupport 22 = .ok (.iconst 0, 1) := by decide +kernel
theorem dX12_setSupport_23 : decode cX12_setSupport 23 = .ok (.iconst 1, 1) := by decide +kernel
theorem dX12_setSupport_24 : decode cX12_setSupport 24 = .ok (.invokevirtual 185, 3) := by decide +kernel
theorem dX12_setSupport_27 : decode cX12_setSupport 27 = .ok (.ifCond .eq 5, 3) := by decide +kernel
theorem dX12_setSupport_30 : decode cX12_setSupport 30 = .ok (.iconst 0, 1) := by decide +kernel
theorem dX12_setSupport_31 : decode cX12_setSupport 31 = .ok (.ireturn, 1) := by decide +kernel
theorem dX12_setSupport_32 : decode cX12_setSupport 32 = .ok (.aload_n 0, 1) := by decide +kernel
theorem dX12_setSupport_33 : decode cX12_setSupport 33 = .ok (.iload_n 1, 1) := by decide +kernel
theorem dX12_setSupport_34 : decode cX12_setSupport 34 = .ok (.invokevirtual 206, 3) := by decide +kernel
theorem dX12_setSupport_37 : decode cX12_setSupport 37 = .ok (.istore_n 3, 1) := by decide +kernel
theorem dX12_setSupport_38 : decode cX12_setSupport 38 = .ok (.iload_n 3, 1) := by decide +kernel
theorem dX12_setSupport_39 : decode cX12_setSupport 39 = .ok (.iload_n 2, 1) := by decide +kernel
theorem dX12_setSupport_40 : decode cX12_setSupport 40 = .ok (.if_icmp .ne 5, 3) := by decide +kernel
theorem dX12_setSupport_43 : decode cX12_setSupport 43 = .ok (.iload_n 3, 1) := by decide +kernel
theorem dX12_setSupport_44 : decode cX12_setSupport 44 = .ok (.ireturn, 1) := by decide +kernel
theorem dX12_setSupport_45 : decode cX12_setSupport 45 = .ok (.aload_n 0, 1) := by decide +kernel
theorem dX12_setSupport_46 : decode cX12_setSupport 46 = .ok (.getfield 17, 3) := by decide +kernel
theorem dX12_setSupport_49 : decode cX12_setSupport 49 = .ok (.bipush 9, 2) := by decide +kernel
theorem dX12_setSupport_51 : decode cX12_setSupport 51 = .ok (.dup2, 1) := by decide +kernel
theorem dX12_setSupport_52 : decode cX12_setSupport 52 = .ok (.iaload, 1) := by decide +kernel
theorem dX12_setSupport_53 : decode cX12_setSupport 53 = .ok (.iconst 1, 1) := by decide +kernel
theorem dX12_setSupport_54 : decode cX12_setSupport 54 = .ok (.iload_n 1, 1) := by decide +kernel
theorem dX12_setSupport_55 : decode cX12_setSupport 55 = .ok (.ishl, 1) := by decide +kernel
theorem dX12_setSupport_56 : decode cX12_setSupport 56 = .ok (.ixor, 1) := by decide +kernel
theorem dX12_setSupport_57 : decode cX12_setSupport 57 = .ok (.iastore, 1) := by decide +kernel
theorem dX12_setSupport_58 : decode cX12_setSupport 58 = .ok (.iconst 0, 1) := by decide +kernel
theorem dX12_setSupport_59 : decode cX12_setSupport 59 = .ok (.istore 4, 2) := by decide +kernel
theorem dX12_setSupport_61 : decode cX12_setSupport 61 = .ok (.iload 4, 2) := by decide +kernel
theorem dX12_setSupport_63 : decode cX12_setSupport 63 = .ok (.aload_n 0, 1) := by decide +kernel
theorem dX12_setSupport_64 : decode cX12_setSupport 64 = .ok (.getfield 17, 3) := by decide +kernel
theorem dX12_setSupport_67 : decode cX12_setSupport 67 = .ok (.bipush 10, 2) := by decide +kernel
theorem dX12_setSupport_69 : decode cX12_setSupport 69 = .ok (.iaload, 1) := by decide +kernel
theorem dX12_setSupport_70 : decode cX12_setSupport 70 = .ok (.if_icmp .ge 31, 3) := by decide +kernel
theorem dX12_setSupport_73 : decode cX12_setSupport 73 = .ok (.aload_n 0, 1) := by decide +kernel
theorem dX12_setSupport_74 : decode cX12_setSupport 74 = .ok (.iload 4, 2) := by decide +kernel
theorem dX12_setSupport_76 : decode cX12_setSupport 76 = .ok (.invokevirtual 189, 3) := by decide +kernel
theorem dX12_setSupport_79 : decode cX12_setSupport 79 = .ok (.iload_n 1, 1) := by decide +kernel
theorem dX12_setSupport_80 : decode cX12_setSupport 80 = .ok (.ishr, 1) := by decide +kernel
theorem dX12_setSupport_81 : decode cX12_setSupport 81 = .ok (.iconst 1, 1) := by decide +kernel
theorem dX12_setSupport_82 : decode cX12_setSupport 82 = .ok (.iand, 1) := by decide +kernel
theorem dX12_setSupport_83 : decode cX12_setSupport 83 = .ok (.iconst 1, 1) := by decide +kernel
theorem dX12_setSupport_84 : decode cX12_setSupport 84 = .ok (.if_icmp .ne 11, 3) := by decide +kernel
theorem dX12_setSupport_87 : decode cX12_setSupport 87 = .ok (.aload_n 0, 1) := by decide +kernel
theorem dX12_setSupport_88 : decode cX12_setSupport 88 = .ok (.getfield 20, 3) := by decide +kernel
theorem dX12_setSupport_91 : decode cX12_setSupport 91 = .ok (.iload 4, 2) := by decide +kernel
theorem dX12_setSupport_93 : decode cX12_setSupport 93 = .ok (.iconst (-1), 1) := by decide +kernel
theorem dX12_setSupport_94 : decode cX12_setSupport 94 = .ok (.iastore, 1) := by decide +kernel
theorem dX12_setSupport_95 : decode cX12_setSupport 95 = .ok (.iinc 4 1, 3) := by decide +kernel
theorem dX12_setSupport_98 : decode cX12_setSupport 98 = .ok (.goto (-37), 3) := by decide +kernel
theorem dX12_setSupport_101 : decode cX12_setSupport 101 = .ok (.iload_n 3, 1) := by decide +kernel
theorem dX12_setSupport_102 : decode cX12_setSupport 102 = .ok (.ireturn, 1) := by decide +kernel
theorem dX12_requestTemplates_0 : decode cX12_requestTemplates 0 = .ok (.aload_n 0, 1) := by decide +kernel
theorem dX12_requestTemplates_1 : decode cX12_requestTemplates 1 = .ok (.iconst 0, 1) := by decide +kernel
theorem dX12_requestTemplates_2 : decode cX12_requestTemplates 2 = .ok (.putfield 1, 3) := by decide +kernel
theorem dX12_requestTemplates_5 : decode cX12_requestTemplates 5 = .ok (.iconst 0, 1) := by decide +kernel
theorem dX12_requestTemplates_6 : decode cX12_requestTemplates 6 = .ok (.istore_n 1, 1) := by decide +kernel
theorem dX12_requestTemplates_7 : decode cX12_requestTemplates 7 = .ok (.iload_n 1, 1) := by decide +kernel
theorem dX12_requestTemplates_8 : decode cX12_requestTemplates 8 = .ok (.iconst 4, 1) := by decide +kernel
theorem dX12_requestTemplates_9 : decode cX12_requestTemplates 9 = .ok (.if_icmp .ge 16, 3) := by decide +kernel
theorem dX12_requestTemplates_12 : decode cX12_requestTemplates 12 = .ok (.aload_n 0, 1) := by decide +kernel
theorem dX12_requestTemplates_13 : decode cX12_requestTemplates 13 = .ok (.getfield 20, 3) := by decide +kernel
theorem dX12_requestTemplates_16 : decode cX12_requestTemplates 16 = .ok (.iload_n 1, 1) := by decide +kernel
theorem dX12_requestTemplates_17 : decode cX12_requestTemplates 17 = .ok (.iconst (-1), 1) := by decide +kernel
theorem dX12_requestTemplates_18 : decode cX12_requestTemplates 18 = .ok (.iastore, 1) := by decide +kernel
theorem dX12_requestTemplates_19 : decode cX12_requestTemplates 19 = .ok (.iinc 1 1, 3) := by decide +kernel
theorem dX12_requestTemplates_22 : decode cX12_requestTemplates 22 = .ok (.goto (-15), 3) := by decide +kernel
theorem dX12_requestTemplates_25 : decode cX12_requestTemplates 25 = .ok (.return_, 1) := by decide +kernel
set_option maxRecDepth 20000 in
theorem ggX12_isDue_X12_isTemplate : GoodIn wsX12_isDue wsX12_isTemplate := goodIn_ca (goodIn_r _ [6, 7, 8, 9, 5, 10, 39, 40, 41, 42, 43, 44, 45, 46, 47, 48, 49, 50, 51, 52, 53, 54, 55, 56, 57, 58, 59, 60, 61, 62, 63, 64, 65, 66, 67, 68, 69, 70, 71, 72, 73, 74, 75, 76, 77, 78, 79, 80, 81, 82, 83, 84, 85, 86, 87, 88, 89, 90, 91, 92] rfl (by decide +kernel)) (goodIn_sub (fun _ h => List.mem_cons_of_mem _ (List.mem_append_right _ h)) (by decide +kernel))
set_option maxRecDepth 20000 in
theorem gX12_isDue_X12_isTemplate : GoodIn wsX12_isDue (wsV RX12 181 RX12 yX12_isTemplate wsX12_isTemplate) := goodIn_app (goodIn_of _ (by decide +kernel)) ggX12_isDue_X12_isTemplate
set_option maxRecDepth 20000 in
theorem ggX12_isDue_X12_throwsIf : GoodIn wsX12_isDue wsX12_throwsIf := goodIn_r _ [14, 1, 39, 40, 41, 42, 43, 44, 45, 46, 47, 48, 49, 50, 51, 52, 53, 54, 55, 56, 57, 58, 59, 60, 61, 62, 63, 64, 65, 66, 67, 68, 69, 70, 71, 72, 73, 74, 75, 76, 77, 78, 79, 80, 81, 82, 83, 84, 85, 86, 87, 88, 89, 90, 91, 92] rfl (by decide +kernel)
set_option maxRecDepth 20000 in
theorem gX12_isDue_X12_throwsIf : GoodIn wsX12_isDue (wsV RX12 185 RX12 yX12_throwsIf wsX12_throwsIf) := goodIn_app (goodIn_of _ (by decide +kernel)) ggX12_isDue_X12_throwsIf
set_option maxRecDepth 20000 in
theorem ggX12_isDue_X12_due : GoodIn wsX12_isDue wsX12_due := goodIn_ca (goodIn_r _ [18, 19, 20, 7, 21, 22, 23, 24, 25, 5, 26, 27, 28, 29, 30, 31, 32, 33, 34, 35, 36, 37, 38, 39, 40, 41, 42, 43, 44, 45, 46, 47, 48, 49, 50, 51, 52, 53, 54, 55, 56, 57, 58, 59, 60, 61, 62, 63, 64, 65, 66, 67, 68, 69, 70, 71, 72, 73, 74, 75, 76, 77, 78, 79, 80, 81, 82, 83, 84, 85, 86, 87, 88, 89, 90, 91, 92] rfl (by decide +kernel)) (goodIn_sub (fun _ h => List.mem_cons_of_mem _ (List.mem_append_right _ h)) (by decide +kernel))
set_option maxRecDepth 20000 in
theorem gX12_isDue_X12_due : GoodIn wsX12_isDue (wsV RX12 209 RX12 yX12_due wsX12_due) := goodIn_app (goodIn_of _ (by decide +kernel)) ggX12_isDue_X12_due
theorem dX12_isDue_0 : decode cX12_isDue 0 = .ok (.aload_n 0, 1) := by decide +kernel
theorem dX12_isDue_1 : decode cX12_isDue 1 = .ok (.iconst 0, 1) := by decide +kernel
theorem dX12_isDue_2 : decode cX12_isDue 2 = .ok (.putfield 1, 3) := by decide +kernel
theorem dX12_isDue_5 : decode cX12_isDue 5 = .ok (.aload_n 0, 1) := by decide +kernel
theorem dX12_isDue_6 : decode cX12_isDue 6 = .ok (.aload_n 0, 1) := by decide +kernel
theorem dX12_isDue_7 : decode cX12_isDue 7 = .ok (.iload_n 1, 1) := by decide +kernel
theorem dX12_isDue_8 : decode cX12_isDue 8 = .ok (.invokevirtual 181, 3) := by decide +kernel
theorem dX12_isDue_11 : decode cX12_isDue 11 = .ok (.ifCond .ne 7, 3) := by decide +kernel
theorem dX12_isDue_14 : decode cX12_isDue 14 = .ok (.iconst 1, 1) := by decide +kernel
theorem dX12_isDue_15 : decode cX12_isDue 15 = .ok (.goto 4, 3) := by decide +kernel
theorem dX12_isDue_18 : decode cX12_isDue 18 = .ok (.iconst 0, 1) := by decide +kernel
theorem dX12_isDue_19 : decode cX12_isDue 19 = .ok (.iconst 1, 1) := by decide +kernel
theorem dX12_isDue_20 : decode cX12_isDue 20 = .ok (.invokevirtual 185, 3) := by decide +kernel
theorem dX12_isDue_23 : decode cX12_isDue 23 = .ok (.ifCond .ne 15, 3) := by decide +kernel
theorem dX12_isDue_26 : decode cX12_isDue 26 = .ok (.aload_n 0, 1) := by decide +kernel
theorem dX12_isDue_27 : decode cX12_isDue 27 = .ok (.iload_n 1, 1) := by decide +kernel
theorem dX12_isDue_28 : decode cX12_isDue 28 = .ok (.invokevirtual 209, 3) := by decide +kernel
theorem dX12_isDue_31 : decode cX12_isDue 31 = .ok (.ifCond .eq 7, 3) := by decide +kernel
theorem dX12_isDue_34 : decode cX12_isDue 34 = .ok (.iconst 1, 1) := by decide +kernel
theorem dX12_isDue_35 : decode cX12_isDue 35 = .ok (.goto 4, 3) := by decide +kernel
theorem dX12_isDue_38 : decode cX12_isDue 38 = .ok (.iconst 0, 1) := by decide +kernel
theorem dX12_isDue_39 : decode cX12_isDue 39 = .ok (.ireturn, 1) := by decide +kernel
set_option maxRecDepth 20000 in
theorem ggX12_contentOf_Jxf58ca_floatToIntBits_5c35a : GoodIn wsX12_contentOf wsJxf58ca_floatToIntBits_5c35a := goodIn_r _ [6, 7, 8, 9, 10, 11, 12, 13, 5, 14] rfl (by decide +kernel)
set_option maxRecDepth 20000 in
theorem gX12_contentOf_Jxf58ca_floatToIntBits_5c35a : GoodIn wsX12_contentOf (va_wsS RX12 163 yJxf58ca_floatToIntBits_5c35a wsJxf58ca_floatToIntBits_5c35a) := goodIn_app (goodIn_of _ (by decide +kernel)) ggX12_contentOf_Jxf58ca_floatToIntBits_5c35a
theorem dX12_contentOf_0 : decode cX12_contentOf 0 = .ok (.iload_n 2, 1) := by decide +kernel
theorem dX12_contentOf_1 : decode cX12_contentOf 1 = .ok (.bipush 8, 2) := by decide +kernel
theorem dX12_contentOf_3 : decode cX12_contentOf 3 = .ok (.if_icmp .ne 17, 3) := by decide +kernel
theorem dX12_contentOf_6 : decode cX12_contentOf 6 = .ok (.fconst 1, 1) := by decide +kernel
theorem dX12_contentOf_7 : decode cX12_contentOf 7 = .ok (.aload_n 0, 1) := by decide +kernel
theorem dX12_contentOf_8 : decode cX12_contentOf 8 = .ok (.getfield 107, 3) := by decide +kernel
theorem dX12_contentOf_11 : decode cX12_contentOf 11 = .ok (.i2f, 1) := by decide +kernel
theorem dX12_contentOf_12 : decode cX12_contentOf 12 = .ok (.fdiv, 1) := by decide +kernel
theorem dX12_contentOf_13 : decode cX12_contentOf 13 = .ok (.invokestatic 163, 3) := by decide +kernel
theorem dX12_contentOf_16 : decode cX12_contentOf 16 = .ok (.i2l, 1) := by decide +kernel
theorem dX12_contentOf_17 : decode cX12_contentOf 17 = .ok (.goto 14, 3) := by decide +kernel
theorem dX12_contentOf_20 : decode cX12_contentOf 20 = .ok (.aload_n 0, 1) := by decide +kernel
theorem dX12_contentOf_21 : decode cX12_contentOf 21 = .ok (.getfield 26, 3) := by decide +kernel
theorem dX12_contentOf_24 : decode cX12_contentOf 24 = .ok (.bipush 8, 2) := by decide +kernel
theorem dX12_contentOf_26 : decode cX12_contentOf 26 = .ok (.iload_n 1, 1) := by decide +kernel
theorem dX12_contentOf_27 : decode cX12_contentOf 27 = .ok (.imul, 1) := by decide +kernel
theorem dX12_contentOf_28 : decode cX12_contentOf 28 = .ok (.iload_n 2, 1) := by decide +kernel
theorem dX12_contentOf_29 : decode cX12_contentOf 29 = .ok (.iadd, 1) := by decide +kernel
theorem dX12_contentOf_30 : decode cX12_contentOf 30 = .ok (.laload, 1) := by decide +kernel
theorem dX12_contentOf_31 : decode cX12_contentOf 31 = .ok (.lreturn, 1) := by decide +kernel
set_option maxRecDepth 20000 in
theorem ggX12_restartExporter_X12_startExporter : GoodIn wsX12_restartExporter wsX12_startExporter := goodIn_ca (goodIn_r _ [7, 2, 8, 9, 10, 11, 12, 13, 14, 15, 16, 17, 18, 19, 20, 21, 22, 23, 24, 25, 26, 27, 28, 29, 30, 31, 32, 33, 34, 35, 36, 37, 38, 39, 40, 41, 42, 43, 44, 45, 46, 47, 48, 49, 50, 51, 52, 53, 54, 55, 56, 57, 58, 59, 60, 61, 62, 63, 64] rfl (by decide +kernel)) (goodIn_sub (fun _ h => List.mem_cons_of_mem _ (List.mem_append_right _ h)) (by decide +kernel))
set_option maxRecDepth 20000 in
theorem gX12_restartExporter_X12_startExporter : GoodIn wsX12_restartExporter (wsV RX12 151 RX12 yX12_startExporter wsX12_startExporter) := goodIn_app (goodIn_of _ (by decide +kernel)) ggX12_restartExporter_X12_startExporter
theorem dX12_restartExporter_0 : decode cX12_restartExporter 0 = .ok (.aload_n 0, 1) := by decide +kernel
theorem dX12_restartExporter_1 : decode cX12_restartExporter 1 = .ok (.iconst 0, 1) := by decide +kernel
theorem dX12_restartExporter_2 : decode cX12_restartExporter 2 = .ok (.putfield 1, 3) := by decide +kernel
theorem dX12_restartExporter_5 : decode cX12_restartExporter 5 = .ok (.aload_n 0, 1) := by decide +kernel
theorem dX12_restartExporter_6 : decode cX12_restartExporter 6 = .ok (.getfield 133, 3) := by decide +kernel
theorem dX12_restartExporter_9 : decode cX12_restartExporter 9 = .ok (.istore_n 1, 1) := by decide +kernel
theorem dX12_restartExporter_10 : decode cX12_restartExporter 10 = .ok (.aload_n 0, 1) := by decide +kernel
theorem dX12_restartExporter_11 : decode cX12_restartExporter 11 = .ok (.invokevirtual 151, 3) := by decide +kernel
theorem dX12_restartExporter_14 : decode cX12_restartExporter 14 = .ok (.iload_n 1, 1) := by decide +kernel
theorem dX12_restartExporter_15 : decode cX12_restartExporter 15 = .ok (.ireturn, 1) := by decide +kernel
theorem dX12_startCollector_0 : decode cX12_startCollector 0 = .ok (.iconst 0, 1) := by decide +kernel
theorem dX12_startCollector_1 : decode cX12_startCollector 1 = .ok (.istore_n 1, 1) := by decide +kernel
theorem dX12_startCollector_2 : decode cX12_startCollector 2 = .ok (.iload_n 1, 1) := by decide +kernel
theorem dX12_startCollector_3 : decode cX12_startCollector 3 = .ok (.iconst 4, 1) := by decide +kernel
theorem dX12_startCollector_4 : decode cX12_startCollector 4 = .ok (.if_icmp .ge 16, 3) := by decide +kernel
theorem dX12_startCollector_7 : decode cX12_startCollector 7 = .ok (.aload_n 0, 1) := by decide +kernel
theorem dX12_startCollector_8 : decode cX12_startCollector 8 = .ok (.getfield 48, 3) := by decide +kernel
theorem dX12_startCollector_11 : decode cX12_startCollector 11 = .ok (.iload_n 1, 1) := by decide +kernel
theorem dX12_startCollector_12 : decode cX12_startCollector 12 = .ok (.iconst 0, 1) := by decide +kernel
theorem dX12_startCollector_13 : decode cX12_startCollector 13 = .ok (.iastore, 1) := by decide +kernel
theorem dX12_startCollector_14 : decode cX12_startCollector 14 = .ok (.iinc 1 1, 3) := by decide +kernel
theorem dX12_startCollector_17 : decode cX12_startCollector 17 = .ok (.goto (-15), 3) := by decide +kernel
theorem dX12_startCollector_20 : decode cX12_startCollector 20 = .ok (.aload_n 0, 1) := by decide +kernel
theorem dX12_startCollector_21 : decode cX12_startCollector 21 = .ok (.iconst 0, 1) := by decide +kernel
theorem dX12_startCollector_22 : decode cX12_startCollector 22 = .ok (.putfield 326, 3) := by decide +kernel
theorem dX12_startCollector_25 : decode cX12_startCollector 25 = .ok (.aload_n 0, 1) := by decide +kernel
theorem dX12_startCollector_26 : decode cX12_startCollector 26 = .ok (.ldc2_w 329, 3) := by decide +kernel
theorem dX12_startCollector_29 : decode cX12_startCollector 29 = .ok (.putfield 331, 3) := by decide +kernel
theorem dX12_startCollector_32 : decode cX12_startCollector 32 = .ok (.return_, 1) := by decide +kernel
theorem dJxf58ca_isNaN_12338_0 : decode cJxf58ca_isNaN_12338 0 = .ok (.fload_n 0, 1) := by decide +kernel
theorem dJxf58ca_isNaN_12338_1 : decode cJxf58ca_isNaN_12338 1 = .ok (.fload_n 0, 1) := by decide +kernel
theorem dJxf58ca_isNaN_12338_2 : decode cJxf58ca_isNaN_12338 2 = .ok (.fcmp .l, 1) := by decide +kernel
theorem dJxf58ca_isNaN_12338_3 : decode cJxf58ca_isNaN_12338 3 = .ok (.ifCond .eq 7, 3) := by decide +kernel
theorem dJxf58ca_isNaN_12338_6 : decode cJxf58ca_isNaN_12338 6 = .ok (.iconst 1, 1) := by decide +kernel
theorem dJxf58ca_isNaN_12338_7 : decode cJxf58ca_isNaN_12338 7 = .ok (.goto 4, 3) := by decide +kernel
theorem dJxf58ca_isNaN_12338_10 : decode cJxf58ca_isNaN_12338 10 = .ok (.iconst 0, 1) := by decide +kernel
theorem dJxf58ca_isNaN_12338_11 : decode cJxf58ca_isNaN_12338 11 = .ok (.ireturn, 1) := by decide +kernel
set_option maxRecDepth 20000 in
theorem ggJxf58ca_floatToIntBits_5c35a_Jxf58ca_isNaN_12338 : GoodIn wsJxf58ca_floatToIntBits_5c35a wsJxf58ca_isNaN_12338 := goodIn_r _ [9] rfl (by decide +kernel)
set_option maxRecDepth 20000 in
theorem gJxf58ca_floatToIntBits_5c35a_Jxf58ca_isNaN_12338 : GoodIn wsJxf58ca_floatToIntBits_5c35a (va_wsS RJxf58ca 59 yJxf58ca_isNaN_12338 wsJxf58ca_isNaN_12338) := goodIn_app (goodIn_of _ (by decide +kernel)) ggJxf58ca_floatToIntBits_5c35a_Jxf58ca_isNaN_12338
theorem dJxf58ca_floatToIntBits_5c35a_0 : decode cJxf58ca_floatToIntBits_5c35a 0 = .ok (.fload_n 0, 1) := by decide +kernel
theorem dJxf58ca_floatToIntBits_5c35a_1 : decode cJxf58ca_floatToIntBits_5c35a 1 = .ok (.invokestatic 59, 3) := by decide +kernel
theorem dJxf58ca_floatToIntBits_5c35a_4 : decode cJxf58ca_floatToIntBits_5c35a 4 = .ok (.ifCond .ne 8, 3) := by decide +kernel
theorem dJxf58ca_floatToIntBits_5c35a_7 : decode cJxf58ca_floatToIntBits_5c35a 7 = .ok (.fload_n 0, 1) := by decide +kernel
theorem dJxf58ca_floatToIntBits_5c35a_8 : decode cJxf58ca_floatToIntBits_5c35a 8 = .ok (.invokestatic 74, 3) := by decide +kernel
theorem dJxf58ca_floatToIntBits_5c35a_11 : decode cJxf58ca_floatToIntBits_5c35a 11 = .ok (.ireturn, 1) := by decide +kernel
theorem dJxf58ca_floatToIntBits_5c35a_12 : decode cJxf58ca_floatToIntBits_5c35a 12 = .ok (.ldc 77, 2) := by decide +kernel
theorem dJxf58ca_floatToIntBits_5c35a_14 : decode cJxf58ca_floatToIntBits_5c35a 14 = .ok (.ireturn, 1) := by decide +kernel

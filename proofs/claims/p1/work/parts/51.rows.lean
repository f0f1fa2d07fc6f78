set_option maxRecDepth 20000 in
theorem ggX12_rateBits_Jxf58ca_floatToIntBits_5c35a : GoodIn wsX12_rateBits wsJxf58ca_floatToIntBits_5c35a := goodIn_r _ [6, 7, 8, 9, 10, 11, 12, 13, 5, 14] (by decide +kernel) (by decide +kernel)
set_option maxRecDepth 20000 in
theorem gX12_rateBits_Jxf58ca_floatToIntBits_5c35a : GoodIn wsX12_rateBits (va_wsS RX12 163 yJxf58ca_floatToIntBits_5c35a wsJxf58ca_floatToIntBits_5c35a) := goodIn_app (goodIn_of _ (by decide +kernel)) ggX12_rateBits_Jxf58ca_floatToIntBits_5c35a
theorem dX12_rateBits_0 : decode cX12_rateBits 0 = .ok (.aload_n 0, 1) := by decide +kernel
theorem dX12_rateBits_1 : decode cX12_rateBits 1 = .ok (.iconst 0, 1) := by decide +kernel
theorem dX12_rateBits_2 : decode cX12_rateBits 2 = .ok (.putfield 1, 3) := by decide +kernel
theorem dX12_rateBits_5 : decode cX12_rateBits 5 = .ok (.fconst 1, 1) := by decide +kernel
theorem dX12_rateBits_6 : decode cX12_rateBits 6 = .ok (.aload_n 0, 1) := by decide +kernel
theorem dX12_rateBits_7 : decode cX12_rateBits 7 = .ok (.getfield 107, 3) := by decide +kernel
theorem dX12_rateBits_10 : decode cX12_rateBits 10 = .ok (.i2f, 1) := by decide +kernel
theorem dX12_rateBits_11 : decode cX12_rateBits 11 = .ok (.fdiv, 1) := by decide +kernel
theorem dX12_rateBits_12 : decode cX12_rateBits 12 = .ok (.invokestatic 163, 3) := by decide +kernel
theorem dX12_rateBits_15 : decode cX12_rateBits 15 = .ok (.ireturn, 1) := by decide +kernel
theorem dX12_isSupported_0 : decode cX12_isSupported 0 = .ok (.aload_n 0, 1) := by decide +kernel
theorem dX12_isSupported_1 : decode cX12_isSupported 1 = .ok (.getfield 17, 3) := by decide +kernel
theorem dX12_isSupported_4 : decode cX12_isSupported 4 = .ok (.bipush 9, 2) := by decide +kernel
theorem dX12_isSupported_6 : decode cX12_isSupported 6 = .ok (.iaload, 1) := by decide +kernel
theorem dX12_isSupported_7 : decode cX12_isSupported 7 = .ok (.iload_n 1, 1) := by decide +kernel
theorem dX12_isSupported_8 : decode cX12_isSupported 8 = .ok (.ishr, 1) := by decide +kernel
theorem dX12_isSupported_9 : decode cX12_isSupported 9 = .ok (.iconst 1, 1) := by decide +kernel
theorem dX12_isSupported_10 : decode cX12_isSupported 10 = .ok (.iand, 1) := by decide +kernel
theorem dX12_isSupported_11 : decode cX12_isSupported 11 = .ok (.iconst 1, 1) := by decide +kernel
theorem dX12_isSupported_12 : decode cX12_isSupported 12 = .ok (.if_icmp .ne 7, 3) := by decide +kernel
theorem dX12_isSupported_15 : decode cX12_isSupported 15 = .ok (.iconst 1, 1) := by decide +kernel
theorem dX12_isSupported_16 : decode cX12_isSupported 16 = .ok (.goto 4, 3) := by decide +kernel
theorem dX12_isSupported_20 : decode cX12_isSupported 20 = .ok (.ireturn, 1) := by decide +kernel
set_option maxRecDepth 20000 in
theorem ggX12_fieldAt_X12_sizeOf : GoodIn wsX12_fieldAt wsX12_sizeOf := goodIn_ca (goodIn_r _ [18, 7, 23, 24, 25, 26, 27, 28, 29, 30, 31, 32, 33, 34, 35, 36, 37, 38, 39, 40, 41, 42, 43, 44, 45, 46, 47, 48, 49, 50, 51, 52, 53, 54, 55, 56, 57, 58, 59, 60, 61, 62, 63, 64, 65, 66, 67, 68, 69, 70, 71, 72, 73, 74, 75, 76] (by decide +kernel) (by decide +kernel)) (goodIn_sub (fun _ h => List.mem_cons_of_mem _ (List.mem_append_right _ h)) (by decide +kernel))
set_option maxRecDepth 20000 in
theorem gX12_fieldAt_X12_sizeOf : GoodIn wsX12_fieldAt (wsV RX12 173 RX12 yX12_sizeOf wsX12_sizeOf) := goodIn_app (goodIn_of _ (by decide +kernel)) ggX12_fieldAt_X12_sizeOf
set_option maxRecDepth 20000 in
theorem ggX12_fieldAt_X12_inRange : GoodIn wsX12_fieldAt wsX12_inRange := goodIn_r _ [10] (by decide +kernel) (by decide +kernel)
set_option maxRecDepth 20000 in
theorem gX12_fieldAt_X12_inRange : GoodIn wsX12_fieldAt (va_wsS RX12 169 yX12_inRange wsX12_inRange) := goodIn_app (goodIn_of _ (by decide +kernel)) ggX12_fieldAt_X12_inRange
set_option maxRecDepth 20000 in
theorem ggX12_fieldAt_X12_fieldOf : GoodIn wsX12_fieldAt wsX12_fieldOf := goodIn_ca (goodIn_r _ [22, 7, 23, 24, 25, 26, 27, 28, 29, 30, 31, 32, 33, 34, 35, 36, 37, 38, 39, 40, 41, 42, 43, 44, 45, 46, 47, 48, 49, 50, 51, 52, 53, 54, 55, 56, 57, 58, 59, 60, 61, 62, 63, 64, 65, 66, 67, 68, 69, 70, 71, 72, 73, 74, 75, 76] (by decide +kernel) (by decide +kernel)) (goodIn_sub (fun _ h => List.mem_cons_of_mem _ (List.mem_append_right _ h)) (by decide +kernel))
set_option maxRecDepth 20000 in
theorem gX12_fieldAt_X12_fieldOf : GoodIn wsX12_fieldAt (wsV RX12 177 RX12 yX12_fieldOf wsX12_fieldOf) := goodIn_app (goodIn_of _ (by decide +kernel)) ggX12_fieldAt_X12_fieldOf
theorem dX12_fieldAt_18 : decode cX12_fieldAt 18 = .ok (.iconst 0, 1) := by decide +kernel
theorem dX12_fieldAt_30 : decode cX12_fieldAt 30 = .ok (.iload_n 2, 1) := by decide +kernel
theorem dX12_fieldAt_31 : decode cX12_fieldAt 31 = .ok (.i2l, 1) := by decide +kernel
theorem dX12_fieldAt_32 : decode cX12_fieldAt 32 = .ok (.lconst 0, 1) := by decide +kernel
theorem dX12_fieldAt_33 : decode cX12_fieldAt 33 = .ok (.aload_n 0, 1) := by decide +kernel
theorem dX12_fieldAt_34 : decode cX12_fieldAt 34 = .ok (.iload_n 1, 1) := by decide +kernel
theorem dX12_fieldAt_35 : decode cX12_fieldAt 35 = .ok (.invokevirtual 173, 3) := by decide +kernel
theorem dX12_fieldAt_38 : decode cX12_fieldAt 38 = .ok (.iconst 1, 1) := by decide +kernel
theorem dX12_fieldAt_39 : decode cX12_fieldAt 39 = .ok (.isub, 1) := by decide +kernel
theorem dX12_fieldAt_40 : decode cX12_fieldAt 40 = .ok (.i2l, 1) := by decide +kernel
theorem dX12_fieldAt_41 : decode cX12_fieldAt 41 = .ok (.invokestatic 169, 3) := by decide +kernel
theorem dX12_fieldAt_44 : decode cX12_fieldAt 44 = .ok (.ifCond .eq 12, 3) := by decide +kernel
theorem dX12_fieldAt_47 : decode cX12_fieldAt 47 = .ok (.aload_n 0, 1) := by decide +kernel
theorem dX12_fieldAt_48 : decode cX12_fieldAt 48 = .ok (.iload_n 1, 1) := by decide +kernel
theorem dX12_fieldAt_49 : decode cX12_fieldAt 49 = .ok (.iload_n 2, 1) := by decide +kernel
theorem dX12_fieldAt_50 : decode cX12_fieldAt 50 = .ok (.invokevirtual 177, 3) := by decide +kernel
theorem dX12_fieldAt_53 : decode cX12_fieldAt 53 = .ok (.goto 4, 3) := by decide +kernel
theorem dX12_fieldAt_56 : decode cX12_fieldAt 56 = .ok (.iconst (-1), 1) := by decide +kernel
set_option maxRecDepth 20000 in
theorem ggX12_setSupport_X12_inRange : GoodIn wsX12_setSupport wsX12_inRange := goodIn_r _ [8] (by decide +kernel) (by decide +kernel)
set_option maxRecDepth 20000 in
theorem gX12_setSupport_X12_inRange : GoodIn wsX12_setSupport (va_wsS RX12 169 yX12_inRange wsX12_inRange) := goodIn_app (goodIn_of _ (by decide +kernel)) ggX12_setSupport_X12_inRange
set_option maxRecDepth 20000 in
theorem ggX12_setSupport_X12_throwsIf : GoodIn wsX12_setSupport wsX12_throwsIf := goodIn_r _ [12, 1, 29, 30, 31, 32, 33, 34, 35, 36, 37, 38, 39, 40, 41, 42, 43, 44, 45, 46, 47, 48, 49, 50, 51, 52, 53, 54, 55, 56, 57, 58, 59, 60, 61, 62, 63, 64, 65, 66, 67, 68, 69, 70, 71, 72, 73, 74, 75, 76, 77, 78, 79, 80, 81, 82] (by decide +kernel) (by decide +kernel)
set_option maxRecDepth 20000 in
theorem gX12_setSupport_X12_throwsIf : GoodIn wsX12_setSupport (wsV RX12 185 RX12 yX12_throwsIf wsX12_throwsIf) := goodIn_app (goodIn_of _ (by decide +kernel)) ggX12_setSupport_X12_throwsIf
set_option maxRecDepth 20000 in
theorem ggX12_setSupport_X12_isSupported : GoodIn wsX12_setSupport wsX12_isSupported := goodIn_ca (goodIn_r _ [16, 3, 29, 30, 31, 32, 33, 34, 35, 36, 37, 38, 39, 40, 41, 42, 43, 44, 45, 46, 47, 48, 49, 50, 51, 52, 53, 54, 55, 56, 57, 58, 59, 60, 61, 62, 63, 64, 65, 66, 67, 68, 69, 70, 71, 72, 73, 74, 75, 76, 77, 78, 79, 80, 81, 82] (by decide +kernel) (by decide +kernel)) (goodIn_sub (fun _ h => List.mem_cons_of_mem _ (List.mem_append_right _ h)) (by decide +kernel))
set_option maxRecDepth 20000 in
theorem gX12_setSupport_X12_isSupported : GoodIn wsX12_setSupport (wsV RX12 206 RX12 yX12_isSupported wsX12_isSupported) := goodIn_app (goodIn_of _ (by decide +kernel)) ggX12_setSupport_X12_isSupported
set_option maxRecDepth 20000 in
theorem ggX12_setSupport_X12_fieldsOf : GoodIn wsX12_setSupport wsX12_fieldsOf := goodIn_ca (goodIn_r _ [20, 21, 22, 23, 7, 24, 3, 25, 26, 27, 28, 29, 30, 31, 32, 33, 34, 35, 36, 37, 38, 39, 40, 41, 42, 43, 44, 45, 46, 47, 48, 49, 50, 51, 52, 53, 54, 55, 56, 57, 58, 59, 60, 61, 62, 63, 64, 65, 66, 67, 68, 69, 70, 71, 72, 73, 74, 75, 76, 77, 78, 79, 80, 81, 82] (by decide +kernel) (by decide +kernel)) (goodIn_sub (fun _ h => List.mem_cons_of_mem _ (List.mem_append_right _ h)) (by decide +kernel))
set_option maxRecDepth 20000 in
theorem gX12_setSupport_X12_fieldsOf : GoodIn wsX12_setSupport (wsV RX12 189 RX12 yX12_fieldsOf wsX12_fieldsOf) := goodIn_app (goodIn_of _ (by decide +kernel)) ggX12_setSupport_X12_fieldsOf
theorem dX12_setSupport_0 : decode cX12_setSupport 0 = .ok (.aload_n 0, 1) := by decide +kernel
theorem dX12_setSupport_1 : decode cX12_setSupport 1 = .ok (.iconst 0, 1) := by decide +kernel
theorem dX12_setSupport_2 : decode cX12_setSupport 2 = .ok (.putfield 1, 3) := by decide +kernel
theorem dX12_setSupport_5 : decode cX12_setSupport 5 = .ok (.aload_n 0, 1) := by decide +kernel
theorem dX12_setSupport_6 : decode cX12_setSupport 6 = .ok (.iload_n 1, 1) := by decide +kernel
theorem dX12_setSupport_7 : decode cX12_setSupport 7 = .ok (.i2l, 1) := by decide +kernel
theorem dX12_setSupport_8 : decode cX12_setSupport 8 = .ok (.lconst 0, 1) := by decide +kernel
theorem dX12_setSupport_9 : decode cX12_setSupport 9 = .ok (.ldc2_w 204, 3) := by decide +kernel
theorem dX12_setSupport_12 : decode cX12_setSupport 12 = .ok (.invokestatic 169, 3) := by decide +kernel
theorem dX12_setSupport_15 : decode cX12_setSupport 15 = .ok (.ifCond .ne 7, 3) := by decide +kernel
theorem dX12_setSupport_18 : decode cX12_setSupport 18 = .ok (.iconst 1, 1) := by decide +kernel
theorem dX12_setSupport_19 : decode cX12_setSupport 19 = .ok (.goto 4, 3) := by decide +kernel
theorem dX12_setSupport_22 : decode cX12_setSupport 22 = .ok (.iconst 0, 1) := by decide +kernel
theorem dX12_setSupport_23 : decode cX12_setSupport 23 = .ok (.iconst 1, 1) := by decide +kernel
theorem dX12_setSupport_24 : decode cX12_setSupport 24 = .ok (.invokevirtual 185, 3) := by decide +kernel
theorem dX12_setSupport_27 : decode cX12_setSupport 27 = .ok (.ifCond .eq 5, 3) := by decide +kernel
theorem dX12_setSupport_30 : decode cX12_setSupport 30 = .ok (.iconst 0, 1) := by decide +kernel
theorem dX12_setSupport_31 : decode cX12_setSupport 31 = .ok (.ireturn, 1) := by decide +kernel
theorem dX12_setSupport_32 : decode cX12_setSupport 32 = .ok (.aload_n 0, 1) := by decide +kernel
theorem dX12_setSupport_33 : decode cX12_setSupport 33 = .ok (.iload_n 1, 1) := by decide +kernel
theorem dX12_setSupport_34 : decode cX12_setSupport 34 = .ok (.invokevirtual 206, 3) := by decide +kernel
theorem dX12_setSupport_37 : decode cX12_setSupport 37 = .ok (.istore_n 3, 1) := by decide +kernel
theorem dX12_setSupport_38 : decode cX12_setSupport 38 = .ok (.iload_n 3, 1) := by decide +kernel
theorem dX12_setSupport_39 : decode cX12_setSupport 39 = .ok (.iload_n 2, 1) := by decide +kernel
theorem dX12_setSupport_40 : decode cX12_setSupport 40 = .ok (.if_icmp .ne 5, 3) := by decide +kernel
theorem dX12_setSupport_43 : decode cX12_setSupport 43 = .ok (.iload_n 3, 1) := by decide +kernel
theorem dX12_setSupport_44 : decode cX12_setSupport 44 = .ok (.ireturn, 1) := by decide +kernel
theorem dX12_setSupport_45 : decode cX12_setSupport 45 = .ok (.aload_n 0, 1) := by decide +kernel
theorem dX12_setSupport_46 : decode cX12_setSupport 46 = .ok (.getfield 17, 3) := by decide +kernel
theorem dX12_setSupport_49 : decode cX12_setSupport 49 = .ok (.bipush 9, 2) := by decide +kernel
theorem dX12_setSupport_51 : decode cX12_setSupport 51 = .ok (.dup2, 1) := by decide +kernel
theorem dX12_setSupport_52 : decode cX12_setSupport 52 = .ok (.iaload, 1) := by decide +kernel
theorem dX12_setSupport_53 : decode cX12_setSupport 53 = .ok (.iconst 1, 1) := by decide +kernel
theorem dX12_setSupport_54 : decode cX12_setSupport 54 = .ok (.iload_n 1, 1) := by decide +kernel
theorem dX12_setSupport_55 : decode cX12_setSupport 55 = .ok (.ishl, 1) := by decide +kernel
theorem dX12_setSupport_56 : decode cX12_setSupport 56 = .ok (.ixor, 1) := by decide +kernel
theorem dX12_setSupport_57 : decode cX12_setSupport 57 = .ok (.iastore, 1) := by decide +kernel
theorem dX12_setSupport_58 : decode cX12_setSupport 58 = .ok (.iconst 0, 1) := by decide +kernel
theorem dX12_setSupport_59 : decode cX12_setSupport 59 = .ok (.istore 4, 2) := by decide +kernel
theorem dX12_setSupport_61 : decode cX12_setSupport 61 = .ok (.iload 4, 2) := by decide +kernel
theorem dX12_setSupport_63 : decode cX12_setSupport 63 = .ok (.aload_n 0, 1) := by decide +kernel
theorem dX12_setSupport_64 : decode cX12_setSupport 64 = .ok (.getfield 17, 3) := by decide +kernel
theorem dX12_setSupport_67 : decode cX12_setSupport 67 = .ok (.bipush 10, 2) := by decide +kernel
theorem dX12_setSupport_69 : decode cX12_setSupport 69 = .ok (.iaload, 1) := by decide +kernel
theorem dX12_setSupport_70 : decode cX12_setSupport 70 = .ok (.if_icmp .ge 31, 3) := by decide +kernel
theorem dX12_setSupport_73 : decode cX12_setSupport 73 = .ok (.aload_n 0, 1) := by decide +kernel
theorem dX12_setSupport_74 : decode cX12_setSupport 74 = .ok (.iload 4, 2) := by decide +kernel
theorem dX12_setSupport_76 : decode cX12_setSupport 76 = .ok (.invokevirtual 189, 3) := by decide +kernel
theorem dX12_setSupport_79 : decode cX12_setSupport 79 = .ok (.iload_n 1, 1) := by decide +kernel
theorem dX12_setSupport_80 : decode cX12_setSupport 80 = .ok (.ishr, 1) := by decide +kernel
theorem dX12_setSupport_81 : decode cX12_setSupport 81 = .ok (.iconst 1, 1) := by decide +kernel
theorem dX12_setSupport_82 : decode cX12_setSupport 82 = .ok (.iand, 1) := by decide +kernel
theorem dX12_setSupport_83 : decode cX12_setSupport 83 = .ok (.iconst 1, 1) := by decide +kernel
theorem dX12_setSupport_84 : decode cX12_setSupport 84 = .ok (.if_icmp .ne 11, 3) := by decide +kernel
theorem dX12_setSupport_87 : decode cX12_setSupport 87 = .ok (.aload_n 0, 1) := by decide +kernel
theorem dX12_setSupport_88 : decode cX12_setSupport 88 = .ok (.getfield 20, 3) := by decide +kernel
theorem dX12_setSupport_91 : decode cX12_setSupport 91 = .ok (.iload 4, 2) := by decide +kernel
theorem dX12_setSupport_93 : decode cX12_setSupport 93 = .ok (.iconst (-1), 1) := by decide +kernel
theorem dX12_setSupport_94 : decode cX12_setSupport 94 = .ok (.iastore, 1) := by decide +kernel
theorem dX12_setSupport_95 : decode cX12_setSupport 95 = .ok (.iinc 4 1, 3) := by decide +kernel
theorem dX12_setSupport_98 : decode cX12_setSupport 98 = .ok (.goto (-37), 3) := by decide +kernel
theorem dX12_setSupport_101 : decode cX12_setSupport 101 = .ok (.iload_n 3, 1) := by decide +kernel
theorem dX12_setSupport_102 : decode cX12_setSupport 102 = .ok (.ireturn, 1) := by decide +kernel
theorem dX12_changeRate_8 : decode cX12_changeRate 8 = .ok (.iconst 0, 1) := by decide +kernel
theorem dX12_changeRate_9 : decode cX12_changeRate 9 = .ok (.ireturn, 1) := by decide +kernel
set_option maxRecDepth 20000 in
theorem ggX12_setRate_X12_changeRate : GoodIn wsX12_setRate wsX12_changeRate := goodIn_ca (goodIn_r _ [10, 11, 12, 13, 14, 5, 15, 16, 17, 18, 19, 20, 21, 22, 23, 24, 25, 26, 27, 28, 29, 30, 31, 32, 33, 34, 35, 36, 37, 38, 39, 40, 41, 42, 43, 44, 45, 46, 47, 48, 49, 50, 51, 52, 53, 54, 55, 56, 57, 58, 59, 60, 61, 62, 63, 64, 65, 66, 67, 68, 69, 70, 71, 126, 127, 128, 129, 130, 131, 132, 133, 134, 135, 136, 137, 138, 139, 140, 141, 142, 143, 144, 145, 146, 147, 148, 149, 150, 151, 152, 153, 154, 155, 156, 157, 158, 159, 160, 161, 162, 163, 164, 165, 166, 167, 168, 169, 170, 171, 172, 173, 174, 175, 176, 177, 178, 179] (by decide +kernel) (by decide +kernel)) (goodIn_sub (fun _ h => List.mem_cons_of_mem _ (List.mem_append_right _ h)) (by decide +kernel))
set_option maxRecDepth 20000 in
theorem gX12_setRate_X12_changeRate : GoodIn wsX12_setRate (wsV RX12 265 RX12 yX12_changeRate wsX12_changeRate) := goodIn_app (goodIn_of _ (by decide +kernel)) ggX12_setRate_X12_changeRate
set_option maxRecDepth 20000 in
theorem ggX12_setRate_X12_sendPending : GoodIn wsX12_setRate wsX12_sendPending := goodIn_ca (goodIn_r _ [75, 45, 76, 77, 78, 79, 80, 81, 82, 83, 84, 85, 5, 86, 87, 47, 88, 89, 90, 91, 21, 92, 93, 94, 95, 96, 97, 98, 25, 26, 27, 28, 29, 30, 31, 32, 33, 34, 35, 36, 37, 38, 39, 40, 99, 100, 101, 102, 103, 104, 105, 49, 50, 51, 52, 53, 54, 55, 106, 107, 108, 109, 110, 111, 112, 113, 48, 46, 114, 115, 116, 117, 118, 119, 120, 121, 122, 123, 124, 125, 126, 127, 128, 129, 130, 131, 132, 133, 134, 135, 136, 137, 138, 139, 140, 141, 142, 143, 144, 145, 146, 147, 148, 149, 150, 151, 152, 153, 154, 155, 156, 157, 158, 159, 160, 161, 162, 163, 164, 165, 166, 167, 168, 169, 170, 171, 172, 173, 174, 175, 176, 177, 178, 179] (by decide +kernel) (by decide +kernel)) (goodIn_sub (fun _ h => List.mem_cons_of_mem _ (List.mem_append_right _ h)) (by decide +kernel))
set_option maxRecDepth 20000 in
theorem gX12_setRate_X12_sendPending : GoodIn wsX12_setRate (wsV RX12 254 RX12 yX12_sendPending wsX12_sendPending) := goodIn_app (goodIn_of _ (by decide +kernel)) ggX12_setRate_X12_sendPending
theorem dX12_setRate_19 : decode cX12_setRate 19 = .ok (.aload_n 0, 1) := by decide +kernel
theorem dX12_setRate_20 : decode cX12_setRate 20 = .ok (.iload_n 1, 1) := by decide +kernel
theorem dX12_setRate_21 : decode cX12_setRate 21 = .ok (.invokevirtual 265, 3) := by decide +kernel
theorem dX12_setRate_24 : decode cX12_setRate 24 = .ok (.istore_n 2, 1) := by decide +kernel
theorem dX12_setRate_25 : decode cX12_setRate 25 = .ok (.aload_n 0, 1) := by decide +kernel
theorem dX12_setRate_26 : decode cX12_setRate 26 = .ok (.invokevirtual 254, 3) := by decide +kernel
theorem dX12_setRate_29 : decode cX12_setRate 29 = .ok (.iload_n 2, 1) := by decide +kernel
theorem dX12_setRate_30 : decode cX12_setRate 30 = .ok (.ireturn, 1) := by decide +kernel
theorem dX12_isKnown_0 : decode cX12_isKnown 0 = .ok (.aload_n 0, 1) := by decide +kernel
theorem dX12_isKnown_1 : decode cX12_isKnown 1 = .ok (.getfield 48, 3) := by decide +kernel
theorem dX12_isKnown_4 : decode cX12_isKnown 4 = .ok (.iload_n 1, 1) := by decide +kernel
theorem dX12_isKnown_5 : decode cX12_isKnown 5 = .ok (.iaload, 1) := by decide +kernel
theorem dX12_isKnown_6 : decode cX12_isKnown 6 = .ok (.ifCond .le 28, 3) := by decide +kernel
theorem dX12_isKnown_34 : decode cX12_isKnown 34 = .ok (.iconst 0, 1) := by decide +kernel
theorem dX12_isKnown_35 : decode cX12_isKnown 35 = .ok (.ireturn, 1) := by decide +kernel
set_option maxRecDepth 20000 in
theorem ggX12_knownTemplates_X12_isKnown : GoodIn wsX12_knownTemplates wsX12_isKnown := goodIn_ca (goodIn_r _ [6, 7, 8, 9, 10, 11, 12, 13, 14, 15, 16, 17, 18, 19, 20, 21, 22, 23, 24, 25, 26, 27, 28, 29, 30, 31, 32, 33, 34, 35, 36, 37, 38, 39, 40, 41, 42, 43, 44, 45, 46, 47, 48, 49, 50, 51, 52, 53, 54, 55, 56, 57, 58, 59, 60, 61, 62, 63, 64] (by decide +kernel) (by decide +kernel)) (goodIn_sub (fun _ h => List.mem_cons_of_mem _ (List.mem_append_right _ h)) (by decide +kernel))
set_option maxRecDepth 20000 in
theorem gX12_knownTemplates_X12_isKnown : GoodIn wsX12_knownTemplates (wsV RX12 334 RX12 yX12_isKnown wsX12_isKnown) := goodIn_app (goodIn_of _ (by decide +kernel)) ggX12_knownTemplates_X12_isKnown
theorem dX12_knownTemplates_0 : decode cX12_knownTemplates 0 = .ok (.aload_n 0, 1) := by decide +kernel
theorem dX12_knownTemplates_1 : decode cX12_knownTemplates 1 = .ok (.iconst 0, 1) := by decide +kernel
theorem dX12_knownTemplates_2 : decode cX12_knownTemplates 2 = .ok (.putfield 1, 3) := by decide +kernel
theorem dX12_knownTemplates_5 : decode cX12_knownTemplates 5 = .ok (.iconst 0, 1) := by decide +kernel
theorem dX12_knownTemplates_6 : decode cX12_knownTemplates 6 = .ok (.istore_n 1, 1) := by decide +kernel
theorem dX12_knownTemplates_7 : decode cX12_knownTemplates 7 = .ok (.iconst 0, 1) := by decide +kernel
theorem dX12_knownTemplates_8 : decode cX12_knownTemplates 8 = .ok (.istore_n 2, 1) := by decide +kernel
theorem dX12_knownTemplates_9 : decode cX12_knownTemplates 9 = .ok (.iload_n 2, 1) := by decide +kernel
theorem dX12_knownTemplates_10 : decode cX12_knownTemplates 10 = .ok (.iconst 4, 1) := by decide +kernel
theorem dX12_knownTemplates_11 : decode cX12_knownTemplates 11 = .ok (.if_icmp .ge 27, 3) := by decide +kernel
theorem dX12_knownTemplates_14 : decode cX12_knownTemplates 14 = .ok (.iload_n 1, 1) := by decide +kernel
theorem dX12_knownTemplates_15 : decode cX12_knownTemplates 15 = .ok (.aload_n 0, 1) := by decide +kernel
theorem dX12_knownTemplates_16 : decode cX12_knownTemplates 16 = .ok (.iload_n 2, 1) := by decide +kernel
theorem dX12_knownTemplates_17 : decode cX12_knownTemplates 17 = .ok (.invokevirtual 334, 3) := by decide +kernel
theorem dX12_knownTemplates_20 : decode cX12_knownTemplates 20 = .ok (.ifCond .eq 9, 3) := by decide +kernel
theorem dX12_knownTemplates_29 : decode cX12_knownTemplates 29 = .ok (.iconst 0, 1) := by decide +kernel
theorem dX12_knownTemplates_30 : decode cX12_knownTemplates 30 = .ok (.ior, 1) := by decide +kernel
theorem dX12_knownTemplates_31 : decode cX12_knownTemplates 31 = .ok (.istore_n 1, 1) := by decide +kernel
theorem dX12_knownTemplates_32 : decode cX12_knownTemplates 32 = .ok (.iinc 2 1, 3) := by decide +kernel
theorem dX12_knownTemplates_35 : decode cX12_knownTemplates 35 = .ok (.goto (-26), 3) := by decide +kernel
theorem dX12_knownTemplates_38 : decode cX12_knownTemplates 38 = .ok (.iload_n 1, 1) := by decide +kernel
theorem dX12_knownTemplates_39 : decode cX12_knownTemplates 39 = .ok (.ireturn, 1) := by decide +kernel
theorem dX12_templateAge_22 : decode cX12_templateAge 22 = .ok (.iconst 0, 1) := by decide +kernel
theorem dX12_templateAge_32 : decode cX12_templateAge 32 = .ok (.aload_n 0, 1) := by decide +kernel
theorem dX12_templateAge_33 : decode cX12_templateAge 33 = .ok (.getfield 48, 3) := by decide +kernel
theorem dX12_templateAge_36 : decode cX12_templateAge 36 = .ok (.iload_n 1, 1) := by decide +kernel
theorem dX12_templateAge_37 : decode cX12_templateAge 37 = .ok (.iaload, 1) := by decide +kernel
theorem dX12_templateAge_38 : decode cX12_templateAge 38 = .ok (.ifCond .le 17, 3) := by decide +kernel
theorem dX12_templateAge_55 : decode cX12_templateAge 55 = .ok (.iconst (-1), 1) := by decide +kernel
theorem dX12_templateAge_56 : decode cX12_templateAge 56 = .ok (.ireturn, 1) := by decide +kernel
theorem dX12_counter_22 : decode cX12_counter 22 = .ok (.iconst 0, 1) := by decide +kernel
theorem dX12_counter_34 : decode cX12_counter 34 = .ok (.aload_n 0, 1) := by decide +kernel
theorem dX12_counter_35 : decode cX12_counter 35 = .ok (.getfield 45, 3) := by decide +kernel
theorem dX12_counter_38 : decode cX12_counter 38 = .ok (.iload_n 1, 1) := by decide +kernel
theorem dX12_counter_39 : decode cX12_counter 39 = .ok (.laload, 1) := by decide +kernel
theorem dX12_accept_0 : decode cX12_accept 0 = .ok (.aload_n 0, 1) := by decide +kernel
theorem dX12_accept_1 : decode cX12_accept 1 = .ok (.getfield 45, 3) := by decide +kernel
theorem dX12_accept_4 : decode cX12_accept 4 = .ok (.bipush 8, 2) := by decide +kernel
theorem dX12_accept_6 : decode cX12_accept 6 = .ok (.dup2, 1) := by decide +kernel
theorem dX12_accept_7 : decode cX12_accept 7 = .ok (.laload, 1) := by decide +kernel
theorem dX12_accept_8 : decode cX12_accept 8 = .ok (.lconst 1, 1) := by decide +kernel
theorem dX12_accept_9 : decode cX12_accept 9 = .ok (.ladd, 1) := by decide +kernel
theorem dX12_accept_10 : decode cX12_accept 10 = .ok (.lastore, 1) := by decide +kernel
theorem dX12_accept_11 : decode cX12_accept 11 = .ok (.aload_n 0, 1) := by decide +kernel
theorem dX12_accept_12 : decode cX12_accept 12 = .ok (.getfield 280, 3) := by decide +kernel
theorem dX12_accept_15 : decode cX12_accept 15 = .ok (.bipush 16, 2) := by decide +kernel
theorem dX12_accept_17 : decode cX12_accept 17 = .ok (.if_icmp .lt 31, 3) := by decide +kernel
theorem dX12_accept_48 : decode cX12_accept 48 = .ok (.aload_n 0, 1) := by decide +kernel
theorem dX12_accept_49 : decode cX12_accept 49 = .ok (.getfield 45, 3) := by decide +kernel
theorem dX12_accept_52 : decode cX12_accept 52 = .ok (.iconst 4, 1) := by decide +kernel
theorem dX12_accept_53 : decode cX12_accept 53 = .ok (.dup2, 1) := by decide +kernel
theorem dX12_accept_54 : decode cX12_accept 54 = .ok (.laload, 1) := by decide +kernel
theorem dX12_accept_55 : decode cX12_accept 55 = .ok (.lconst 1, 1) := by decide +kernel
theorem dX12_accept_56 : decode cX12_accept 56 = .ok (.ladd, 1) := by decide +kernel
theorem dX12_accept_57 : decode cX12_accept 57 = .ok (.lastore, 1) := by decide +kernel
theorem dX12_accept_58 : decode cX12_accept 58 = .ok (.iconst 0, 1) := by decide +kernel
theorem dX12_accept_59 : decode cX12_accept 59 = .ok (.ireturn, 1) := by decide +kernel
theorem dX12_appendBytes_0 : decode cX12_appendBytes 0 = .ok (.bipush 24, 2) := by decide +kernel
theorem dX12_appendBytes_2 : decode cX12_appendBytes 2 = .ok (.istore_n 2, 1) := by decide +kernel
theorem dX12_appendBytes_3 : decode cX12_appendBytes 3 = .ok (.iload_n 2, 1) := by decide +kernel
theorem dX12_appendBytes_4 : decode cX12_appendBytes 4 = .ok (.ifCond .lt 32, 3) := by decide +kernel
theorem dX12_appendBytes_7 : decode cX12_appendBytes 7 = .ok (.aload_n 0, 1) := by decide +kernel
theorem dX12_appendBytes_8 : decode cX12_appendBytes 8 = .ok (.getfield 88, 3) := by decide +kernel
theorem dX12_appendBytes_11 : decode cX12_appendBytes 11 = .ok (.aload_n 0, 1) := by decide +kernel
theorem dX12_appendBytes_12 : decode cX12_appendBytes 12 = .ok (.getfield 441, 3) := by decide +kernel
theorem dX12_appendBytes_15 : decode cX12_appendBytes 15 = .ok (.iload_n 1, 1) := by decide +kernel
theorem dX12_appendBytes_16 : decode cX12_appendBytes 16 = .ok (.iload_n 2, 1) := by decide +kernel
theorem dX12_appendBytes_17 : decode cX12_appendBytes 17 = .ok (.ishr, 1) := by decide +kernel
theorem dX12_appendBytes_18 : decode cX12_appendBytes 18 = .ok (.i2b, 1) := by decide +kernel
theorem dX12_appendBytes_19 : decode cX12_appendBytes 19 = .ok (.bastore, 1) := by decide +kernel
theorem dX12_appendBytes_20 : decode cX12_appendBytes 20 = .ok (.aload_n 0, 1) := by decide +kernel
theorem dX12_appendBytes_21 : decode cX12_appendBytes 21 = .ok (.dup, 1) := by decide +kernel
theorem dX12_appendBytes_22 : decode cX12_appendBytes 22 = .ok (.getfield 441, 3) := by decide +kernel
theorem dX12_appendBytes_25 : decode cX12_appendBytes 25 = .ok (.iconst 1, 1) := by decide +kernel
theorem dX12_appendBytes_26 : decode cX12_appendBytes 26 = .ok (.iadd, 1) := by decide +kernel
theorem dX12_appendBytes_27 : decode cX12_appendBytes 27 = .ok (.putfield 441, 3) := by decide +kernel
theorem dX12_appendBytes_30 : decode cX12_appendBytes 30 = .ok (.iinc 2 (-8), 3) := by decide +kernel
theorem dX12_appendBytes_33 : decode cX12_appendBytes 33 = .ok (.goto (-30), 3) := by decide +kernel
theorem dX12_appendBytes_36 : decode cX12_appendBytes 36 = .ok (.return_, 1) := by decide +kernel
set_option maxRecDepth 20000 in
theorem ggX12_appendInput_X12_appendBytes : GoodIn wsX12_appendInput wsX12_appendBytes := goodIn_ca (goodIn_r _ [7, 8, 2, 9, 10, 11, 12, 13, 14, 15, 16, 17, 18, 19, 20, 21, 22, 23, 24, 25, 26, 27, 28, 29, 30, 31, 32, 33, 34, 35, 36, 37, 38, 39, 40, 41, 42, 43, 44, 45, 46, 47, 48, 49, 50, 51, 52, 53, 54, 55, 56, 57, 58, 59, 60, 61, 62] (by decide +kernel) (by decide +kernel)) (goodIn_sub (fun _ h => List.mem_cons_of_mem _ (List.mem_append_right _ h)) (by decide +kernel))
set_option maxRecDepth 20000 in
theorem gX12_appendInput_X12_appendBytes : GoodIn wsX12_appendInput (wsV RX12 444 RX12 yX12_appendBytes wsX12_appendBytes) := goodIn_app (goodIn_of _ (by decide +kernel)) ggX12_appendInput_X12_appendBytes
theorem dX12_appendInput_0 : decode cX12_appendInput 0 = .ok (.aload_n 0, 1) := by decide +kernel
theorem dX12_appendInput_1 : decode cX12_appendInput 1 = .ok (.iconst 0, 1) := by decide +kernel
theorem dX12_appendInput_2 : decode cX12_appendInput 2 = .ok (.putfield 1, 3) := by decide +kernel
theorem dX12_appendInput_5 : decode cX12_appendInput 5 = .ok (.aload_n 0, 1) := by decide +kernel
theorem dX12_appendInput_6 : decode cX12_appendInput 6 = .ok (.getfield 441, 3) := by decide +kernel
theorem dX12_appendInput_9 : decode cX12_appendInput 9 = .ok (.bipush 20, 2) := by decide +kernel
theorem dX12_appendInput_11 : decode cX12_appendInput 11 = .ok (.iadd, 1) := by decide +kernel
theorem dX12_appendInput_12 : decode cX12_appendInput 12 = .ok (.sipush 700, 3) := by decide +kernel
theorem dX12_appendInput_15 : decode cX12_appendInput 15 = .ok (.if_icmp .le 5, 3) := by decide +kernel
theorem dX12_appendInput_20 : decode cX12_appendInput 20 = .ok (.aload_n 0, 1) := by decide +kernel
theorem dX12_appendInput_21 : decode cX12_appendInput 21 = .ok (.iload_n 1, 1) := by decide +kernel
theorem dX12_appendInput_22 : decode cX12_appendInput 22 = .ok (.invokevirtual 444, 3) := by decide +kernel
theorem dX12_appendInput_25 : decode cX12_appendInput 25 = .ok (.aload_n 0, 1) := by decide +kernel
theorem dX12_appendInput_26 : decode cX12_appendInput 26 = .ok (.iload_n 2, 1) := by decide +kernel
theorem dX12_appendInput_27 : decode cX12_appendInput 27 = .ok (.invokevirtual 444, 3) := by decide +kernel
theorem dX12_appendInput_30 : decode cX12_appendInput 30 = .ok (.aload_n 0, 1) := by decide +kernel
theorem dX12_appendInput_31 : decode cX12_appendInput 31 = .ok (.iload_n 3, 1) := by decide +kernel
theorem dX12_appendInput_32 : decode cX12_appendInput 32 = .ok (.invokevirtual 444, 3) := by decide +kernel
theorem dX12_appendInput_35 : decode cX12_appendInput 35 = .ok (.aload_n 0, 1) := by decide +kernel
theorem dX12_appendInput_36 : decode cX12_appendInput 36 = .ok (.iload 4, 2) := by decide +kernel
theorem dX12_appendInput_38 : decode cX12_appendInput 38 = .ok (.invokevirtual 444, 3) := by decide +kernel
theorem dX12_appendInput_41 : decode cX12_appendInput 41 = .ok (.aload_n 0, 1) := by decide +kernel
theorem dX12_appendInput_42 : decode cX12_appendInput 42 = .ok (.iload 5, 2) := by decide +kernel
theorem dX12_appendInput_44 : decode cX12_appendInput 44 = .ok (.invokevirtual 444, 3) := by decide +kernel
theorem dX12_appendInput_47 : decode cX12_appendInput 47 = .ok (.aload_n 0, 1) := by decide +kernel
theorem dX12_appendInput_48 : decode cX12_appendInput 48 = .ok (.getfield 441, 3) := by decide +kernel
theorem dX12_appendInput_51 : decode cX12_appendInput 51 = .ok (.ireturn, 1) := by decide +kernel
set_option maxRecDepth 20000 in
theorem ggX12_truncateInput_X12_inRange : GoodIn wsX12_truncateInput wsX12_inRange := goodIn_r _ [6] (by decide +kernel) (by decide +kernel)
set_option maxRecDepth 20000 in
theorem gX12_truncateInput_X12_inRange : GoodIn wsX12_truncateInput (va_wsS RX12 169 yX12_inRange wsX12_inRange) := goodIn_app (goodIn_of _ (by decide +kernel)) ggX12_truncateInput_X12_inRange
theorem dX12_truncateInput_0 : decode cX12_truncateInput 0 = .ok (.aload_n 0, 1) := by decide +kernel
theorem dX12_truncateInput_1 : decode cX12_truncateInput 1 = .ok (.iconst 0, 1) := by decide +kernel
theorem dX12_truncateInput_2 : decode cX12_truncateInput 2 = .ok (.putfield 1, 3) := by decide +kernel
theorem dX12_truncateInput_5 : decode cX12_truncateInput 5 = .ok (.iload_n 1, 1) := by decide +kernel
theorem dX12_truncateInput_6 : decode cX12_truncateInput 6 = .ok (.i2l, 1) := by decide +kernel
theorem dX12_truncateInput_7 : decode cX12_truncateInput 7 = .ok (.lconst 0, 1) := by decide +kernel
theorem dX12_truncateInput_8 : decode cX12_truncateInput 8 = .ok (.aload_n 0, 1) := by decide +kernel
theorem dX12_truncateInput_9 : decode cX12_truncateInput 9 = .ok (.getfield 441, 3) := by decide +kernel
theorem dX12_truncateInput_12 : decode cX12_truncateInput 12 = .ok (.i2l, 1) := by decide +kernel
theorem dX12_truncateInput_13 : decode cX12_truncateInput 13 = .ok (.invokestatic 169, 3) := by decide +kernel
theorem dX12_truncateInput_16 : decode cX12_truncateInput 16 = .ok (.ifCond .ne 5, 3) := by decide +kernel
theorem dX12_truncateInput_19 : decode cX12_truncateInput 19 = .ok (.iconst (-1), 1) := by decide +kernel
theorem dX12_truncateInput_20 : decode cX12_truncateInput 20 = .ok (.ireturn, 1) := by decide +kernel
theorem dX12_truncateInput_21 : decode cX12_truncateInput 21 = .ok (.aload_n 0, 1) := by decide +kernel
theorem dX12_truncateInput_22 : decode cX12_truncateInput 22 = .ok (.iload_n 1, 1) := by decide +kernel
theorem dX12_truncateInput_23 : decode cX12_truncateInput 23 = .ok (.putfield 441, 3) := by decide +kernel
theorem dX12_truncateInput_26 : decode cX12_truncateInput 26 = .ok (.iload_n 1, 1) := by decide +kernel
theorem dX12_truncateInput_27 : decode cX12_truncateInput 27 = .ok (.ireturn, 1) := by decide +kernel
set_option maxRecDepth 20000 in
theorem ggX12_receive_X12_accept : GoodIn wsX12_receive wsX12_accept := goodIn_ca (goodIn_r _ [10, 11, 3, 12, 13, 14, 15, 16, 9, 17, 4, 18, 19, 20, 21, 22, 23, 24, 25, 26, 27, 28, 29, 30, 31, 32, 33, 34, 35, 36, 37, 38, 39, 40, 41, 42, 43, 44, 45, 46, 47, 48, 49, 50, 51, 52, 53, 54, 55, 56, 57, 58, 59, 60, 61, 62, 63, 64, 65, 66, 67, 68, 69, 70, 71, 72, 73, 74, 75, 76, 77, 78, 79, 80, 81, 82, 83, 84, 85, 86, 87, 88, 89, 90, 91, 92, 93, 94, 95, 96, 97, 98, 99, 100, 101, 102, 103, 104, 105, 106, 107, 108, 109, 110, 111, 112, 113, 114, 115, 116, 117, 118, 119, 120, 121, 122, 123, 124, 125, 126, 127, 128, 129, 130, 131, 132, 133, 134, 135, 136, 137, 138, 139, 140, 141, 142, 143, 144, 145, 146, 147, 148, 149, 150, 151] (by decide +kernel) (by decide +kernel)) (goodIn_sub (fun _ h => List.mem_cons_of_mem _ (List.mem_append_right _ h)) (by decide +kernel))
set_option maxRecDepth 20000 in
theorem gX12_receive_X12_accept : GoodIn wsX12_receive (wsV RX12 320 RX12 yX12_accept wsX12_accept) := goodIn_app (goodIn_of _ (by decide +kernel)) ggX12_receive_X12_accept
theorem dX12_receive_0 : decode cX12_receive 0 = .ok (.aload_n 0, 1) := by decide +kernel
theorem dX12_receive_1 : decode cX12_receive 1 = .ok (.iconst 0, 1) := by decide +kernel
theorem dX12_receive_2 : decode cX12_receive 2 = .ok (.putfield 1, 3) := by decide +kernel
theorem dX12_receive_5 : decode cX12_receive 5 = .ok (.aload_n 0, 1) := by decide +kernel
theorem dX12_receive_6 : decode cX12_receive 6 = .ok (.aload_n 0, 1) := by decide +kernel
theorem dX12_receive_7 : decode cX12_receive 7 = .ok (.getfield 441, 3) := by decide +kernel
theorem dX12_receive_10 : decode cX12_receive 10 = .ok (.putfield 280, 3) := by decide +kernel
theorem dX12_receive_13 : decode cX12_receive 13 = .ok (.iconst 0, 1) := by decide +kernel
theorem dX12_receive_14 : decode cX12_receive 14 = .ok (.istore_n 1, 1) := by decide +kernel
theorem dX12_receive_15 : decode cX12_receive 15 = .ok (.iload_n 1, 1) := by decide +kernel
theorem dX12_receive_16 : decode cX12_receive 16 = .ok (.aload_n 0, 1) := by decide +kernel
theorem dX12_receive_17 : decode cX12_receive 17 = .ok (.getfield 280, 3) := by decide +kernel
theorem dX12_receive_20 : decode cX12_receive 20 = .ok (.if_icmp .ge 25, 3) := by decide +kernel
theorem dX12_receive_45 : decode cX12_receive 45 = .ok (.aload_n 0, 1) := by decide +kernel
theorem dX12_receive_46 : decode cX12_receive 46 = .ok (.iconst 0, 1) := by decide +kernel
theorem dX12_receive_47 : decode cX12_receive 47 = .ok (.putfield 441, 3) := by decide +kernel
theorem dX12_receive_50 : decode cX12_receive 50 = .ok (.aload_n 0, 1) := by decide +kernel
theorem dX12_receive_51 : decode cX12_receive 51 = .ok (.invokevirtual 320, 3) := by decide +kernel
theorem dX12_receive_54 : decode cX12_receive 54 = .ok (.ireturn, 1) := by decide +kernel
theorem dX12_byteAt_0 : decode cX12_byteAt 0 = .ok (.iload_n 1, 1) := by decide +kernel
theorem dX12_byteAt_1 : decode cX12_byteAt 1 = .ok (.aload_n 0, 1) := by decide +kernel
theorem dX12_byteAt_2 : decode cX12_byteAt 2 = .ok (.getfield 441, 3) := by decide +kernel
theorem dX12_byteAt_5 : decode cX12_byteAt 5 = .ok (.if_icmp .ge 16, 3) := by decide +kernel
theorem dX12_byteAt_21 : decode cX12_byteAt 21 = .ok (.iconst (-1), 1) := by decide +kernel
theorem dX12_byteAt_22 : decode cX12_byteAt 22 = .ok (.ireturn, 1) := by decide +kernel
set_option maxRecDepth 20000 in
theorem ggX12_advanceToken_X12_byteAt : GoodIn wsX12_advanceToken wsX12_byteAt := goodIn_ca (goodIn_r _ [13, 14, 15, 28, 29, 30, 31, 32, 33, 34, 35, 36, 37, 38, 39, 40, 41, 42, 43, 44, 45, 46, 47, 48, 49, 50, 51, 52, 53, 54, 55, 56, 57, 58, 59, 60, 61, 62, 63, 64, 65, 66, 67, 68, 69, 70, 71, 72, 73, 74, 75, 76, 77, 78, 79, 80, 81] (by decide +kernel) (by decide +kernel)) (goodIn_sub (fun _ h => List.mem_cons_of_mem _ (List.mem_append_right _ h)) (by decide +kernel))
set_option maxRecDepth 20000 in
theorem gX12_advanceToken_X12_byteAt : GoodIn wsX12_advanceToken (wsV RX12 461 RX12 yX12_byteAt wsX12_byteAt) := goodIn_app (goodIn_of _ (by decide +kernel)) ggX12_advanceToken_X12_byteAt
theorem dX12_advanceToken_0 : decode cX12_advanceToken 0 = .ok (.aload_n 0, 1) := by decide +kernel
theorem dX12_advanceToken_1 : decode cX12_advanceToken 1 = .ok (.aload_n 0, 1) := by decide +kernel
theorem dX12_advanceToken_2 : decode cX12_advanceToken 2 = .ok (.getfield 458, 3) := by decide +kernel
theorem dX12_advanceToken_5 : decode cX12_advanceToken 5 = .ok (.invokevirtual 461, 3) := by decide +kernel
theorem dX12_advanceToken_8 : decode cX12_advanceToken 8 = .ok (.bipush 32, 2) := by decide +kernel
theorem dX12_advanceToken_10 : decode cX12_advanceToken 10 = .ok (.if_icmp .eq 16, 3) := by decide +kernel
theorem dX12_advanceToken_13 : decode cX12_advanceToken 13 = .ok (.aload_n 0, 1) := by decide +kernel
theorem dX12_advanceToken_14 : decode cX12_advanceToken 14 = .ok (.aload_n 0, 1) := by decide +kernel
theorem dX12_advanceToken_15 : decode cX12_advanceToken 15 = .ok (.getfield 458, 3) := by decide +kernel
theorem dX12_advanceToken_18 : decode cX12_advanceToken 18 = .ok (.invokevirtual 461, 3) := by decide +kernel
theorem dX12_advanceToken_21 : decode cX12_advanceToken 21 = .ok (.bipush 10, 2) := by decide +kernel
theorem dX12_advanceToken_23 : decode cX12_advanceToken 23 = .ok (.if_icmp .ne 16, 3) := by decide +kernel
theorem dX12_advanceToken_39 : decode cX12_advanceToken 39 = .ok (.aload_n 0, 1) := by decide +kernel
theorem dX12_advanceToken_40 : decode cX12_advanceToken 40 = .ok (.aload_n 0, 1) := by decide +kernel
theorem dX12_advanceToken_41 : decode cX12_advanceToken 41 = .ok (.getfield 458, 3) := by decide +kernel
theorem dX12_advanceToken_44 : decode cX12_advanceToken 44 = .ok (.putfield 464, 3) := by decide +kernel
theorem dX12_advanceToken_47 : decode cX12_advanceToken 47 = .ok (.aload_n 0, 1) := by decide +kernel
theorem dX12_advanceToken_48 : decode cX12_advanceToken 48 = .ok (.lconst 0, 1) := by decide +kernel
theorem dX12_advanceToken_49 : decode cX12_advanceToken 49 = .ok (.putfield 467, 3) := by decide +kernel
theorem dX12_advanceToken_52 : decode cX12_advanceToken 52 = .ok (.aload_n 0, 1) := by decide +kernel
theorem dX12_advanceToken_53 : decode cX12_advanceToken 53 = .ok (.aload_n 0, 1) := by decide +kernel
theorem dX12_advanceToken_54 : decode cX12_advanceToken 54 = .ok (.getfield 464, 3) := by decide +kernel
theorem dX12_advanceToken_57 : decode cX12_advanceToken 57 = .ok (.invokevirtual 461, 3) := by decide +kernel
theorem dX12_advanceToken_60 : decode cX12_advanceToken 60 = .ok (.istore_n 1, 1) := by decide +kernel
theorem dX12_advanceToken_61 : decode cX12_advanceToken 61 = .ok (.aload_n 0, 1) := by decide +kernel
theorem dX12_advanceToken_62 : decode cX12_advanceToken 62 = .ok (.iload_n 1, 1) := by decide +kernel
theorem dX12_advanceToken_63 : decode cX12_advanceToken 63 = .ok (.iconst (-1), 1) := by decide +kernel
theorem dX12_advanceToken_64 : decode cX12_advanceToken 64 = .ok (.if_icmp .ne 7, 3) := by decide +kernel
theorem dX12_advanceToken_67 : decode cX12_advanceToken 67 = .ok (.iconst 0, 1) := by decide +kernel
theorem dX12_advanceToken_68 : decode cX12_advanceToken 68 = .ok (.goto 36, 3) := by decide +kernel
theorem dX12_advanceToken_104 : decode cX12_advanceToken 104 = .ok (.putfield 476, 3) := by decide +kernel
theorem dX12_advanceToken_107 : decode cX12_advanceToken 107 = .ok (.aload_n 0, 1) := by decide +kernel
theorem dX12_advanceToken_108 : decode cX12_advanceToken 108 = .ok (.getfield 476, 3) := by decide +kernel
theorem dX12_advanceToken_111 : decode cX12_advanceToken 111 = .ok (.iconst 3, 1) := by decide +kernel
theorem dX12_advanceToken_112 : decode cX12_advanceToken 112 = .ok (.if_icmp .eq 11, 3) := by decide +kernel
theorem dX12_advanceToken_115 : decode cX12_advanceToken 115 = .ok (.aload_n 0, 1) := by decide +kernel
theorem dX12_advanceToken_116 : decode cX12_advanceToken 116 = .ok (.getfield 476, 3) := by decide +kernel
theorem dX12_advanceToken_119 : decode cX12_advanceToken 119 = .ok (.iconst 4, 1) := by decide +kernel
theorem dX12_advanceToken_120 : decode cX12_advanceToken 120 = .ok (.if_icmp .ne 13, 3) := by decide +kernel
theorem dX12_advanceToken_133 : decode cX12_advanceToken 133 = .ok (.aload_n 0, 1) := by decide +kernel
theorem dX12_advanceToken_134 : decode cX12_advanceToken 134 = .ok (.getfield 476, 3) := by decide +kernel
theorem dX12_advanceToken_137 : decode cX12_advanceToken 137 = .ok (.iconst 1, 1) := by decide +kernel
theorem dX12_advanceToken_138 : decode cX12_advanceToken 138 = .ok (.if_icmp .ne 70, 3) := by decide +kernel
theorem dX12_advanceToken_208 : decode cX12_advanceToken 208 = .ok (.aload_n 0, 1) := by decide +kernel
theorem dX12_advanceToken_209 : decode cX12_advanceToken 209 = .ok (.getfield 476, 3) := by decide +kernel
theorem dX12_advanceToken_212 : decode cX12_advanceToken 212 = .ok (.iconst 2, 1) := by decide +kernel
theorem dX12_advanceToken_213 : decode cX12_advanceToken 213 = .ok (.if_icmp .ne 70, 3) := by decide +kernel
theorem dX12_advanceToken_283 : decode cX12_advanceToken 283 = .ok (.aload_n 0, 1) := by decide +kernel
theorem dX12_advanceToken_284 : decode cX12_advanceToken 284 = .ok (.getfield 476, 3) := by decide +kernel
theorem dX12_advanceToken_287 : decode cX12_advanceToken 287 = .ok (.iconst 1, 1) := by decide +kernel
theorem dX12_advanceToken_288 : decode cX12_advanceToken 288 = .ok (.if_icmp .ne 17, 3) := by decide +kernel
theorem dX12_advanceToken_305 : decode cX12_advanceToken 305 = .ok (.aload_n 0, 1) := by decide +kernel
theorem dX12_advanceToken_306 : decode cX12_advanceToken 306 = .ok (.getfield 476, 3) := by decide +kernel
theorem dX12_advanceToken_309 : decode cX12_advanceToken 309 = .ok (.iconst 2, 1) := by decide +kernel
theorem dX12_advanceToken_310 : decode cX12_advanceToken 310 = .ok (.if_icmp .ne 22, 3) := by decide +kernel
theorem dX12_advanceToken_332 : decode cX12_advanceToken 332 = .ok (.return_, 1) := by decide +kernel
set_option maxRecDepth 20000 in
theorem ggX12_load_X12_beginConfiguration : GoodIn wsX12_load wsX12_beginConfiguration := goodIn_ca (goodIn_r _ [11, 12, 123, 124, 125, 126, 127, 128, 129, 130, 131, 132, 133, 134, 135, 136, 137, 138, 139, 140, 141, 142, 143, 144, 145, 146, 147, 148, 149, 150, 151, 152, 153, 154, 155, 156, 157, 158, 159, 160, 161, 162, 163, 164, 165, 166, 167, 168, 169, 170, 171, 172, 173, 174, 175, 176] (by decide +kernel) (by decide +kernel)) (goodIn_sub (fun _ h => List.mem_cons_of_mem _ (List.mem_append_right _ h)) (by decide +kernel))
set_option maxRecDepth 20000 in
theorem gX12_load_X12_beginConfiguration : GoodIn wsX12_load (wsV RX12 95 RX12 yX12_beginConfiguration wsX12_beginConfiguration) := goodIn_app (goodIn_of _ (by decide +kernel)) ggX12_load_X12_beginConfiguration
set_option maxRecDepth 20000 in
theorem ggX12_load_X12_advanceToken : GoodIn wsX12_load wsX12_advanceToken := goodIn_ca (goodIn_r _ [16, 4, 17, 18, 5, 19, 20, 21, 22, 23, 24, 25, 10, 26, 6, 27, 28, 29, 30, 31, 32, 33, 34, 35, 36, 37, 38, 39, 123, 124, 125, 126, 127, 128, 129, 130, 131, 132, 133, 134, 135, 136, 137, 138, 139, 140, 141, 142, 143, 144, 145, 146, 147, 148, 149, 150, 151, 152, 153, 154, 155, 156, 157, 158, 159, 160, 161, 162, 163, 164, 165, 166, 167, 168, 169, 170, 171, 172, 173, 174, 175, 176] (by decide +kernel) (by decide +kernel)) (goodIn_sub (fun _ h => List.mem_cons_of_mem _ (List.mem_append_right _ h)) (by decide +kernel))
set_option maxRecDepth 20000 in
theorem gX12_load_X12_advanceToken : GoodIn wsX12_load (wsV RX12 489 RX12 yX12_advanceToken wsX12_advanceToken) := goodIn_app (goodIn_of _ (by decide +kernel)) ggX12_load_X12_advanceToken
set_option maxRecDepth 20000 in
theorem ggX12_load_X12_take : GoodIn wsX12_load wsX12_take := goodIn_ca (goodIn_r _ [90, 12, 91, 92, 93, 94, 95, 96, 97, 98, 99, 100, 101, 102, 103, 104, 105, 106, 107, 108, 109, 110, 111, 10, 112, 113, 114, 115, 116, 117, 118, 119, 120, 121, 122, 123, 124, 125, 126, 127, 128, 129, 130, 131, 132, 133, 134, 135, 136, 137, 138, 139, 140, 141, 142, 143, 144, 145, 146, 147, 148, 149, 150, 151, 152, 153, 154, 155, 156, 157, 158, 159, 160, 161, 162, 163, 164, 165, 166, 167, 168, 169, 170, 171, 172, 173, 174, 175, 176] (by decide +kernel) (by decide +kernel)) (goodIn_sub (fun _ h => List.mem_cons_of_mem _ (List.mem_append_right _ h)) (by decide +kernel))
set_option maxRecDepth 20000 in
theorem gX12_load_X12_take : GoodIn wsX12_load (wsV RX12 98 RX12 yX12_take wsX12_take) := goodIn_app (goodIn_of _ (by decide +kernel)) ggX12_load_X12_take
theorem dX12_load_0 : decode cX12_load 0 = .ok (.aload_n 0, 1) := by decide +kernel
theorem dX12_load_1 : decode cX12_load 1 = .ok (.iconst 0, 1) := by decide +kernel
theorem dX12_load_2 : decode cX12_load 2 = .ok (.putfield 1, 3) := by decide +kernel
theorem dX12_load_5 : decode cX12_load 5 = .ok (.aload_n 0, 1) := by decide +kernel
theorem dX12_load_6 : decode cX12_load 6 = .ok (.invokevirtual 95, 3) := by decide +kernel
theorem dX12_load_9 : decode cX12_load 9 = .ok (.aload_n 0, 1) := by decide +kernel
theorem dX12_load_10 : decode cX12_load 10 = .ok (.iconst 0, 1) := by decide +kernel
theorem dX12_load_11 : decode cX12_load 11 = .ok (.putfield 447, 3) := by decide +kernel
theorem dX12_load_14 : decode cX12_load 14 = .ok (.aload_n 0, 1) := by decide +kernel
theorem dX12_load_15 : decode cX12_load 15 = .ok (.iconst (-1), 1) := by decide +kernel
theorem dX12_load_16 : decode cX12_load 16 = .ok (.putfield 92, 3) := by decide +kernel
theorem dX12_load_19 : decode cX12_load 19 = .ok (.aload_n 0, 1) := by decide +kernel
theorem dX12_load_20 : decode cX12_load 20 = .ok (.iconst 0, 1) := by decide +kernel
theorem dX12_load_21 : decode cX12_load 21 = .ok (.putfield 458, 3) := by decide +kernel
theorem dX12_load_24 : decode cX12_load 24 = .ok (.aload_n 0, 1) := by decide +kernel
theorem dX12_load_25 : decode cX12_load 25 = .ok (.invokevirtual 489, 3) := by decide +kernel
theorem dX12_load_28 : decode cX12_load 28 = .ok (.iconst 0, 1) := by decide +kernel
theorem dX12_load_29 : decode cX12_load 29 = .ok (.istore_n 1, 1) := by decide +kernel
theorem dX12_load_30 : decode cX12_load 30 = .ok (.aload_n 0, 1) := by decide +kernel
theorem dX12_load_31 : decode cX12_load 31 = .ok (.getfield 447, 3) := by decide +kernel
theorem dX12_load_34 : decode cX12_load 34 = .ok (.ifCond .ne 23, 3) := by decide +kernel
theorem dX12_load_37 : decode cX12_load 37 = .ok (.aload_n 0, 1) := by decide +kernel
theorem dX12_load_38 : decode cX12_load 38 = .ok (.getfield 476, 3) := by decide +kernel
theorem dX12_load_41 : decode cX12_load 41 = .ok (.ifCond .eq 16, 3) := by decide +kernel
theorem dX12_load_57 : decode cX12_load 57 = .ok (.aload_n 0, 1) := by decide +kernel
theorem dX12_load_58 : decode cX12_load 58 = .ok (.iconst 0, 1) := by decide +kernel
theorem dX12_load_59 : decode cX12_load 59 = .ok (.putfield 441, 3) := by decide +kernel
theorem dX12_load_62 : decode cX12_load 62 = .ok (.aload_n 0, 1) := by decide +kernel
theorem dX12_load_63 : decode cX12_load 63 = .ok (.getfield 447, 3) := by decide +kernel
theorem dX12_load_66 : decode cX12_load 66 = .ok (.ifCond .eq 6, 3) := by decide +kernel
theorem dX12_load_72 : decode cX12_load 72 = .ok (.aload_n 0, 1) := by decide +kernel
theorem dX12_load_73 : decode cX12_load 73 = .ok (.invokevirtual 98, 3) := by decide +kernel
theorem dX12_load_76 : decode cX12_load 76 = .ok (.iload_n 1, 1) := by decide +kernel
theorem dX12_load_77 : decode cX12_load 77 = .ok (.ireturn, 1) := by decide +kernel
theorem dJxf58ca_isNaN_12338_0 : decode cJxf58ca_isNaN_12338 0 = .ok (.fload_n 0, 1) := by decide +kernel
theorem dJxf58ca_isNaN_12338_1 : decode cJxf58ca_isNaN_12338 1 = .ok (.fload_n 0, 1) := by decide +kernel
theorem dJxf58ca_isNaN_12338_2 : decode cJxf58ca_isNaN_12338 2 = .ok (.fcmp .l, 1) := by decide +kernel
theorem dJxf58ca_isNaN_12338_3 : decode cJxf58ca_isNaN_12338 3 = .ok (.ifCond .eq 7, 3) := by decide +kernel
theorem dJxf58ca_isNaN_12338_10 : decode cJxf58ca_isNaN_12338 10 = .ok (.iconst 0, 1) := by decide +kernel
theorem dJxf58ca_isNaN_12338_11 : decode cJxf58ca_isNaN_12338 11 = .ok (.ireturn, 1) := by decide +kernel
set_option maxRecDepth 20000 in
theorem ggJxf58ca_floatToIntBits_5c35a_Jxf58ca_isNaN_12338 : GoodIn wsJxf58ca_floatToIntBits_5c35a wsJxf58ca_isNaN_12338 := goodIn_r _ [9] (by decide +kernel) (by decide +kernel)
set_option maxRecDepth 20000 in
theorem gJxf58ca_floatToIntBits_5c35a_Jxf58ca_isNaN_12338 : GoodIn wsJxf58ca_floatToIntBits_5c35a (va_wsS RJxf58ca 59 yJxf58ca_isNaN_12338 wsJxf58ca_isNaN_12338) := goodIn_app (goodIn_of _ (by decide +kernel)) ggJxf58ca_floatToIntBits_5c35a_Jxf58ca_isNaN_12338
theorem dJxf58ca_floatToIntBits_5c35a_0 : decode cJxf58ca_floatToIntBits_5c35a 0 = .ok (.fload_n 0, 1) := by decide +kernel
theorem dJxf58ca_floatToIntBits_5c35a_1 : decode cJxf58ca_floatToIntBits_5c35a 1 = .ok (.invokestatic 59, 3) := by decide +kernel
theorem dJxf58ca_floatToIntBits_5c35a_4 : decode cJxf58ca_floatToIntBits_5c35a 4 = .ok (.ifCond .ne 8, 3) := by decide +kernel
theorem dJxf58ca_floatToIntBits_5c35a_7 : decode cJxf58ca_floatToIntBits_5c35a 7 = .ok (.fload_n 0, 1) := by decide +kernel
theorem dJxf58ca_floatToIntBits_5c35a_8 : decode cJxf58ca_floatToIntBits_5c35a 8 = .ok (.invokestatic 74, 3) := by decide +kernel
theorem dJxf58ca_floatToIntBits_5c35a_11 : decode cJxf58ca_floatToIntBits_5c35a 11 = .ok (.ireturn, 1) := by decide +kernel

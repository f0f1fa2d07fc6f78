set_option maxRecDepth 20000 in
theorem ggX12_cached_X12_inRange : GoodIn wsX12_cached wsX12_inRange := goodIn_r _ [8] rfl (by decide +kernel)
set_option maxRecDepth 20000 in
theorem gX12_cached_X12_inRange : GoodIn wsX12_cached (va_wsS RX12 169 yX12_inRange wsX12_inRange) := goodIn_app (goodIn_of _ (by decide +kernel)) ggX12_cached_X12_inRange
set_option maxRecDepth 20000 in
theorem ggX12_cached_X12_throwsIf : GoodIn wsX12_cached wsX12_throwsIf := goodIn_r _ [12, 1, 13, 14, 15, 16, 17, 18, 19, 20, 21, 22, 23, 24, 25, 26, 27, 28, 29, 30, 31, 32, 33, 34, 35, 36, 37, 38, 39, 40, 41, 42, 43, 44, 45, 46, 47, 48, 49, 50, 51, 52, 53, 54, 55, 56, 57, 58, 59, 60, 61, 62, 63, 64, 65, 66] rfl (by decide +kernel)
set_option maxRecDepth 20000 in
theorem gX12_cached_X12_throwsIf : GoodIn wsX12_cached (wsV RX12 185 RX12 yX12_throwsIf wsX12_throwsIf) := goodIn_app (goodIn_of _ (by decide +kernel)) ggX12_cached_X12_throwsIf
theorem dX12_cached_0 : decode cX12_cached 0 = .ok (.aload_n 0, 1) := by decide +kernel
theorem dX12_cached_1 : decode cX12_cached 1 = .ok (.iconst 0, 1) := by decide +kernel
theorem dX12_cached_2 : decode cX12_cached 2 = .ok (.putfield 1, 3) := by decide +kernel
theorem dX12_cached_5 : decode cX12_cached 5 = .ok (.aload_n 0, 1) := by decide +kernel
theorem dX12_cached_6 : decode cX12_cached 6 = .ok (.iload_n 1, 1) := by decide +kernel
theorem dX12_cached_7 : decode cX12_cached 7 = .ok (.i2l, 1) := by decide +kernel
theorem dX12_cached_8 : decode cX12_cached 8 = .ok (.lconst 0, 1) := by decide +kernel
theorem dX12_cached_9 : decode cX12_cached 9 = .ok (.aload_n 0, 1) := by decide +kernel
theorem dX12_cached_10 : decode cX12_cached 10 = .ok (.getfield 133, 3) := by decide +kernel
theorem dX12_cached_13 : decode cX12_cached 13 = .ok (.iconst 1, 1) := by decide +kernel
theorem dX12_cached_14 : decode cX12_cached 14 = .ok (.isub, 1) := by decide +kernel
theorem dX12_cached_15 : decode cX12_cached 15 = .ok (.i2l, 1) := by decide +kernel
theorem dX12_cached_16 : decode cX12_cached 16 = .ok (.invokestatic 169, 3) := by decide +kernel
theorem dX12_cached_19 : decode cX12_cached 19 = .ok (.ifCond .ne 7, 3) := by decide +kernel
theorem dX12_cached_22 : decode cX12_cached 22 = .ok (.iconst 1, 1) := by decide +kernel
theorem dX12_cached_23 : decode cX12_cached 23 = .ok (.goto 4, 3) := by decide +kernel
theorem dX12_cached_26 : decode cX12_cached 26 = .ok (.iconst 0, 1) := by decide +kernel
theorem dX12_cached_27 : decode cX12_cached 27 = .ok (.iconst 1, 1) := by decide +kernel
theorem dX12_cached_28 : decode cX12_cached 28 = .ok (.invokevirtual 185, 3) := by decide +kernel
theorem dX12_cached_31 : decode cX12_cached 31 = .ok (.ifCond .ne 28, 3) := by decide +kernel
theorem dX12_cached_34 : decode cX12_cached 34 = .ok (.aload_n 0, 1) := by decide +kernel
theorem dX12_cached_35 : decode cX12_cached 35 = .ok (.iload_n 2, 1) := by decide +kernel
theorem dX12_cached_36 : decode cX12_cached 36 = .ok (.i2l, 1) := by decide +kernel
theorem dX12_cached_37 : decode cX12_cached 37 = .ok (.lconst 0, 1) := by decide +kernel
theorem dX12_cached_38 : decode cX12_cached 38 = .ok (.ldc2_w 212, 3) := by decide +kernel
theorem dX12_cached_41 : decode cX12_cached 41 = .ok (.invokestatic 169, 3) := by decide +kernel
theorem dX12_cached_44 : decode cX12_cached 44 = .ok (.ifCond .ne 7, 3) := by decide +kernel
theorem dX12_cached_47 : decode cX12_cached 47 = .ok (.iconst 1, 1) := by decide +kernel
theorem dX12_cached_48 : decode cX12_cached 48 = .ok (.goto 4, 3) := by decide +kernel
theorem dX12_cached_51 : decode cX12_cached 51 = .ok (.iconst 0, 1) := by decide +kernel
theorem dX12_cached_52 : decode cX12_cached 52 = .ok (.iconst 2, 1) := by decide +kernel
theorem dX12_cached_53 : decode cX12_cached 53 = .ok (.invokevirtual 185, 3) := by decide +kernel
theorem dX12_cached_56 : decode cX12_cached 56 = .ok (.ifCond .eq 7, 3) := by decide +kernel
theorem dX12_cached_59 : decode cX12_cached 59 = .ok (.lconst 0, 1) := by decide +kernel
theorem dX12_cached_60 : decode cX12_cached 60 = .ok (.goto 14, 3) := by decide +kernel
theorem dX12_cached_63 : decode cX12_cached 63 = .ok (.aload_n 0, 1) := by decide +kernel
theorem dX12_cached_64 : decode cX12_cached 64 = .ok (.getfield 26, 3) := by decide +kernel
theorem dX12_cached_67 : decode cX12_cached 67 = .ok (.bipush 8, 2) := by decide +kernel
theorem dX12_cached_69 : decode cX12_cached 69 = .ok (.iload_n 1, 1) := by decide +kernel
theorem dX12_cached_70 : decode cX12_cached 70 = .ok (.imul, 1) := by decide +kernel
theorem dX12_cached_71 : decode cX12_cached 71 = .ok (.iload_n 2, 1) := by decide +kernel
theorem dX12_cached_72 : decode cX12_cached 72 = .ok (.iadd, 1) := by decide +kernel
theorem dX12_cached_73 : decode cX12_cached 73 = .ok (.laload, 1) := by decide +kernel
theorem dX12_cached_74 : decode cX12_cached 74 = .ok (.lreturn, 1) := by decide +kernel
set_option maxRecDepth 20000 in
theorem ggX12_advance_X12_inRange : GoodIn wsX12_advance wsX12_inRange := goodIn_r _ [8] rfl (by decide +kernel)
set_option maxRecDepth 20000 in
theorem gX12_advance_X12_inRange : GoodIn wsX12_advance (va_wsS RX12 169 yX12_inRange wsX12_inRange) := goodIn_app (goodIn_of _ (by decide +kernel)) ggX12_advance_X12_inRange
set_option maxRecDepth 20000 in
theorem ggX12_advance_X12_throwsIf : GoodIn wsX12_advance wsX12_throwsIf := goodIn_r _ [12, 1, 144, 145, 146, 147, 148, 149, 150, 151, 152, 153, 154, 155, 156, 157, 158, 159, 160, 161, 162, 163, 164, 165, 166, 167, 168, 169, 170, 171, 172, 173, 174, 175, 176, 177, 178, 179, 180, 181, 182, 183, 184, 185, 186, 187, 188, 189, 190, 191, 192, 193, 194, 195, 196, 197] rfl (by decide +kernel)
set_option maxRecDepth 20000 in
theorem gX12_advance_X12_throwsIf : GoodIn wsX12_advance (wsV RX12 185 RX12 yX12_throwsIf wsX12_throwsIf) := goodIn_app (goodIn_of _ (by decide +kernel)) ggX12_advance_X12_throwsIf
set_option maxRecDepth 20000 in
theorem ggX12_advance_X12_tick : GoodIn wsX12_advance wsX12_tick := goodIn_ca (goodIn_r _ [16, 3, 17, 18, 19, 20, 7, 21, 22, 23, 24, 25, 26, 27, 28, 29, 30, 31, 32, 33, 34, 35, 36, 37, 38, 39, 40, 41, 42, 43, 44, 45, 46, 47, 48, 49, 50, 51, 52, 53, 54, 55, 56, 57, 58, 59, 60, 61, 62, 63, 64, 65, 66, 67, 68, 69, 70, 71, 72, 73, 74, 75, 76, 77, 78, 79, 80, 81, 82, 83, 84, 85, 86, 87, 88, 89, 90, 91, 92, 93, 94, 95, 96, 97, 98, 99, 100, 101, 102, 103, 104, 105, 106, 107, 108, 109, 110, 111, 112, 113, 114, 115, 116, 117, 118, 119, 120, 121, 122, 123, 124, 125, 126, 127, 128, 129, 130, 131, 132, 133, 134, 135, 136, 137, 138, 139, 140, 141, 142, 143, 144, 145, 146, 147, 148, 149, 150, 151, 152, 153, 154, 155, 156, 157, 158, 159, 160, 161, 162, 163, 164, 165, 166, 167, 168, 169, 170, 171, 172, 173, 174, 175, 176, 177, 178, 179, 180, 181, 182, 183, 184, 185, 186, 187, 188, 189, 190, 191, 192, 193, 194, 195, 196, 197] rfl (by decide +kernel)) (goodIn_sub (fun _ h => List.mem_cons_of_mem _ (List.mem_append_right _ h)) (by decide +kernel))
set_option maxRecDepth 20000 in
theorem gX12_advance_X12_tick : GoodIn wsX12_advance (wsV RX12 277 RX12 yX12_tick wsX12_tick) := goodIn_app (goodIn_of _ (by decide +kernel)) ggX12_advance_X12_tick
theorem dX12_advance_0 : decode cX12_advance 0 = .ok (.aload_n 0, 1) := by decide +kernel
theorem dX12_advance_1 : decode cX12_advance 1 = .ok (.iconst 0, 1) := by decide +kernel
theorem dX12_advance_2 : decode cX12_advance 2 = .ok (.putfield 1, 3) := by decide +kernel
theorem dX12_advance_5 : decode cX12_advance 5 = .ok (.aload_n 0, 1) := by decide +kernel
theorem dX12_advance_6 : decode cX12_advance 6 = .ok (.iload_n 1, 1) := by decide +kernel
theorem dX12_advance_7 : decode cX12_advance 7 = .ok (.i2l, 1) := by decide +kernel
theorem dX12_advance_8 : decode cX12_advance 8 = .ok (.lconst 1, 1) := by decide +kernel
theorem dX12_advance_9 : decode cX12_advance 9 = .ok (.ldc2_w 274, 3) := by decide +kernel
theorem dX12_advance_12 : decode cX12_advance 12 = .ok (.invokestatic 169, 3) := by decide +kernel
theorem dX12_advance_15 : decode cX12_advance 15 = .ok (.ifCond .ne 7, 3) := by decide +kernel
theorem dX12_advance_18 : decode cX12_advance 18 = .ok (.iconst 1, 1) := by decide +kernel
theorem dX12_advance_19 : decode cX12_advance 19 = .ok (.goto 4, 3) := by decide +kernel
theorem dX12_advance_22 : decode cX12_advance 22 = .ok (.iconst 0, 1) := by decide +kernel
theorem dX12_advance_23 : decode cX12_advance 23 = .ok (.iconst 1, 1) := by decide +kernel
theorem dX12_advance_24 : decode cX12_advance 24 = .ok (.invokevirtual 185, 3) := by decide +kernel
theorem dX12_advance_27 : decode cX12_advance 27 = .ok (.ifCond .ne 28, 3) := by decide +kernel
theorem dX12_advance_30 : decode cX12_advance 30 = .ok (.aload_n 0, 1) := by decide +kernel
theorem dX12_advance_31 : decode cX12_advance 31 = .ok (.aload_n 0, 1) := by decide +kernel
theorem dX12_advance_32 : decode cX12_advance 32 = .ok (.getfield 101, 3) := by decide +kernel
theorem dX12_advance_35 : decode cX12_advance 35 = .ok (.iload_n 1, 1) := by decide +kernel
theorem dX12_advance_36 : decode cX12_advance 36 = .ok (.iadd, 1) := by decide +kernel
theorem dX12_advance_37 : decode cX12_advance 37 = .ok (.ldc_w 276, 3) := by decide +kernel
theorem dX12_advance_40 : decode cX12_advance 40 = .ok (.if_icmp .le 7, 3) := by decide +kernel
theorem dX12_advance_43 : decode cX12_advance 43 = .ok (.iconst 1, 1) := by decide +kernel
theorem dX12_advance_44 : decode cX12_advance 44 = .ok (.goto 4, 3) := by decide +kernel
theorem dX12_advance_47 : decode cX12_advance 47 = .ok (.iconst 0, 1) := by decide +kernel
theorem dX12_advance_48 : decode cX12_advance 48 = .ok (.iconst 2, 1) := by decide +kernel
theorem dX12_advance_49 : decode cX12_advance 49 = .ok (.invokevirtual 185, 3) := by decide +kernel
theorem dX12_advance_52 : decode cX12_advance 52 = .ok (.ifCond .eq 5, 3) := by decide +kernel
theorem dX12_advance_55 : decode cX12_advance 55 = .ok (.iconst 0, 1) := by decide +kernel
theorem dX12_advance_56 : decode cX12_advance 56 = .ok (.ireturn, 1) := by decide +kernel
theorem dX12_advance_57 : decode cX12_advance 57 = .ok (.iconst 0, 1) := by decide +kernel
theorem dX12_advance_58 : decode cX12_advance 58 = .ok (.istore_n 2, 1) := by decide +kernel
theorem dX12_advance_59 : decode cX12_advance 59 = .ok (.iconst 0, 1) := by decide +kernel
theorem dX12_advance_60 : decode cX12_advance 60 = .ok (.istore_n 3, 1) := by decide +kernel
theorem dX12_advance_61 : decode cX12_advance 61 = .ok (.iload_n 3, 1) := by decide +kernel
theorem dX12_advance_62 : decode cX12_advance 62 = .ok (.iload_n 1, 1) := by decide +kernel
theorem dX12_advance_63 : decode cX12_advance 63 = .ok (.if_icmp .ge 16, 3) := by decide +kernel
theorem dX12_advance_66 : decode cX12_advance 66 = .ok (.iload_n 2, 1) := by decide +kernel
theorem dX12_advance_67 : decode cX12_advance 67 = .ok (.aload_n 0, 1) := by decide +kernel
theorem dX12_advance_68 : decode cX12_advance 68 = .ok (.invokevirtual 277, 3) := by decide +kernel
theorem dX12_advance_71 : decode cX12_advance 71 = .ok (.iadd, 1) := by decide +kernel
theorem dX12_advance_72 : decode cX12_advance 72 = .ok (.istore_n 2, 1) := by decide +kernel
theorem dX12_advance_73 : decode cX12_advance 73 = .ok (.iinc 3 1, 3) := by decide +kernel
theorem dX12_advance_76 : decode cX12_advance 76 = .ok (.goto (-15), 3) := by decide +kernel
theorem dX12_advance_79 : decode cX12_advance 79 = .ok (.iload_n 2, 1) := by decide +kernel
theorem dX12_advance_80 : decode cX12_advance 80 = .ok (.ireturn, 1) := by decide +kernel
set_option maxRecDepth 20000 in
theorem ggX12_messageLength_X12_isMessage : GoodIn wsX12_messageLength wsX12_isMessage := goodIn_r _ [7, 8, 9, 10, 6, 11, 16, 17, 18, 19, 20, 21, 22, 23, 24, 25, 26, 27, 28, 29, 30, 31, 32, 33, 34, 35, 36, 37, 38, 39, 40, 41, 42, 43, 44, 45, 46, 47, 48, 49, 50, 51, 52, 53, 54, 55, 56, 57, 58, 59, 60, 61, 62, 63, 64, 65, 66, 67, 68, 69] rfl (by decide +kernel)
set_option maxRecDepth 20000 in
theorem gX12_messageLength_X12_isMessage : GoodIn wsX12_messageLength (wsV RX12 311 RX12 yX12_isMessage wsX12_isMessage) := goodIn_app (goodIn_of _ (by decide +kernel)) ggX12_messageLength_X12_isMessage
set_option maxRecDepth 20000 in
theorem ggX12_messageLength_X12_throwsIf : GoodIn wsX12_messageLength wsX12_throwsIf := goodIn_r _ [15, 1, 16, 17, 18, 19, 20, 21, 22, 23, 24, 25, 26, 27, 28, 29, 30, 31, 32, 33, 34, 35, 36, 37, 38, 39, 40, 41, 42, 43, 44, 45, 46, 47, 48, 49, 50, 51, 52, 53, 54, 55, 56, 57, 58, 59, 60, 61, 62, 63, 64, 65, 66, 67, 68, 69] rfl (by decide +kernel)
set_option maxRecDepth 20000 in
theorem gX12_messageLength_X12_throwsIf : GoodIn wsX12_messageLength (wsV RX12 185 RX12 yX12_throwsIf wsX12_throwsIf) := goodIn_app (goodIn_of _ (by decide +kernel)) ggX12_messageLength_X12_throwsIf
theorem dX12_messageLength_0 : decode cX12_messageLength 0 = .ok (.aload_n 0, 1) := by decide +kernel
theorem dX12_messageLength_1 : decode cX12_messageLength 1 = .ok (.iconst 0, 1) := by decide +kernel
theorem dX12_messageLength_2 : decode cX12_messageLength 2 = .ok (.putfield 1, 3) := by decide +kernel
theorem dX12_messageLength_5 : decode cX12_messageLength 5 = .ok (.aload_n 0, 1) := by decide +kernel
theorem dX12_messageLength_6 : decode cX12_messageLength 6 = .ok (.aload_n 0, 1) := by decide +kernel
theorem dX12_messageLength_7 : decode cX12_messageLength 7 = .ok (.iload_n 1, 1) := by decide +kernel
theorem dX12_messageLength_8 : decode cX12_messageLength 8 = .ok (.invokevirtual 311, 3) := by decide +kernel
theorem dX12_messageLength_11 : decode cX12_messageLength 11 = .ok (.ifCond .ne 7, 3) := by decide +kernel
theorem dX12_messageLength_14 : decode cX12_messageLength 14 = .ok (.iconst 1, 1) := by decide +kernel
theorem dX12_messageLength_15 : decode cX12_messageLength 15 = .ok (.goto 4, 3) := by decide +kernel
theorem dX12_messageLength_18 : decode cX12_messageLength 18 = .ok (.iconst 0, 1) := by decide +kernel
theorem dX12_messageLength_19 : decode cX12_messageLength 19 = .ok (.iconst 1, 1) := by decide +kernel
theorem dX12_messageLength_20 : decode cX12_messageLength 20 = .ok (.invokevirtual 185, 3) := by decide +kernel
theorem dX12_messageLength_23 : decode cX12_messageLength 23 = .ok (.ifCond .eq 7, 3) := by decide +kernel
theorem dX12_messageLength_26 : decode cX12_messageLength 26 = .ok (.iconst 0, 1) := by decide +kernel
theorem dX12_messageLength_27 : decode cX12_messageLength 27 = .ok (.goto 9, 3) := by decide +kernel
theorem dX12_messageLength_30 : decode cX12_messageLength 30 = .ok (.aload_n 0, 1) := by decide +kernel
theorem dX12_messageLength_31 : decode cX12_messageLength 31 = .ok (.getfield 42, 3) := by decide +kernel
theorem dX12_messageLength_34 : decode cX12_messageLength 34 = .ok (.iload_n 1, 1) := by decide +kernel
theorem dX12_messageLength_35 : decode cX12_messageLength 35 = .ok (.iaload, 1) := by decide +kernel
theorem dX12_messageLength_36 : decode cX12_messageLength 36 = .ok (.ireturn, 1) := by decide +kernel
set_option maxRecDepth 20000 in
theorem ggX12_messageByte_X12_isMessage : GoodIn wsX12_messageByte wsX12_isMessage := goodIn_r _ [8, 9, 10, 11, 7, 12, 17, 18, 19, 20, 21, 22, 23, 24, 25, 26, 27, 28, 29, 30, 31, 32, 33, 34, 35, 36, 37, 38, 39, 40, 41, 42, 43, 44, 45, 46, 47, 48, 49, 50, 51, 52, 53, 54, 55, 56, 57, 58, 59, 60, 61, 62, 63, 64, 65, 66, 67, 68, 69, 70] rfl (by decide +kernel)
set_option maxRecDepth 20000 in
theorem gX12_messageByte_X12_isMessage : GoodIn wsX12_messageByte (wsV RX12 311 RX12 yX12_isMessage wsX12_isMessage) := goodIn_app (goodIn_of _ (by decide +kernel)) ggX12_messageByte_X12_isMessage
set_option maxRecDepth 20000 in
theorem ggX12_messageByte_X12_throwsIf : GoodIn wsX12_messageByte wsX12_throwsIf := goodIn_r _ [16, 1, 17, 18, 19, 20, 21, 22, 23, 24, 25, 26, 27, 28, 29, 30, 31, 32, 33, 34, 35, 36, 37, 38, 39, 40, 41, 42, 43, 44, 45, 46, 47, 48, 49, 50, 51, 52, 53, 54, 55, 56, 57, 58, 59, 60, 61, 62, 63, 64, 65, 66, 67, 68, 69, 70] rfl (by decide +kernel)
set_option maxRecDepth 20000 in
theorem gX12_messageByte_X12_throwsIf : GoodIn wsX12_messageByte (wsV RX12 185 RX12 yX12_throwsIf wsX12_throwsIf) := goodIn_app (goodIn_of _ (by decide +kernel)) ggX12_messageByte_X12_throwsIf
set_option maxRecDepth 20000 in
theorem ggX12_messageByte_X12_inRange : GoodIn wsX12_messageByte wsX12_inRange := goodIn_r _ [12] rfl (by decide +kernel)
set_option maxRecDepth 20000 in
theorem gX12_messageByte_X12_inRange : GoodIn wsX12_messageByte (va_wsS RX12 169 yX12_inRange wsX12_inRange) := goodIn_app (goodIn_of _ (by decide +kernel)) ggX12_messageByte_X12_inRange
theorem dX12_messageByte_0 : decode cX12_messageByte 0 = .ok (.aload_n 0, 1) := by decide +kernel
theorem dX12_messageByte_1 : decode cX12_messageByte 1 = .ok (.iconst 0, 1) := by decide +kernel
theorem dX12_messageByte_2 : decode cX12_messageByte 2 = .ok (.putfield 1, 3) := by decide +kernel
theorem dX12_messageByte_5 : decode cX12_messageByte 5 = .ok (.aload_n 0, 1) := by decide +kernel
theorem dX12_messageByte_6 : decode cX12_messageByte 6 = .ok (.aload_n 0, 1) := by decide +kernel
theorem dX12_messageByte_7 : decode cX12_messageByte 7 = .ok (.iload_n 1, 1) := by decide +kernel
theorem dX12_messageByte_8 : decode cX12_messageByte 8 = .ok (.invokevirtual 311, 3) := by decide +kernel
theorem dX12_messageByte_11 : decode cX12_messageByte 11 = .ok (.ifCond .ne 7, 3) := by decide +kernel
theorem dX12_messageByte_14 : decode cX12_messageByte 14 = .ok (.iconst 1, 1) := by decide +kernel
theorem dX12_messageByte_15 : decode cX12_messageByte 15 = .ok (.goto 4, 3) := by decide +kernel
theorem dX12_messageByte_18 : decode cX12_messageByte 18 = .ok (.iconst 0, 1) := by decide +kernel
theorem dX12_messageByte_19 : decode cX12_messageByte 19 = .ok (.iconst 1, 1) := by decide +kernel
theorem dX12_messageByte_20 : decode cX12_messageByte 20 = .ok (.invokevirtual 185, 3) := by decide +kernel
theorem dX12_messageByte_23 : decode cX12_messageByte 23 = .ok (.ifCond .eq 7, 3) := by decide +kernel
theorem dX12_messageByte_26 : decode cX12_messageByte 26 = .ok (.iconst 0, 1) := by decide +kernel
theorem dX12_messageByte_27 : decode cX12_messageByte 27 = .ok (.goto 37, 3) := by decide +kernel
theorem dX12_messageByte_30 : decode cX12_messageByte 30 = .ok (.iload_n 2, 1) := by decide +kernel
theorem dX12_messageByte_31 : decode cX12_messageByte 31 = .ok (.i2l, 1) := by decide +kernel
theorem dX12_messageByte_32 : decode cX12_messageByte 32 = .ok (.lconst 0, 1) := by decide +kernel
theorem dX12_messageByte_33 : decode cX12_messageByte 33 = .ok (.aload_n 0, 1) := by decide +kernel
theorem dX12_messageByte_34 : decode cX12_messageByte 34 = .ok (.getfield 42, 3) := by decide +kernel
theorem dX12_messageByte_37 : decode cX12_messageByte 37 = .ok (.iload_n 1, 1) := by decide +kernel
theorem dX12_messageByte_38 : decode cX12_messageByte 38 = .ok (.iaload, 1) := by decide +kernel
theorem dX12_messageByte_39 : decode cX12_messageByte 39 = .ok (.iconst 1, 1) := by decide +kernel
theorem dX12_messageByte_40 : decode cX12_messageByte 40 = .ok (.isub, 1) := by decide +kernel
theorem dX12_messageByte_41 : decode cX12_messageByte 41 = .ok (.i2l, 1) := by decide +kernel
theorem dX12_messageByte_42 : decode cX12_messageByte 42 = .ok (.invokestatic 169, 3) := by decide +kernel
theorem dX12_messageByte_45 : decode cX12_messageByte 45 = .ok (.ifCond .eq 18, 3) := by decide +kernel
theorem dX12_messageByte_48 : decode cX12_messageByte 48 = .ok (.aload_n 0, 1) := by decide +kernel
theorem dX12_messageByte_49 : decode cX12_messageByte 49 = .ok (.getfield 39, 3) := by decide +kernel
theorem dX12_messageByte_52 : decode cX12_messageByte 52 = .ok (.sipush 600, 3) := by decide +kernel
theorem dX12_messageByte_55 : decode cX12_messageByte 55 = .ok (.iload_n 1, 1) := by decide +kernel
theorem dX12_messageByte_56 : decode cX12_messageByte 56 = .ok (.imul, 1) := by decide +kernel
theorem dX12_messageByte_57 : decode cX12_messageByte 57 = .ok (.iload_n 2, 1) := by decide +kernel
theorem dX12_messageByte_58 : decode cX12_messageByte 58 = .ok (.iadd, 1) := by decide +kernel
theorem dX12_messageByte_59 : decode cX12_messageByte 59 = .ok (.iaload, 1) := by decide +kernel
theorem dX12_messageByte_60 : decode cX12_messageByte 60 = .ok (.goto 4, 3) := by decide +kernel
theorem dX12_messageByte_63 : decode cX12_messageByte 63 = .ok (.iconst (-1), 1) := by decide +kernel
theorem dX12_messageByte_64 : decode cX12_messageByte 64 = .ok (.ireturn, 1) := by decide +kernel
theorem dX12_copyMessage_0 : decode cX12_copyMessage 0 = .ok (.iconst 0, 1) := by decide +kernel
theorem dX12_copyMessage_1 : decode cX12_copyMessage 1 = .ok (.istore_n 3, 1) := by decide +kernel
theorem dX12_copyMessage_2 : decode cX12_copyMessage 2 = .ok (.iload_n 3, 1) := by decide +kernel
theorem dX12_copyMessage_3 : decode cX12_copyMessage 3 = .ok (.sipush 600, 3) := by decide +kernel
theorem dX12_copyMessage_6 : decode cX12_copyMessage 6 = .ok (.if_icmp .ge 33, 3) := by decide +kernel
theorem dX12_copyMessage_9 : decode cX12_copyMessage 9 = .ok (.aload_n 0, 1) := by decide +kernel
theorem dX12_copyMessage_10 : decode cX12_copyMessage 10 = .ok (.getfield 39, 3) := by decide +kernel
theorem dX12_copyMessage_13 : decode cX12_copyMessage 13 = .ok (.sipush 600, 3) := by decide +kernel
theorem dX12_copyMessage_16 : decode cX12_copyMessage 16 = .ok (.iload_n 2, 1) := by decide +kernel
theorem dX12_copyMessage_17 : decode cX12_copyMessage 17 = .ok (.imul, 1) := by decide +kernel
theorem dX12_copyMessage_18 : decode cX12_copyMessage 18 = .ok (.iload_n 3, 1) := by decide +kernel
theorem dX12_copyMessage_19 : decode cX12_copyMessage 19 = .ok (.iadd, 1) := by decide +kernel
theorem dX12_copyMessage_20 : decode cX12_copyMessage 20 = .ok (.aload_n 0, 1) := by decide +kernel
theorem dX12_copyMessage_21 : decode cX12_copyMessage 21 = .ok (.getfield 39, 3) := by decide +kernel
theorem dX12_copyMessage_24 : decode cX12_copyMessage 24 = .ok (.sipush 600, 3) := by decide +kernel
theorem dX12_copyMessage_27 : decode cX12_copyMessage 27 = .ok (.iload_n 1, 1) := by decide +kernel
theorem dX12_copyMessage_28 : decode cX12_copyMessage 28 = .ok (.imul, 1) := by decide +kernel
theorem dX12_copyMessage_29 : decode cX12_copyMessage 29 = .ok (.iload_n 3, 1) := by decide +kernel
theorem dX12_copyMessage_30 : decode cX12_copyMessage 30 = .ok (.iadd, 1) := by decide +kernel
theorem dX12_copyMessage_31 : decode cX12_copyMessage 31 = .ok (.iaload, 1) := by decide +kernel
theorem dX12_copyMessage_32 : decode cX12_copyMessage 32 = .ok (.iastore, 1) := by decide +kernel
theorem dX12_copyMessage_33 : decode cX12_copyMessage 33 = .ok (.iinc 3 1, 3) := by decide +kernel
theorem dX12_copyMessage_36 : decode cX12_copyMessage 36 = .ok (.goto (-34), 3) := by decide +kernel
theorem dX12_copyMessage_39 : decode cX12_copyMessage 39 = .ok (.aload_n 0, 1) := by decide +kernel
theorem dX12_copyMessage_40 : decode cX12_copyMessage 40 = .ok (.getfield 42, 3) := by decide +kernel
theorem dX12_copyMessage_43 : decode cX12_copyMessage 43 = .ok (.iload_n 2, 1) := by decide +kernel
theorem dX12_copyMessage_44 : decode cX12_copyMessage 44 = .ok (.aload_n 0, 1) := by decide +kernel
theorem dX12_copyMessage_45 : decode cX12_copyMessage 45 = .ok (.getfield 42, 3) := by decide +kernel
theorem dX12_copyMessage_48 : decode cX12_copyMessage 48 = .ok (.iload_n 1, 1) := by decide +kernel
theorem dX12_copyMessage_49 : decode cX12_copyMessage 49 = .ok (.iaload, 1) := by decide +kernel
theorem dX12_copyMessage_50 : decode cX12_copyMessage 50 = .ok (.iastore, 1) := by decide +kernel
theorem dX12_copyMessage_51 : decode cX12_copyMessage 51 = .ok (.return_, 1) := by decide +kernel
set_option maxRecDepth 20000 in
theorem ggX12_remove_X12_copyMessage : GoodIn wsX12_remove wsX12_copyMessage := goodIn_ca (goodIn_r _ [6, 7, 8, 9, 10, 11, 12, 13, 14, 15, 16, 17, 18, 19, 20, 21, 22, 23, 24, 25, 26, 27, 28, 29, 30, 31, 32, 33, 34, 35, 36, 37, 38, 39, 40, 41, 42, 43, 44, 45, 46, 47, 48, 49, 50, 51, 52, 53, 54, 55, 56, 57, 58, 59, 60, 61, 62] rfl (by decide +kernel)) (goodIn_sub (fun _ h => List.mem_cons_of_mem _ (List.mem_append_right _ h)) (by decide +kernel))
set_option maxRecDepth 20000 in
theorem gX12_remove_X12_copyMessage : GoodIn wsX12_remove (wsV RX12 314 RX12 yX12_copyMessage wsX12_copyMessage) := goodIn_app (goodIn_of _ (by decide +kernel)) ggX12_remove_X12_copyMessage
theorem dX12_remove_0 : decode cX12_remove 0 = .ok (.aload_n 0, 1) := by decide +kernel
theorem dX12_remove_1 : decode cX12_remove 1 = .ok (.dup, 1) := by decide +kernel
theorem dX12_remove_2 : decode cX12_remove 2 = .ok (.getfield 139, 3) := by decide +kernel
theorem dX12_remove_5 : decode cX12_remove 5 = .ok (.iconst 1, 1) := by decide +kernel
theorem dX12_remove_6 : decode cX12_remove 6 = .ok (.isub, 1) := by decide +kernel
theorem dX12_remove_7 : decode cX12_remove 7 = .ok (.putfield 139, 3) := by decide +kernel
theorem dX12_remove_10 : decode cX12_remove 10 = .ok (.iload_n 1, 1) := by decide +kernel
theorem dX12_remove_11 : decode cX12_remove 11 = .ok (.istore_n 2, 1) := by decide +kernel
theorem dX12_remove_12 : decode cX12_remove 12 = .ok (.iload_n 2, 1) := by decide +kernel
theorem dX12_remove_13 : decode cX12_remove 13 = .ok (.aload_n 0, 1) := by decide +kernel
theorem dX12_remove_14 : decode cX12_remove 14 = .ok (.getfield 139, 3) := by decide +kernel
theorem dX12_remove_17 : decode cX12_remove 17 = .ok (.if_icmp .ge 17, 3) := by decide +kernel
theorem dX12_remove_20 : decode cX12_remove 20 = .ok (.aload_n 0, 1) := by decide +kernel
theorem dX12_remove_21 : decode cX12_remove 21 = .ok (.iload_n 2, 1) := by decide +kernel
theorem dX12_remove_22 : decode cX12_remove 22 = .ok (.iconst 1, 1) := by decide +kernel
theorem dX12_remove_23 : decode cX12_remove 23 = .ok (.iadd, 1) := by decide +kernel
theorem dX12_remove_24 : decode cX12_remove 24 = .ok (.iload_n 2, 1) := by decide +kernel
theorem dX12_remove_25 : decode cX12_remove 25 = .ok (.invokevirtual 314, 3) := by decide +kernel
theorem dX12_remove_28 : decode cX12_remove 28 = .ok (.iinc 2 1, 3) := by decide +kernel
theorem dX12_remove_31 : decode cX12_remove 31 = .ok (.goto (-19), 3) := by decide +kernel
theorem dX12_remove_34 : decode cX12_remove 34 = .ok (.return_, 1) := by decide +kernel
set_option maxRecDepth 20000 in
theorem ggX12_lose_X12_isMessage : GoodIn wsX12_lose wsX12_isMessage := goodIn_r _ [7, 8, 9, 10, 6, 11, 25, 26, 27, 28, 29, 30, 31, 32, 33, 34, 35, 36, 37, 38, 39, 40, 41, 42, 43, 44, 45, 46, 47, 48, 49, 50, 51, 52, 53, 54, 55, 56, 57, 58, 59, 60, 61, 62, 63, 64, 65, 66, 67, 68, 69, 70, 71, 72, 73, 74, 75, 76, 77, 78] rfl (by decide +kernel)
set_option maxRecDepth 20000 in
theorem gX12_lose_X12_isMessage : GoodIn wsX12_lose (wsV RX12 311 RX12 yX12_isMessage wsX12_isMessage) := goodIn_app (goodIn_of _ (by decide +kernel)) ggX12_lose_X12_isMessage
set_option maxRecDepth 20000 in
theorem ggX12_lose_X12_throwsIf : GoodIn wsX12_lose wsX12_throwsIf := goodIn_r _ [15, 1, 25, 26, 27, 28, 29, 30, 31, 32, 33, 34, 35, 36, 37, 38, 39, 40, 41, 42, 43, 44, 45, 46, 47, 48, 49, 50, 51, 52, 53, 54, 55, 56, 57, 58, 59, 60, 61, 62, 63, 64, 65, 66, 67, 68, 69, 70, 71, 72, 73, 74, 75, 76, 77, 78] rfl (by decide +kernel)
set_option maxRecDepth 20000 in
theorem gX12_lose_X12_throwsIf : GoodIn wsX12_lose (wsV RX12 185 RX12 yX12_throwsIf wsX12_throwsIf) := goodIn_app (goodIn_of _ (by decide +kernel)) ggX12_lose_X12_throwsIf
set_option maxRecDepth 20000 in
theorem ggX12_lose_X12_remove : GoodIn wsX12_lose wsX12_remove := goodIn_ca (goodIn_r _ [19, 8, 20, 21, 22, 6, 23, 24, 2, 25, 26, 27, 28, 29, 30, 31, 32, 33, 34, 35, 36, 37, 38, 39, 40, 41, 42, 43, 44, 45, 46, 47, 48, 49, 50, 51, 52, 53, 54, 55, 56, 57, 58, 59, 60, 61, 62, 63, 64, 65, 66, 67, 68, 69, 70, 71, 72, 73, 74, 75, 76, 77, 78] rfl (by decide +kernel)) (goodIn_sub (fun _ h => List.mem_cons_of_mem _ (List.mem_append_right _ h)) (by decide +kernel))
set_option maxRecDepth 20000 in
theorem gX12_lose_X12_remove : GoodIn wsX12_lose (wsV RX12 317 RX12 yX12_remove wsX12_remove) := goodIn_app (goodIn_of _ (by decide +kernel)) ggX12_lose_X12_remove
theorem dX12_lose_0 : decode cX12_lose 0 = .ok (.aload_n 0, 1) := by decide +kernel
theorem dX12_lose_1 : decode cX12_lose 1 = .ok (.iconst 0, 1) := by decide +kernel
theorem dX12_lose_2 : decode cX12_lose 2 = .ok (.putfield 1, 3) := by decide +kernel
theorem dX12_lose_5 : decode cX12_lose 5 = .ok (.aload_n 0, 1) := by decide +kernel
theorem dX12_lose_6 : decode cX12_lose 6 = .ok (.aload_n 0, 1) := by decide +kernel
theorem dX12_lose_7 : decode cX12_lose 7 = .ok (.iload_n 1, 1) := by decide +kernel
theorem dX12_lose_8 : decode cX12_lose 8 = .ok (.invokevirtual 311, 3) := by decide +kernel
theorem dX12_lose_11 : decode cX12_lose 11 = .ok (.ifCond .ne 7, 3) := by decide +kernel
theorem dX12_lose_14 : decode cX12_lose 14 = .ok (.iconst 1, 1) := by decide +kernel
theorem dX12_lose_15 : decode cX12_lose 15 = .ok (.goto 4, 3) := by decide +kernel
theorem dX12_lose_18 : decode cX12_lose 18 = .ok (.iconst 0, 1) := by decide +kernel
theorem dX12_lose_19 : decode cX12_lose 19 = .ok (.iconst 1, 1) := by decide +kernel
theorem dX12_lose_20 : decode cX12_lose 20 = .ok (.invokevirtual 185, 3) := by decide +kernel
theorem dX12_lose_23 : decode cX12_lose 23 = .ok (.ifCond .eq 5, 3) := by decide +kernel
theorem dX12_lose_26 : decode cX12_lose 26 = .ok (.iconst 0, 1) := by decide +kernel
theorem dX12_lose_27 : decode cX12_lose 27 = .ok (.ireturn, 1) := by decide +kernel
theorem dX12_lose_28 : decode cX12_lose 28 = .ok (.aload_n 0, 1) := by decide +kernel
theorem dX12_lose_29 : decode cX12_lose 29 = .ok (.getfield 42, 3) := by decide +kernel
theorem dX12_lose_32 : decode cX12_lose 32 = .ok (.iload_n 1, 1) := by decide +kernel
theorem dX12_lose_33 : decode cX12_lose 33 = .ok (.iaload, 1) := by decide +kernel
theorem dX12_lose_34 : decode cX12_lose 34 = .ok (.istore_n 2, 1) := by decide +kernel
theorem dX12_lose_35 : decode cX12_lose 35 = .ok (.aload_n 0, 1) := by decide +kernel
theorem dX12_lose_36 : decode cX12_lose 36 = .ok (.iload_n 1, 1) := by decide +kernel
theorem dX12_lose_37 : decode cX12_lose 37 = .ok (.invokevirtual 317, 3) := by decide +kernel
theorem dX12_lose_40 : decode cX12_lose 40 = .ok (.iload_n 2, 1) := by decide +kernel
theorem dX12_lose_41 : decode cX12_lose 41 = .ok (.ireturn, 1) := by decide +kernel

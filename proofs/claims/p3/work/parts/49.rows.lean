theorem dX12_draw_0 : decode cX12_draw 0 = .ok (.aload_n 0, 1) := by decide +kernel
theorem dX12_draw_1 : decode cX12_draw 1 = .ok (.ldc2_w 157, 3) := by decide +kernel
theorem dX12_draw_4 : decode cX12_draw 4 = .ok (.aload_n 0, 1) := by decide +kernel
theorem dX12_draw_5 : decode cX12_draw 5 = .ok (.getfield 104, 3) := by decide +kernel
theorem dX12_draw_8 : decode cX12_draw 8 = .ok (.i2l, 1) := by decide +kernel
theorem dX12_draw_9 : decode cX12_draw 9 = .ok (.lmul, 1) := by decide +kernel
theorem dX12_draw_10 : decode cX12_draw 10 = .ok (.ldc2_w 159, 3) := by decide +kernel
theorem dX12_draw_13 : decode cX12_draw 13 = .ok (.ladd, 1) := by decide +kernel
theorem dX12_draw_14 : decode cX12_draw 14 = .ok (.ldc2_w 161, 3) := by decide +kernel
theorem dX12_draw_17 : decode cX12_draw 17 = .ok (.lrem, 1) := by decide +kernel
theorem dX12_draw_18 : decode cX12_draw 18 = .ok (.l2i, 1) := by decide +kernel
theorem dX12_draw_19 : decode cX12_draw 19 = .ok (.putfield 104, 3) := by decide +kernel
theorem dX12_draw_22 : decode cX12_draw 22 = .ok (.aload_n 0, 1) := by decide +kernel
theorem dX12_draw_23 : decode cX12_draw 23 = .ok (.getfield 104, 3) := by decide +kernel
theorem dX12_draw_26 : decode cX12_draw 26 = .ok (.sipush 256, 3) := by decide +kernel
theorem dX12_draw_29 : decode cX12_draw 29 = .ok (.idiv, 1) := by decide +kernel
theorem dX12_draw_30 : decode cX12_draw 30 = .ok (.iload_n 1, 1) := by decide +kernel
theorem dX12_draw_31 : decode cX12_draw 31 = .ok (.irem, 1) := by decide +kernel
theorem dX12_draw_32 : decode cX12_draw 32 = .ok (.ireturn, 1) := by decide +kernel
set_option maxRecDepth 20000 in
theorem ggX12_appendRecord_X12_sizeOf : GoodIn wsX12_appendRecord wsX12_sizeOf := goodIn_ca (goodIn_r _ [9, 10, 40, 41, 42, 43, 44, 45, 46, 47, 48, 49, 50, 51, 52, 53, 54, 55, 56, 57, 58, 59, 60, 61, 62, 63, 64, 65, 66, 67, 68, 69, 70, 71, 72, 73, 74, 75, 76, 77, 78, 79, 80, 81, 82, 83, 84, 85, 86, 87, 88, 89, 90, 91, 92, 93] rfl (by decide +kernel)) (goodIn_sub (fun _ h => List.mem_cons_of_mem _ (List.mem_append_right _ h)) (by decide +kernel))
set_option maxRecDepth 20000 in
theorem gX12_appendRecord_X12_sizeOf : GoodIn wsX12_appendRecord (wsV RX12 173 RX12 yX12_sizeOf wsX12_sizeOf) := goodIn_app (goodIn_of _ (by decide +kernel)) ggX12_appendRecord_X12_sizeOf
set_option maxRecDepth 20000 in
theorem ggX12_appendRecord_X12_fieldOf : GoodIn wsX12_appendRecord wsX12_fieldOf := goodIn_ca (goodIn_r _ [14, 10, 40, 41, 42, 43, 44, 45, 46, 47, 48, 49, 50, 51, 52, 53, 54, 55, 56, 57, 58, 59, 60, 61, 62, 63, 64, 65, 66, 67, 68, 69, 70, 71, 72, 73, 74, 75, 76, 77, 78, 79, 80, 81, 82, 83, 84, 85, 86, 87, 88, 89, 90, 91, 92, 93] rfl (by decide +kernel)) (goodIn_sub (fun _ h => List.mem_cons_of_mem _ (List.mem_append_right _ h)) (by decide +kernel))
set_option maxRecDepth 20000 in
theorem gX12_appendRecord_X12_fieldOf : GoodIn wsX12_appendRecord (wsV RX12 177 RX12 yX12_fieldOf wsX12_fieldOf) := goodIn_app (goodIn_of _ (by decide +kernel)) ggX12_appendRecord_X12_fieldOf
set_option maxRecDepth 20000 in
theorem ggX12_appendRecord_X12_isSupported : GoodIn wsX12_appendRecord wsX12_isSupported := goodIn_ca (goodIn_r _ [18, 10, 40, 41, 42, 43, 44, 45, 46, 47, 48, 49, 50, 51, 52, 53, 54, 55, 56, 57, 58, 59, 60, 61, 62, 63, 64, 65, 66, 67, 68, 69, 70, 71, 72, 73, 74, 75, 76, 77, 78, 79, 80, 81, 82, 83, 84, 85, 86, 87, 88, 89, 90, 91, 92, 93] rfl (by decide +kernel)) (goodIn_sub (fun _ h => List.mem_cons_of_mem _ (List.mem_append_right _ h)) (by decide +kernel))
set_option maxRecDepth 20000 in
theorem gX12_appendRecord_X12_isSupported : GoodIn wsX12_appendRecord (wsV RX12 206 RX12 yX12_isSupported wsX12_isSupported) := goodIn_app (goodIn_of _ (by decide +kernel)) ggX12_appendRecord_X12_isSupported
set_option maxRecDepth 20000 in
theorem ggX12_appendRecord_X12_lengthOf : GoodIn wsX12_appendRecord wsX12_lengthOf := goodIn_r _ [21] rfl (by decide +kernel)
set_option maxRecDepth 20000 in
theorem gX12_appendRecord_X12_lengthOf : GoodIn wsX12_appendRecord (va_wsS RX12 195 yX12_lengthOf wsX12_lengthOf) := goodIn_app (goodIn_of _ (by decide +kernel)) ggX12_appendRecord_X12_lengthOf
set_option maxRecDepth 20000 in
theorem ggX12_appendRecord_X12_contentOf : GoodIn wsX12_appendRecord wsX12_contentOf := goodIn_ca (goodIn_r _ [25, 26, 27, 28, 29, 30, 31, 32, 33, 34, 35, 36, 37, 38, 39, 40, 41, 42, 43, 44, 45, 46, 47, 48, 49, 50, 51, 52, 53, 54, 55, 56, 57, 58, 59, 60, 61, 62, 63, 64, 65, 66, 67, 68, 69, 70, 71, 72, 73, 74, 75, 76, 77, 78, 79, 80, 81, 82, 83, 84, 85, 86, 87, 88, 89, 90, 91, 92, 93] rfl (by decide +kernel)) (goodIn_sub (fun _ h => List.mem_cons_of_mem _ (List.mem_append_right _ h)) (by decide +kernel))
set_option maxRecDepth 20000 in
theorem gX12_appendRecord_X12_contentOf : GoodIn wsX12_appendRecord (wsV RX12 214 RX12 yX12_contentOf wsX12_contentOf) := goodIn_app (goodIn_of _ (by decide +kernel)) ggX12_appendRecord_X12_contentOf
theorem dX12_appendRecord_0 : decode cX12_appendRecord 0 = .ok (.bipush 30, 2) := by decide +kernel
theorem dX12_appendRecord_2 : decode cX12_appendRecord 2 = .ok (.aload_n 0, 1) := by decide +kernel
theorem dX12_appendRecord_3 : decode cX12_appendRecord 3 = .ok (.getfield 136, 3) := by decide +kernel
theorem dX12_appendRecord_6 : decode cX12_appendRecord 6 = .ok (.imul, 1) := by decide +kernel
theorem dX12_appendRecord_7 : decode cX12_appendRecord 7 = .ok (.istore_n 3, 1) := by decide +kernel
theorem dX12_appendRecord_8 : decode cX12_appendRecord 8 = .ok (.iconst 0, 1) := by decide +kernel
theorem dX12_appendRecord_9 : decode cX12_appendRecord 9 = .ok (.istore 4, 2) := by decide +kernel
theorem dX12_appendRecord_11 : decode cX12_appendRecord 11 = .ok (.iload 4, 2) := by decide +kernel
theorem dX12_appendRecord_13 : decode cX12_appendRecord 13 = .ok (.aload_n 0, 1) := by decide +kernel
theorem dX12_appendRecord_14 : decode cX12_appendRecord 14 = .ok (.iload_n 2, 1) := by decide +kernel
theorem dX12_appendRecord_15 : decode cX12_appendRecord 15 = .ok (.invokevirtual 173, 3) := by decide +kernel
theorem dX12_appendRecord_18 : decode cX12_appendRecord 18 = .ok (.if_icmp .ge 78, 3) := by decide +kernel
theorem dX12_appendRecord_21 : decode cX12_appendRecord 21 = .ok (.aload_n 0, 1) := by decide +kernel
theorem dX12_appendRecord_22 : decode cX12_appendRecord 22 = .ok (.iload_n 2, 1) := by decide +kernel
theorem dX12_appendRecord_23 : decode cX12_appendRecord 23 = .ok (.iload 4, 2) := by decide +kernel
theorem dX12_appendRecord_25 : decode cX12_appendRecord 25 = .ok (.invokevirtual 177, 3) := by decide +kernel
theorem dX12_appendRecord_28 : decode cX12_appendRecord 28 = .ok (.istore 5, 2) := by decide +kernel
theorem dX12_appendRecord_30 : decode cX12_appendRecord 30 = .ok (.aload_n 0, 1) := by decide +kernel
theorem dX12_appendRecord_31 : decode cX12_appendRecord 31 = .ok (.iload 5, 2) := by decide +kernel
theorem dX12_appendRecord_33 : decode cX12_appendRecord 33 = .ok (.invokevirtual 206, 3) := by decide +kernel
theorem dX12_appendRecord_36 : decode cX12_appendRecord 36 = .ok (.ifCond .ne 6, 3) := by decide +kernel
theorem dX12_appendRecord_39 : decode cX12_appendRecord 39 = .ok (.goto 51, 3) := by decide +kernel
theorem dX12_appendRecord_42 : decode cX12_appendRecord 42 = .ok (.bipush 8, 2) := by decide +kernel
theorem dX12_appendRecord_44 : decode cX12_appendRecord 44 = .ok (.iload 5, 2) := by decide +kernel
theorem dX12_appendRecord_46 : decode cX12_appendRecord 46 = .ok (.invokestatic 195, 3) := by decide +kernel
theorem dX12_appendRecord_49 : decode cX12_appendRecord 49 = .ok (.imul, 1) := by decide +kernel
theorem dX12_appendRecord_50 : decode cX12_appendRecord 50 = .ok (.bipush 8, 2) := by decide +kernel
theorem dX12_appendRecord_52 : decode cX12_appendRecord 52 = .ok (.isub, 1) := by decide +kernel
theorem dX12_appendRecord_53 : decode cX12_appendRecord 53 = .ok (.istore 6, 2) := by decide +kernel
theorem dX12_appendRecord_55 : decode cX12_appendRecord 55 = .ok (.iload 6, 2) := by decide +kernel
theorem dX12_appendRecord_57 : decode cX12_appendRecord 57 = .ok (.ifCond .lt 33, 3) := by decide +kernel
theorem dX12_appendRecord_60 : decode cX12_appendRecord 60 = .ok (.aload_n 0, 1) := by decide +kernel
theorem dX12_appendRecord_61 : decode cX12_appendRecord 61 = .ok (.getfield 33, 3) := by decide +kernel
theorem dX12_appendRecord_64 : decode cX12_appendRecord 64 = .ok (.iload_n 3, 1) := by decide +kernel
theorem dX12_appendRecord_65 : decode cX12_appendRecord 65 = .ok (.aload_n 0, 1) := by decide +kernel
theorem dX12_appendRecord_66 : decode cX12_appendRecord 66 = .ok (.iload_n 1, 1) := by decide +kernel
theorem dX12_appendRecord_67 : decode cX12_appendRecord 67 = .ok (.iload 5, 2) := by decide +kernel
theorem dX12_appendRecord_69 : decode cX12_appendRecord 69 = .ok (.invokevirtual 214, 3) := by decide +kernel
theorem dX12_appendRecord_72 : decode cX12_appendRecord 72 = .ok (.iload 6, 2) := by decide +kernel
theorem dX12_appendRecord_74 : decode cX12_appendRecord 74 = .ok (.lshr, 1) := by decide +kernel
theorem dX12_appendRecord_75 : decode cX12_appendRecord 75 = .ok (.ldc2_w 218, 3) := by decide +kernel
theorem dX12_appendRecord_78 : decode cX12_appendRecord 78 = .ok (.land, 1) := by decide +kernel
theorem dX12_appendRecord_79 : decode cX12_appendRecord 79 = .ok (.l2i, 1) := by decide +kernel
theorem dX12_appendRecord_80 : decode cX12_appendRecord 80 = .ok (.iastore, 1) := by decide +kernel
theorem dX12_appendRecord_81 : decode cX12_appendRecord 81 = .ok (.iinc 3 1, 3) := by decide +kernel
theorem dX12_appendRecord_84 : decode cX12_appendRecord 84 = .ok (.iinc 6 (-8), 3) := by decide +kernel
theorem dX12_appendRecord_87 : decode cX12_appendRecord 87 = .ok (.goto (-32), 3) := by decide +kernel
theorem dX12_appendRecord_90 : decode cX12_appendRecord 90 = .ok (.iinc 4 1, 3) := by decide +kernel
theorem dX12_appendRecord_93 : decode cX12_appendRecord 93 = .ok (.goto (-82), 3) := by decide +kernel
theorem dX12_appendRecord_96 : decode cX12_appendRecord 96 = .ok (.aload_n 0, 1) := by decide +kernel
theorem dX12_appendRecord_97 : decode cX12_appendRecord 97 = .ok (.getfield 30, 3) := by decide +kernel
theorem dX12_appendRecord_100 : decode cX12_appendRecord 100 = .ok (.aload_n 0, 1) := by decide +kernel
theorem dX12_appendRecord_101 : decode cX12_appendRecord 101 = .ok (.getfield 136, 3) := by decide +kernel
theorem dX12_appendRecord_104 : decode cX12_appendRecord 104 = .ok (.iload_n 2, 1) := by decide +kernel
theorem dX12_appendRecord_105 : decode cX12_appendRecord 105 = .ok (.iastore, 1) := by decide +kernel
theorem dX12_appendRecord_106 : decode cX12_appendRecord 106 = .ok (.aload_n 0, 1) := by decide +kernel
theorem dX12_appendRecord_107 : decode cX12_appendRecord 107 = .ok (.dup, 1) := by decide +kernel
theorem dX12_appendRecord_108 : decode cX12_appendRecord 108 = .ok (.getfield 136, 3) := by decide +kernel
theorem dX12_appendRecord_111 : decode cX12_appendRecord 111 = .ok (.iconst 1, 1) := by decide +kernel
theorem dX12_appendRecord_112 : decode cX12_appendRecord 112 = .ok (.iadd, 1) := by decide +kernel
theorem dX12_appendRecord_113 : decode cX12_appendRecord 113 = .ok (.putfield 136, 3) := by decide +kernel
theorem dX12_appendRecord_116 : decode cX12_appendRecord 116 = .ok (.return_, 1) := by decide +kernel
set_option maxRecDepth 20000 in
theorem ggX12_export_X12_effective : GoodIn wsX12_export wsX12_effective := goodIn_ca (goodIn_r _ [10, 1, 11, 12, 13, 9, 14, 15, 16, 17, 18, 19, 20, 21, 22, 55, 56, 57, 58, 59, 60, 61, 62, 63, 64, 65, 66, 67, 68, 69, 70, 71, 72, 73, 74, 75, 76, 77, 78, 79, 80, 81, 82, 83, 84, 85, 86, 87, 88, 89, 90, 91, 92, 93, 94, 95, 96, 97, 98, 99, 100, 101, 102, 103, 104, 105, 106, 107, 108] rfl (by decide +kernel)) (goodIn_sub (fun _ h => List.mem_cons_of_mem _ (List.mem_append_right _ h)) (by decide +kernel))
set_option maxRecDepth 20000 in
theorem gX12_export_X12_effective : GoodIn wsX12_export (wsV RX12 192 RX12 yX12_effective wsX12_effective) := goodIn_app (goodIn_of _ (by decide +kernel)) ggX12_export_X12_effective
set_option maxRecDepth 20000 in
theorem ggX12_export_X12_appendRecord : GoodIn wsX12_export wsX12_appendRecord := goodIn_ca (goodIn_r _ [26, 27, 28, 29, 30, 15, 16, 17, 9, 18, 1, 19, 20, 21, 22, 31, 32, 33, 34, 35, 36, 37, 38, 39, 40, 41, 42, 2, 43, 44, 45, 46, 47, 48, 49, 50, 51, 52, 53, 54, 55, 56, 57, 58, 59, 60, 61, 62, 63, 64, 65, 66, 67, 68, 69, 70, 71, 72, 73, 74, 75, 76, 77, 78, 79, 80, 81, 82, 83, 84, 85, 86, 87, 88, 89, 90, 91, 92, 93, 94, 95, 96, 97, 98, 99, 100, 101, 102, 103, 104, 105, 106, 107, 108] rfl (by decide +kernel)) (goodIn_sub (fun _ h => List.mem_cons_of_mem _ (List.mem_append_right _ h)) (by decide +kernel))
set_option maxRecDepth 20000 in
theorem gX12_export_X12_appendRecord : GoodIn wsX12_export (wsV RX12 220 RX12 yX12_appendRecord wsX12_appendRecord) := goodIn_app (goodIn_of _ (by decide +kernel)) ggX12_export_X12_appendRecord
theorem dX12_export_0 : decode cX12_export 0 = .ok (.aload_n 0, 1) := by decide +kernel
theorem dX12_export_1 : decode cX12_export 1 = .ok (.getfield 17, 3) := by decide +kernel
theorem dX12_export_4 : decode cX12_export 4 = .ok (.bipush 51, 2) := by decide +kernel
theorem dX12_export_6 : decode cX12_export 6 = .ok (.aload_n 0, 1) := by decide +kernel
theorem dX12_export_7 : decode cX12_export 7 = .ok (.getfield 26, 3) := by decide +kernel
theorem dX12_export_10 : decode cX12_export 10 = .ok (.bipush 8, 2) := by decide +kernel
theorem dX12_export_12 : decode cX12_export 12 = .ok (.iload_n 1, 1) := by decide +kernel
theorem dX12_export_13 : decode cX12_export 13 = .ok (.imul, 1) := by decide +kernel
theorem dX12_export_14 : decode cX12_export 14 = .ok (.iconst 3, 1) := by decide +kernel
theorem dX12_export_15 : decode cX12_export 15 = .ok (.iadd, 1) := by decide +kernel
theorem dX12_export_16 : decode cX12_export 16 = .ok (.laload, 1) := by decide +kernel
theorem dX12_export_17 : decode cX12_export 17 = .ok (.l2i, 1) := by decide +kernel
theorem dX12_export_18 : decode cX12_export 18 = .ok (.iadd, 1) := by decide +kernel
theorem dX12_export_19 : decode cX12_export 19 = .ok (.iaload, 1) := by decide +kernel
theorem dX12_export_20 : decode cX12_export 20 = .ok (.istore_n 2, 1) := by decide +kernel
theorem dX12_export_21 : decode cX12_export 21 = .ok (.aload_n 0, 1) := by decide +kernel
theorem dX12_export_22 : decode cX12_export 22 = .ok (.iload_n 2, 1) := by decide +kernel
theorem dX12_export_23 : decode cX12_export 23 = .ok (.invokevirtual 192, 3) := by decide +kernel
theorem dX12_export_26 : decode cX12_export 26 = .ok (.ifCond .eq 12, 3) := by decide +kernel
theorem dX12_export_29 : decode cX12_export 29 = .ok (.aload_n 0, 1) := by decide +kernel
theorem dX12_export_30 : decode cX12_export 30 = .ok (.iload_n 1, 1) := by decide +kernel
theorem dX12_export_31 : decode cX12_export 31 = .ok (.iload_n 2, 1) := by decide +kernel
theorem dX12_export_32 : decode cX12_export 32 = .ok (.invokevirtual 220, 3) := by decide +kernel
theorem dX12_export_35 : decode cX12_export 35 = .ok (.goto 13, 3) := by decide +kernel
theorem dX12_export_38 : decode cX12_export 38 = .ok (.aload_n 0, 1) := by decide +kernel
theorem dX12_export_39 : decode cX12_export 39 = .ok (.dup, 1) := by decide +kernel
theorem dX12_export_40 : decode cX12_export 40 = .ok (.getfield 127, 3) := by decide +kernel
theorem dX12_export_43 : decode cX12_export 43 = .ok (.lconst 1, 1) := by decide +kernel
theorem dX12_export_44 : decode cX12_export 44 = .ok (.ladd, 1) := by decide +kernel
theorem dX12_export_45 : decode cX12_export 45 = .ok (.putfield 127, 3) := by decide +kernel
theorem dX12_export_48 : decode cX12_export 48 = .ok (.aload_n 0, 1) := by decide +kernel
theorem dX12_export_49 : decode cX12_export 49 = .ok (.dup, 1) := by decide +kernel
theorem dX12_export_50 : decode cX12_export 50 = .ok (.getfield 114, 3) := by decide +kernel
theorem dX12_export_53 : decode cX12_export 53 = .ok (.iconst 1, 1) := by decide +kernel
theorem dX12_export_54 : decode cX12_export 54 = .ok (.iadd, 1) := by decide +kernel
theorem dX12_export_55 : decode cX12_export 55 = .ok (.putfield 114, 3) := by decide +kernel
theorem dX12_export_58 : decode cX12_export 58 = .ok (.aload_n 0, 1) := by decide +kernel
theorem dX12_export_59 : decode cX12_export 59 = .ok (.dup, 1) := by decide +kernel
theorem dX12_export_60 : decode cX12_export 60 = .ok (.getfield 133, 3) := by decide +kernel
theorem dX12_export_63 : decode cX12_export 63 = .ok (.iconst 1, 1) := by decide +kernel
theorem dX12_export_64 : decode cX12_export 64 = .ok (.isub, 1) := by decide +kernel
theorem dX12_export_65 : decode cX12_export 65 = .ok (.putfield 133, 3) := by decide +kernel
theorem dX12_export_68 : decode cX12_export 68 = .ok (.bipush 8, 2) := by decide +kernel
theorem dX12_export_70 : decode cX12_export 70 = .ok (.iload_n 1, 1) := by decide +kernel
theorem dX12_export_71 : decode cX12_export 71 = .ok (.imul, 1) := by decide +kernel
theorem dX12_export_72 : decode cX12_export 72 = .ok (.istore_n 3, 1) := by decide +kernel
theorem dX12_export_73 : decode cX12_export 73 = .ok (.iload_n 3, 1) := by decide +kernel
theorem dX12_export_74 : decode cX12_export 74 = .ok (.bipush 8, 2) := by decide +kernel
theorem dX12_export_76 : decode cX12_export 76 = .ok (.aload_n 0, 1) := by decide +kernel
theorem dX12_export_77 : decode cX12_export 77 = .ok (.getfield 133, 3) := by decide +kernel
theorem dX12_export_80 : decode cX12_export 80 = .ok (.imul, 1) := by decide +kernel
theorem dX12_export_81 : decode cX12_export 81 = .ok (.if_icmp .ge 24, 3) := by decide +kernel
theorem dX12_export_84 : decode cX12_export 84 = .ok (.aload_n 0, 1) := by decide +kernel
theorem dX12_export_85 : decode cX12_export 85 = .ok (.getfield 26, 3) := by decide +kernel
theorem dX12_export_88 : decode cX12_export 88 = .ok (.iload_n 3, 1) := by decide +kernel
theorem dX12_export_89 : decode cX12_export 89 = .ok (.aload_n 0, 1) := by decide +kernel
theorem dX12_export_90 : decode cX12_export 90 = .ok (.getfield 26, 3) := by decide +kernel
theorem dX12_export_93 : decode cX12_export 93 = .ok (.iload_n 3, 1) := by decide +kernel
theorem dX12_export_94 : decode cX12_export 94 = .ok (.bipush 8, 2) := by decide +kernel
theorem dX12_export_96 : decode cX12_export 96 = .ok (.iadd, 1) := by decide +kernel
theorem dX12_export_97 : decode cX12_export 97 = .ok (.laload, 1) := by decide +kernel
theorem dX12_export_98 : decode cX12_export 98 = .ok (.lastore, 1) := by decide +kernel
theorem dX12_export_99 : decode cX12_export 99 = .ok (.iinc 3 1, 3) := by decide +kernel
theorem dX12_export_102 : decode cX12_export 102 = .ok (.goto (-29), 3) := by decide +kernel
theorem dX12_export_105 : decode cX12_export 105 = .ok (.return_, 1) := by decide +kernel
set_option maxRecDepth 20000 in
theorem ggX12_exportAll_X12_export : GoodIn wsX12_exportAll wsX12_export := goodIn_ca (goodIn_r _ [6, 7, 8, 9, 10, 1, 11, 12, 13, 5, 14, 15, 16, 17, 18, 19, 20, 21, 22, 23, 24, 25, 26, 27, 28, 29, 30, 31, 32, 33, 34, 35, 36, 37, 38, 39, 40, 41, 42, 43, 44, 45, 46, 47, 48, 49, 50, 51, 52, 53, 54, 55, 56, 57, 58, 59, 60, 61, 62, 63, 64, 65, 66, 67, 68, 69, 70, 71, 72, 73, 74, 75, 76, 77, 78, 79, 80, 81, 82, 83, 84, 85, 86, 87, 88, 89, 90, 91, 92, 93, 94, 95, 96, 97, 98, 99, 100, 101, 102, 103, 104, 105, 106, 107, 108, 109, 110, 111, 112] rfl (by decide +kernel)) (goodIn_sub (fun _ h => List.mem_cons_of_mem _ (List.mem_append_right _ h)) (by decide +kernel))
set_option maxRecDepth 20000 in
theorem gX12_exportAll_X12_export : GoodIn wsX12_exportAll (wsV RX12 224 RX12 yX12_export wsX12_export) := goodIn_app (goodIn_of _ (by decide +kernel)) ggX12_exportAll_X12_export
theorem dX12_exportAll_0 : decode cX12_exportAll 0 = .ok (.aload_n 0, 1) := by decide +kernel
theorem dX12_exportAll_1 : decode cX12_exportAll 1 = .ok (.getfield 133, 3) := by decide +kernel
theorem dX12_exportAll_4 : decode cX12_exportAll 4 = .ok (.istore_n 1, 1) := by decide +kernel
theorem dX12_exportAll_5 : decode cX12_exportAll 5 = .ok (.aload_n 0, 1) := by decide +kernel
theorem dX12_exportAll_6 : decode cX12_exportAll 6 = .ok (.getfield 133, 3) := by decide +kernel
theorem dX12_exportAll_9 : decode cX12_exportAll 9 = .ok (.ifCond .le 11, 3) := by decide +kernel
theorem dX12_exportAll_12 : decode cX12_exportAll 12 = .ok (.aload_n 0, 1) := by decide +kernel
theorem dX12_exportAll_13 : decode cX12_exportAll 13 = .ok (.iconst 0, 1) := by decide +kernel
theorem dX12_exportAll_14 : decode cX12_exportAll 14 = .ok (.invokevirtual 224, 3) := by decide +kernel
theorem dX12_exportAll_17 : decode cX12_exportAll 17 = .ok (.goto (-12), 3) := by decide +kernel
theorem dX12_exportAll_20 : decode cX12_exportAll 20 = .ok (.iload_n 1, 1) := by decide +kernel
theorem dX12_exportAll_21 : decode cX12_exportAll 21 = .ok (.ireturn, 1) := by decide +kernel
set_option maxRecDepth 20000 in
theorem ggX12_makeRoom_X12_export : GoodIn wsX12_makeRoom wsX12_export := goodIn_ca (goodIn_r _ [7, 8, 2, 9, 10, 1, 11, 12, 13, 6, 14, 15, 16, 17, 18, 19, 20, 21, 22, 23, 24, 25, 26, 27, 28, 29, 30, 31, 32, 33, 34, 35, 36, 37, 38, 39, 40, 41, 42, 43, 44, 45, 46, 47, 48, 49, 50, 51, 52, 53, 54, 55, 56, 57, 58, 59, 60, 61, 62, 63, 64, 65, 66, 67, 68, 69, 70, 71, 72, 73, 74, 75, 76, 77, 78, 79, 80, 81, 82, 83, 84, 85, 86, 87, 88, 89, 90, 91, 92, 93, 94, 95, 96, 97, 98, 99, 100, 101, 102, 103, 104, 105, 106, 107, 108, 109, 110, 111, 112] rfl (by decide +kernel)) (goodIn_sub (fun _ h => List.mem_cons_of_mem _ (List.mem_append_right _ h)) (by decide +kernel))
set_option maxRecDepth 20000 in
theorem gX12_makeRoom_X12_export : GoodIn wsX12_makeRoom (wsV RX12 224 RX12 yX12_export wsX12_export) := goodIn_app (goodIn_of _ (by decide +kernel)) ggX12_makeRoom_X12_export
theorem dX12_makeRoom_0 : decode cX12_makeRoom 0 = .ok (.aload_n 0, 1) := by decide +kernel
theorem dX12_makeRoom_1 : decode cX12_makeRoom 1 = .ok (.getfield 133, 3) := by decide +kernel
theorem dX12_makeRoom_4 : decode cX12_makeRoom 4 = .ok (.bipush 12, 2) := by decide +kernel
theorem dX12_makeRoom_6 : decode cX12_makeRoom 6 = .ok (.if_icmp .ge 4, 3) := by decide +kernel
theorem dX12_makeRoom_9 : decode cX12_makeRoom 9 = .ok (.return_, 1) := by decide +kernel
theorem dX12_makeRoom_10 : decode cX12_makeRoom 10 = .ok (.iconst 0, 1) := by decide +kernel
theorem dX12_makeRoom_11 : decode cX12_makeRoom 11 = .ok (.istore_n 1, 1) := by decide +kernel
theorem dX12_makeRoom_12 : decode cX12_makeRoom 12 = .ok (.iconst 1, 1) := by decide +kernel
theorem dX12_makeRoom_13 : decode cX12_makeRoom 13 = .ok (.istore_n 2, 1) := by decide +kernel
theorem dX12_makeRoom_14 : decode cX12_makeRoom 14 = .ok (.iload_n 2, 1) := by decide +kernel
theorem dX12_makeRoom_15 : decode cX12_makeRoom 15 = .ok (.aload_n 0, 1) := by decide +kernel
theorem dX12_makeRoom_16 : decode cX12_makeRoom 16 = .ok (.getfield 133, 3) := by decide +kernel
theorem dX12_makeRoom_19 : decode cX12_makeRoom 19 = .ok (.if_icmp .ge 39, 3) := by decide +kernel
theorem dX12_makeRoom_22 : decode cX12_makeRoom 22 = .ok (.aload_n 0, 1) := by decide +kernel
theorem dX12_makeRoom_23 : decode cX12_makeRoom 23 = .ok (.getfield 26, 3) := by decide +kernel
theorem dX12_makeRoom_26 : decode cX12_makeRoom 26 = .ok (.bipush 8, 2) := by decide +kernel
theorem dX12_makeRoom_28 : decode cX12_makeRoom 28 = .ok (.iload_n 2, 1) := by decide +kernel
theorem dX12_makeRoom_29 : decode cX12_makeRoom 29 = .ok (.imul, 1) := by decide +kernel
theorem dX12_makeRoom_30 : decode cX12_makeRoom 30 = .ok (.bipush 7, 2) := by decide +kernel
theorem dX12_makeRoom_32 : decode cX12_makeRoom 32 = .ok (.iadd, 1) := by decide +kernel
theorem dX12_makeRoom_33 : decode cX12_makeRoom 33 = .ok (.laload, 1) := by decide +kernel
theorem dX12_makeRoom_34 : decode cX12_makeRoom 34 = .ok (.aload_n 0, 1) := by decide +kernel
theorem dX12_makeRoom_35 : decode cX12_makeRoom 35 = .ok (.getfield 26, 3) := by decide +kernel
theorem dX12_makeRoom_38 : decode cX12_makeRoom 38 = .ok (.bipush 8, 2) := by decide +kernel
theorem dX12_makeRoom_40 : decode cX12_makeRoom 40 = .ok (.iload_n 1, 1) := by decide +kernel
theorem dX12_makeRoom_41 : decode cX12_makeRoom 41 = .ok (.imul, 1) := by decide +kernel
theorem dX12_makeRoom_42 : decode cX12_makeRoom 42 = .ok (.bipush 7, 2) := by decide +kernel
theorem dX12_makeRoom_44 : decode cX12_makeRoom 44 = .ok (.iadd, 1) := by decide +kernel
theorem dX12_makeRoom_45 : decode cX12_makeRoom 45 = .ok (.laload, 1) := by decide +kernel
theorem dX12_makeRoom_46 : decode cX12_makeRoom 46 = .ok (.lcmp, 1) := by decide +kernel
theorem dX12_makeRoom_47 : decode cX12_makeRoom 47 = .ok (.ifCond .ge 5, 3) := by decide +kernel
theorem dX12_makeRoom_50 : decode cX12_makeRoom 50 = .ok (.iload_n 2, 1) := by decide +kernel
theorem dX12_makeRoom_51 : decode cX12_makeRoom 51 = .ok (.istore_n 1, 1) := by decide +kernel
theorem dX12_makeRoom_52 : decode cX12_makeRoom 52 = .ok (.iinc 2 1, 3) := by decide +kernel
theorem dX12_makeRoom_55 : decode cX12_makeRoom 55 = .ok (.goto (-41), 3) := by decide +kernel
theorem dX12_makeRoom_58 : decode cX12_makeRoom 58 = .ok (.aload_n 0, 1) := by decide +kernel
theorem dX12_makeRoom_59 : decode cX12_makeRoom 59 = .ok (.iload_n 1, 1) := by decide +kernel
theorem dX12_makeRoom_60 : decode cX12_makeRoom 60 = .ok (.invokevirtual 224, 3) := by decide +kernel
theorem dX12_makeRoom_63 : decode cX12_makeRoom 63 = .ok (.return_, 1) := by decide +kernel
theorem dX12_isSame_0 : decode cX12_isSame 0 = .ok (.aload_n 0, 1) := by decide +kernel
theorem dX12_isSame_1 : decode cX12_isSame 1 = .ok (.iconst 4, 1) := by decide +kernel
theorem dX12_isSame_2 : decode cX12_isSame 2 = .ok (.iload_n 1, 1) := by decide +kernel
theorem dX12_isSame_3 : decode cX12_isSame 3 = .ok (.imul, 1) := by decide +kernel
theorem dX12_isSame_4 : decode cX12_isSame 4 = .ok (.iaload, 1) := by decide +kernel
theorem dX12_isSame_5 : decode cX12_isSame 5 = .ok (.i2l, 1) := by decide +kernel
theorem dX12_isSame_6 : decode cX12_isSame 6 = .ok (.lload_n 2, 1) := by decide +kernel
theorem dX12_isSame_7 : decode cX12_isSame 7 = .ok (.lcmp, 1) := by decide +kernel
theorem dX12_isSame_8 : decode cX12_isSame 8 = .ok (.ifCond .ne 49, 3) := by decide +kernel
theorem dX12_isSame_11 : decode cX12_isSame 11 = .ok (.aload_n 0, 1) := by decide +kernel
theorem dX12_isSame_12 : decode cX12_isSame 12 = .ok (.iconst 4, 1) := by decide +kernel
theorem dX12_isSame_13 : decode cX12_isSame 13 = .ok (.iload_n 1, 1) := by decide +kernel
theorem dX12_isSame_14 : decode cX12_isSame 14 = .ok (.imul, 1) := by decide +kernel
theorem dX12_isSame_15 : decode cX12_isSame 15 = .ok (.iconst 1, 1) := by decide +kernel
theorem dX12_isSame_16 : decode cX12_isSame 16 = .ok (.iadd, 1) := by decide +kernel
theorem dX12_isSame_17 : decode cX12_isSame 17 = .ok (.iaload, 1) := by decide +kernel
theorem dX12_isSame_18 : decode cX12_isSame 18 = .ok (.i2l, 1) := by decide +kernel
theorem dX12_isSame_19 : decode cX12_isSame 19 = .ok (.lload 4, 2) := by decide +kernel
theorem dX12_isSame_21 : decode cX12_isSame 21 = .ok (.lcmp, 1) := by decide +kernel
theorem dX12_isSame_22 : decode cX12_isSame 22 = .ok (.ifCond .ne 35, 3) := by decide +kernel
theorem dX12_isSame_25 : decode cX12_isSame 25 = .ok (.aload_n 0, 1) := by decide +kernel
theorem dX12_isSame_26 : decode cX12_isSame 26 = .ok (.iconst 4, 1) := by decide +kernel
theorem dX12_isSame_27 : decode cX12_isSame 27 = .ok (.iload_n 1, 1) := by decide +kernel
theorem dX12_isSame_28 : decode cX12_isSame 28 = .ok (.imul, 1) := by decide +kernel
theorem dX12_isSame_29 : decode cX12_isSame 29 = .ok (.iconst 2, 1) := by decide +kernel
theorem dX12_isSame_30 : decode cX12_isSame 30 = .ok (.iadd, 1) := by decide +kernel
theorem dX12_isSame_31 : decode cX12_isSame 31 = .ok (.iaload, 1) := by decide +kernel
theorem dX12_isSame_32 : decode cX12_isSame 32 = .ok (.i2l, 1) := by decide +kernel
theorem dX12_isSame_33 : decode cX12_isSame 33 = .ok (.lload 6, 2) := by decide +kernel
theorem dX12_isSame_35 : decode cX12_isSame 35 = .ok (.lcmp, 1) := by decide +kernel
theorem dX12_isSame_36 : decode cX12_isSame 36 = .ok (.ifCond .ne 21, 3) := by decide +kernel
theorem dX12_isSame_39 : decode cX12_isSame 39 = .ok (.aload_n 0, 1) := by decide +kernel
theorem dX12_isSame_40 : decode cX12_isSame 40 = .ok (.iconst 4, 1) := by decide +kernel
theorem dX12_isSame_41 : decode cX12_isSame 41 = .ok (.iload_n 1, 1) := by decide +kernel
theorem dX12_isSame_42 : decode cX12_isSame 42 = .ok (.imul, 1) := by decide +kernel
theorem dX12_isSame_43 : decode cX12_isSame 43 = .ok (.iconst 3, 1) := by decide +kernel
theorem dX12_isSame_44 : decode cX12_isSame 44 = .ok (.iadd, 1) := by decide +kernel
theorem dX12_isSame_45 : decode cX12_isSame 45 = .ok (.iaload, 1) := by decide +kernel
theorem dX12_isSame_46 : decode cX12_isSame 46 = .ok (.i2l, 1) := by decide +kernel
theorem dX12_isSame_47 : decode cX12_isSame 47 = .ok (.lload 8, 2) := by decide +kernel
theorem dX12_isSame_49 : decode cX12_isSame 49 = .ok (.lcmp, 1) := by decide +kernel
theorem dX12_isSame_50 : decode cX12_isSame 50 = .ok (.ifCond .ne 7, 3) := by decide +kernel
theorem dX12_isSame_53 : decode cX12_isSame 53 = .ok (.iconst 1, 1) := by decide +kernel
theorem dX12_isSame_54 : decode cX12_isSame 54 = .ok (.goto 4, 3) := by decide +kernel
theorem dX12_isSame_57 : decode cX12_isSame 57 = .ok (.iconst 0, 1) := by decide +kernel
theorem dX12_isSame_58 : decode cX12_isSame 58 = .ok (.ireturn, 1) := by decide +kernel

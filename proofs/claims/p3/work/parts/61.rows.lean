set_option maxRecDepth 20000 in
theorem ggX12_duplicate_X12_isMessage : GoodIn wsX12_duplicate wsX12_isMessage := goodIn_r _ [7, 2, 8, 9, 6, 10, 21, 22, 23, 24, 25, 26, 27, 28, 29, 30, 31, 32, 33, 34, 35, 36, 37, 38, 39, 40, 41, 42, 43, 44, 45, 46, 47, 48, 49, 50, 51, 52, 53, 54, 55, 56, 57, 58, 59, 60, 61, 62, 63, 64, 65, 66, 67, 68, 69, 70, 71, 72, 73, 74] rfl (by decide +kernel)
set_option maxRecDepth 20000 in
theorem gX12_duplicate_X12_isMessage : GoodIn wsX12_duplicate (wsV RX12 311 RX12 yX12_isMessage wsX12_isMessage) := goodIn_app (goodIn_of _ (by decide +kernel)) ggX12_duplicate_X12_isMessage
set_option maxRecDepth 20000 in
theorem ggX12_duplicate_X12_throwsIf : GoodIn wsX12_duplicate wsX12_throwsIf := goodIn_r _ [14, 1, 21, 22, 23, 24, 25, 26, 27, 28, 29, 30, 31, 32, 33, 34, 35, 36, 37, 38, 39, 40, 41, 42, 43, 44, 45, 46, 47, 48, 49, 50, 51, 52, 53, 54, 55, 56, 57, 58, 59, 60, 61, 62, 63, 64, 65, 66, 67, 68, 69, 70, 71, 72, 73, 74] rfl (by decide +kernel)
set_option maxRecDepth 20000 in
theorem gX12_duplicate_X12_throwsIf : GoodIn wsX12_duplicate (wsV RX12 185 RX12 yX12_throwsIf wsX12_throwsIf) := goodIn_app (goodIn_of _ (by decide +kernel)) ggX12_duplicate_X12_throwsIf
set_option maxRecDepth 20000 in
theorem ggX12_duplicate_X12_copyMessage : GoodIn wsX12_duplicate wsX12_copyMessage := goodIn_ca (goodIn_r _ [18, 19, 20, 21, 22, 23, 24, 25, 26, 27, 28, 29, 30, 31, 32, 33, 34, 35, 36, 37, 38, 39, 40, 41, 42, 43, 44, 45, 46, 47, 48, 49, 50, 51, 52, 53, 54, 55, 56, 57, 58, 59, 60, 61, 62, 63, 64, 65, 66, 67, 68, 69, 70, 71, 72, 73, 74] rfl (by decide +kernel)) (goodIn_sub (fun _ h => List.mem_cons_of_mem _ (List.mem_append_right _ h)) (by decide +kernel))
set_option maxRecDepth 20000 in
theorem gX12_duplicate_X12_copyMessage : GoodIn wsX12_duplicate (wsV RX12 314 RX12 yX12_copyMessage wsX12_copyMessage) := goodIn_app (goodIn_of _ (by decide +kernel)) ggX12_duplicate_X12_copyMessage
theorem dX12_duplicate_0 : decode cX12_duplicate 0 = .ok (.aload_n 0, 1) := by decide +kernel
theorem dX12_duplicate_1 : decode cX12_duplicate 1 = .ok (.iconst 0, 1) := by decide +kernel
theorem dX12_duplicate_2 : decode cX12_duplicate 2 = .ok (.putfield 1, 3) := by decide +kernel
theorem dX12_duplicate_5 : decode cX12_duplicate 5 = .ok (.aload_n 0, 1) := by decide +kernel
theorem dX12_duplicate_6 : decode cX12_duplicate 6 = .ok (.aload_n 0, 1) := by decide +kernel
theorem dX12_duplicate_7 : decode cX12_duplicate 7 = .ok (.iload_n 1, 1) := by decide +kernel
theorem dX12_duplicate_8 : decode cX12_duplicate 8 = .ok (.invokevirtual 311, 3) := by decide +kernel
theorem dX12_duplicate_11 : decode cX12_duplicate 11 = .ok (.ifCond .ne 7, 3) := by decide +kernel
theorem dX12_duplicate_14 : decode cX12_duplicate 14 = .ok (.iconst 1, 1) := by decide +kernel
theorem dX12_duplicate_15 : decode cX12_duplicate 15 = .ok (.goto 4, 3) := by decide +kernel
theorem dX12_duplicate_18 : decode cX12_duplicate 18 = .ok (.iconst 0, 1) := by decide +kernel
theorem dX12_duplicate_19 : decode cX12_duplicate 19 = .ok (.iconst 1, 1) := by decide +kernel
theorem dX12_duplicate_20 : decode cX12_duplicate 20 = .ok (.invokevirtual 185, 3) := by decide +kernel
theorem dX12_duplicate_23 : decode cX12_duplicate 23 = .ok (.ifCond .ne 12, 3) := by decide +kernel
theorem dX12_duplicate_26 : decode cX12_duplicate 26 = .ok (.aload_n 0, 1) := by decide +kernel
theorem dX12_duplicate_27 : decode cX12_duplicate 27 = .ok (.getfield 139, 3) := by decide +kernel
theorem dX12_duplicate_30 : decode cX12_duplicate 30 = .ok (.bipush 12, 2) := by decide +kernel
theorem dX12_duplicate_32 : decode cX12_duplicate 32 = .ok (.if_icmp .ne 5, 3) := by decide +kernel
theorem dX12_duplicate_35 : decode cX12_duplicate 35 = .ok (.iconst 0, 1) := by decide +kernel
theorem dX12_duplicate_36 : decode cX12_duplicate 36 = .ok (.ireturn, 1) := by decide +kernel
theorem dX12_duplicate_37 : decode cX12_duplicate 37 = .ok (.aload_n 0, 1) := by decide +kernel
theorem dX12_duplicate_38 : decode cX12_duplicate 38 = .ok (.iload_n 1, 1) := by decide +kernel
theorem dX12_duplicate_39 : decode cX12_duplicate 39 = .ok (.aload_n 0, 1) := by decide +kernel
theorem dX12_duplicate_40 : decode cX12_duplicate 40 = .ok (.getfield 139, 3) := by decide +kernel
theorem dX12_duplicate_43 : decode cX12_duplicate 43 = .ok (.invokevirtual 314, 3) := by decide +kernel
theorem dX12_duplicate_46 : decode cX12_duplicate 46 = .ok (.aload_n 0, 1) := by decide +kernel
theorem dX12_duplicate_47 : decode cX12_duplicate 47 = .ok (.dup, 1) := by decide +kernel
theorem dX12_duplicate_48 : decode cX12_duplicate 48 = .ok (.getfield 139, 3) := by decide +kernel
theorem dX12_duplicate_51 : decode cX12_duplicate 51 = .ok (.iconst 1, 1) := by decide +kernel
theorem dX12_duplicate_52 : decode cX12_duplicate 52 = .ok (.iadd, 1) := by decide +kernel
theorem dX12_duplicate_53 : decode cX12_duplicate 53 = .ok (.putfield 139, 3) := by decide +kernel
theorem dX12_duplicate_56 : decode cX12_duplicate 56 = .ok (.iconst 1, 1) := by decide +kernel
theorem dX12_duplicate_57 : decode cX12_duplicate 57 = .ok (.ireturn, 1) := by decide +kernel
set_option maxRecDepth 20000 in
theorem ggX12_exchange_X12_isMessage : GoodIn wsX12_exchange wsX12_isMessage := goodIn_r _ [8, 9, 10, 11, 7, 12, 17, 18, 19, 20, 21, 22, 23, 24, 25, 26, 27, 28, 29, 30, 31, 32, 33, 34, 35, 36, 37, 38, 39, 40, 41, 42, 43, 44, 45, 46, 47, 48, 49, 50, 51, 52, 53, 54, 55, 56, 57, 58, 59, 60, 61, 62, 63, 64, 65, 66, 67, 68, 69, 70] rfl (by decide +kernel)
set_option maxRecDepth 20000 in
theorem gX12_exchange_X12_isMessage : GoodIn wsX12_exchange (wsV RX12 311 RX12 yX12_isMessage wsX12_isMessage) := goodIn_app (goodIn_of _ (by decide +kernel)) ggX12_exchange_X12_isMessage
set_option maxRecDepth 20000 in
theorem ggX12_exchange_X12_throwsIf : GoodIn wsX12_exchange wsX12_throwsIf := goodIn_r _ [16, 1, 17, 18, 19, 20, 21, 22, 23, 24, 25, 26, 27, 28, 29, 30, 31, 32, 33, 34, 35, 36, 37, 38, 39, 40, 41, 42, 43, 44, 45, 46, 47, 48, 49, 50, 51, 52, 53, 54, 55, 56, 57, 58, 59, 60, 61, 62, 63, 64, 65, 66, 67, 68, 69, 70] rfl (by decide +kernel)
set_option maxRecDepth 20000 in
theorem gX12_exchange_X12_throwsIf : GoodIn wsX12_exchange (wsV RX12 185 RX12 yX12_throwsIf wsX12_throwsIf) := goodIn_app (goodIn_of _ (by decide +kernel)) ggX12_exchange_X12_throwsIf
theorem dX12_exchange_0 : decode cX12_exchange 0 = .ok (.aload_n 0, 1) := by decide +kernel
theorem dX12_exchange_1 : decode cX12_exchange 1 = .ok (.iconst 0, 1) := by decide +kernel
theorem dX12_exchange_2 : decode cX12_exchange 2 = .ok (.putfield 1, 3) := by decide +kernel
theorem dX12_exchange_5 : decode cX12_exchange 5 = .ok (.aload_n 0, 1) := by decide +kernel
theorem dX12_exchange_6 : decode cX12_exchange 6 = .ok (.aload_n 0, 1) := by decide +kernel
theorem dX12_exchange_7 : decode cX12_exchange 7 = .ok (.iload_n 1, 1) := by decide +kernel
theorem dX12_exchange_8 : decode cX12_exchange 8 = .ok (.invokevirtual 311, 3) := by decide +kernel
theorem dX12_exchange_11 : decode cX12_exchange 11 = .ok (.ifCond .eq 11, 3) := by decide +kernel
theorem dX12_exchange_14 : decode cX12_exchange 14 = .ok (.aload_n 0, 1) := by decide +kernel
theorem dX12_exchange_15 : decode cX12_exchange 15 = .ok (.iload_n 2, 1) := by decide +kernel
theorem dX12_exchange_16 : decode cX12_exchange 16 = .ok (.invokevirtual 311, 3) := by decide +kernel
theorem dX12_exchange_19 : decode cX12_exchange 19 = .ok (.ifCond .ne 7, 3) := by decide +kernel
theorem dX12_exchange_22 : decode cX12_exchange 22 = .ok (.iconst 1, 1) := by decide +kernel
theorem dX12_exchange_23 : decode cX12_exchange 23 = .ok (.goto 4, 3) := by decide +kernel
theorem dX12_exchange_26 : decode cX12_exchange 26 = .ok (.iconst 0, 1) := by decide +kernel
theorem dX12_exchange_27 : decode cX12_exchange 27 = .ok (.iconst 1, 1) := by decide +kernel
theorem dX12_exchange_28 : decode cX12_exchange 28 = .ok (.invokevirtual 185, 3) := by decide +kernel
theorem dX12_exchange_31 : decode cX12_exchange 31 = .ok (.ifCond .ne 8, 3) := by decide +kernel
theorem dX12_exchange_34 : decode cX12_exchange 34 = .ok (.iload_n 1, 1) := by decide +kernel
theorem dX12_exchange_35 : decode cX12_exchange 35 = .ok (.iload_n 2, 1) := by decide +kernel
theorem dX12_exchange_36 : decode cX12_exchange 36 = .ok (.if_icmp .ne 5, 3) := by decide +kernel
theorem dX12_exchange_39 : decode cX12_exchange 39 = .ok (.iconst 0, 1) := by decide +kernel
theorem dX12_exchange_40 : decode cX12_exchange 40 = .ok (.ireturn, 1) := by decide +kernel
theorem dX12_exchange_41 : decode cX12_exchange 41 = .ok (.iconst 0, 1) := by decide +kernel
theorem dX12_exchange_42 : decode cX12_exchange 42 = .ok (.istore_n 3, 1) := by decide +kernel
theorem dX12_exchange_43 : decode cX12_exchange 43 = .ok (.iload_n 3, 1) := by decide +kernel
theorem dX12_exchange_44 : decode cX12_exchange 44 = .ok (.sipush 600, 3) := by decide +kernel
theorem dX12_exchange_47 : decode cX12_exchange 47 = .ok (.if_icmp .ge 61, 3) := by decide +kernel
theorem dX12_exchange_50 : decode cX12_exchange 50 = .ok (.aload_n 0, 1) := by decide +kernel
theorem dX12_exchange_51 : decode cX12_exchange 51 = .ok (.getfield 39, 3) := by decide +kernel
theorem dX12_exchange_54 : decode cX12_exchange 54 = .ok (.sipush 600, 3) := by decide +kernel
theorem dX12_exchange_57 : decode cX12_exchange 57 = .ok (.iload_n 1, 1) := by decide +kernel
theorem dX12_exchange_58 : decode cX12_exchange 58 = .ok (.imul, 1) := by decide +kernel
theorem dX12_exchange_59 : decode cX12_exchange 59 = .ok (.iload_n 3, 1) := by decide +kernel
theorem dX12_exchange_60 : decode cX12_exchange 60 = .ok (.iadd, 1) := by decide +kernel
theorem dX12_exchange_61 : decode cX12_exchange 61 = .ok (.iaload, 1) := by decide +kernel
theorem dX12_exchange_62 : decode cX12_exchange 62 = .ok (.istore 4, 2) := by decide +kernel
theorem dX12_exchange_64 : decode cX12_exchange 64 = .ok (.aload_n 0, 1) := by decide +kernel
theorem dX12_exchange_65 : decode cX12_exchange 65 = .ok (.getfield 39, 3) := by decide +kernel
theorem dX12_exchange_68 : decode cX12_exchange 68 = .ok (.sipush 600, 3) := by decide +kernel
theorem dX12_exchange_71 : decode cX12_exchange 71 = .ok (.iload_n 1, 1) := by decide +kernel
theorem dX12_exchange_72 : decode cX12_exchange 72 = .ok (.imul, 1) := by decide +kernel
theorem dX12_exchange_73 : decode cX12_exchange 73 = .ok (.iload_n 3, 1) := by decide +kernel
theorem dX12_exchange_74 : decode cX12_exchange 74 = .ok (.iadd, 1) := by decide +kernel
theorem dX12_exchange_75 : decode cX12_exchange 75 = .ok (.aload_n 0, 1) := by decide +kernel
theorem dX12_exchange_76 : decode cX12_exchange 76 = .ok (.getfield 39, 3) := by decide +kernel
theorem dX12_exchange_79 : decode cX12_exchange 79 = .ok (.sipush 600, 3) := by decide +kernel
theorem dX12_exchange_82 : decode cX12_exchange 82 = .ok (.iload_n 2, 1) := by decide +kernel
theorem dX12_exchange_83 : decode cX12_exchange 83 = .ok (.imul, 1) := by decide +kernel
theorem dX12_exchange_84 : decode cX12_exchange 84 = .ok (.iload_n 3, 1) := by decide +kernel
theorem dX12_exchange_85 : decode cX12_exchange 85 = .ok (.iadd, 1) := by decide +kernel
theorem dX12_exchange_86 : decode cX12_exchange 86 = .ok (.iaload, 1) := by decide +kernel
theorem dX12_exchange_87 : decode cX12_exchange 87 = .ok (.iastore, 1) := by decide +kernel
theorem dX12_exchange_88 : decode cX12_exchange 88 = .ok (.aload_n 0, 1) := by decide +kernel
theorem dX12_exchange_89 : decode cX12_exchange 89 = .ok (.getfield 39, 3) := by decide +kernel
theorem dX12_exchange_92 : decode cX12_exchange 92 = .ok (.sipush 600, 3) := by decide +kernel
theorem dX12_exchange_95 : decode cX12_exchange 95 = .ok (.iload_n 2, 1) := by decide +kernel
theorem dX12_exchange_96 : decode cX12_exchange 96 = .ok (.imul, 1) := by decide +kernel
theorem dX12_exchange_97 : decode cX12_exchange 97 = .ok (.iload_n 3, 1) := by decide +kernel
theorem dX12_exchange_98 : decode cX12_exchange 98 = .ok (.iadd, 1) := by decide +kernel
theorem dX12_exchange_99 : decode cX12_exchange 99 = .ok (.iload 4, 2) := by decide +kernel
theorem dX12_exchange_101 : decode cX12_exchange 101 = .ok (.iastore, 1) := by decide +kernel
theorem dX12_exchange_102 : decode cX12_exchange 102 = .ok (.iinc 3 1, 3) := by decide +kernel
theorem dX12_exchange_105 : decode cX12_exchange 105 = .ok (.goto (-62), 3) := by decide +kernel
theorem dX12_exchange_108 : decode cX12_exchange 108 = .ok (.aload_n 0, 1) := by decide +kernel
theorem dX12_exchange_109 : decode cX12_exchange 109 = .ok (.getfield 42, 3) := by decide +kernel
theorem dX12_exchange_112 : decode cX12_exchange 112 = .ok (.iload_n 1, 1) := by decide +kernel
theorem dX12_exchange_113 : decode cX12_exchange 113 = .ok (.iaload, 1) := by decide +kernel
theorem dX12_exchange_114 : decode cX12_exchange 114 = .ok (.istore_n 3, 1) := by decide +kernel
theorem dX12_exchange_115 : decode cX12_exchange 115 = .ok (.aload_n 0, 1) := by decide +kernel
theorem dX12_exchange_116 : decode cX12_exchange 116 = .ok (.getfield 42, 3) := by decide +kernel
theorem dX12_exchange_119 : decode cX12_exchange 119 = .ok (.iload_n 1, 1) := by decide +kernel
theorem dX12_exchange_120 : decode cX12_exchange 120 = .ok (.aload_n 0, 1) := by decide +kernel
theorem dX12_exchange_121 : decode cX12_exchange 121 = .ok (.getfield 42, 3) := by decide +kernel
theorem dX12_exchange_124 : decode cX12_exchange 124 = .ok (.iload_n 2, 1) := by decide +kernel
theorem dX12_exchange_125 : decode cX12_exchange 125 = .ok (.iaload, 1) := by decide +kernel
theorem dX12_exchange_126 : decode cX12_exchange 126 = .ok (.iastore, 1) := by decide +kernel
theorem dX12_exchange_127 : decode cX12_exchange 127 = .ok (.aload_n 0, 1) := by decide +kernel
theorem dX12_exchange_128 : decode cX12_exchange 128 = .ok (.getfield 42, 3) := by decide +kernel
theorem dX12_exchange_131 : decode cX12_exchange 131 = .ok (.iload_n 2, 1) := by decide +kernel
theorem dX12_exchange_132 : decode cX12_exchange 132 = .ok (.iload_n 3, 1) := by decide +kernel
theorem dX12_exchange_133 : decode cX12_exchange 133 = .ok (.iastore, 1) := by decide +kernel
theorem dX12_exchange_134 : decode cX12_exchange 134 = .ok (.iconst 1, 1) := by decide +kernel
theorem dX12_exchange_135 : decode cX12_exchange 135 = .ok (.ireturn, 1) := by decide +kernel
set_option maxRecDepth 20000 in
theorem ggX12_restartCollector_X12_startCollector : GoodIn wsX12_restartCollector wsX12_startCollector := goodIn_ca (goodIn_r _ [7, 2, 8, 9, 10, 11, 12, 13, 14, 15, 16, 17, 18, 19, 20, 21, 22, 23, 24, 25, 26, 27, 28, 29, 30, 31, 32, 33, 34, 35, 36, 37, 38, 39, 40, 41, 42, 43, 44, 45, 46, 47, 48, 49, 50, 51, 52, 53, 54, 55, 56, 57, 58, 59, 60, 61, 62, 63, 64] rfl (by decide +kernel)) (goodIn_sub (fun _ h => List.mem_cons_of_mem _ (List.mem_append_right _ h)) (by decide +kernel))
set_option maxRecDepth 20000 in
theorem gX12_restartCollector_X12_startCollector : GoodIn wsX12_restartCollector (wsV RX12 154 RX12 yX12_startCollector wsX12_startCollector) := goodIn_app (goodIn_of _ (by decide +kernel)) ggX12_restartCollector_X12_startCollector
theorem dX12_restartCollector_0 : decode cX12_restartCollector 0 = .ok (.aload_n 0, 1) := by decide +kernel
theorem dX12_restartCollector_1 : decode cX12_restartCollector 1 = .ok (.iconst 0, 1) := by decide +kernel
theorem dX12_restartCollector_2 : decode cX12_restartCollector 2 = .ok (.putfield 1, 3) := by decide +kernel
theorem dX12_restartCollector_5 : decode cX12_restartCollector 5 = .ok (.iconst 0, 1) := by decide +kernel
theorem dX12_restartCollector_6 : decode cX12_restartCollector 6 = .ok (.istore_n 1, 1) := by decide +kernel
theorem dX12_restartCollector_7 : decode cX12_restartCollector 7 = .ok (.iconst 0, 1) := by decide +kernel
theorem dX12_restartCollector_8 : decode cX12_restartCollector 8 = .ok (.istore_n 2, 1) := by decide +kernel
theorem dX12_restartCollector_9 : decode cX12_restartCollector 9 = .ok (.iload_n 2, 1) := by decide +kernel
theorem dX12_restartCollector_10 : decode cX12_restartCollector 10 = .ok (.iconst 4, 1) := by decide +kernel
theorem dX12_restartCollector_11 : decode cX12_restartCollector 11 = .ok (.if_icmp .ge 26, 3) := by decide +kernel
theorem dX12_restartCollector_14 : decode cX12_restartCollector 14 = .ok (.iload_n 1, 1) := by decide +kernel
theorem dX12_restartCollector_15 : decode cX12_restartCollector 15 = .ok (.aload_n 0, 1) := by decide +kernel
theorem dX12_restartCollector_16 : decode cX12_restartCollector 16 = .ok (.getfield 48, 3) := by decide +kernel
theorem dX12_restartCollector_19 : decode cX12_restartCollector 19 = .ok (.iload_n 2, 1) := by decide +kernel
theorem dX12_restartCollector_20 : decode cX12_restartCollector 20 = .ok (.iaload, 1) := by decide +kernel
theorem dX12_restartCollector_21 : decode cX12_restartCollector 21 = .ok (.ifCond .le 7, 3) := by decide +kernel
theorem dX12_restartCollector_24 : decode cX12_restartCollector 24 = .ok (.iconst 1, 1) := by decide +kernel
theorem dX12_restartCollector_25 : decode cX12_restartCollector 25 = .ok (.goto 4, 3) := by decide +kernel
theorem dX12_restartCollector_28 : decode cX12_restartCollector 28 = .ok (.iconst 0, 1) := by decide +kernel
theorem dX12_restartCollector_29 : decode cX12_restartCollector 29 = .ok (.iadd, 1) := by decide +kernel
theorem dX12_restartCollector_30 : decode cX12_restartCollector 30 = .ok (.istore_n 1, 1) := by decide +kernel
theorem dX12_restartCollector_31 : decode cX12_restartCollector 31 = .ok (.iinc 2 1, 3) := by decide +kernel
theorem dX12_restartCollector_34 : decode cX12_restartCollector 34 = .ok (.goto (-25), 3) := by decide +kernel
theorem dX12_restartCollector_37 : decode cX12_restartCollector 37 = .ok (.aload_n 0, 1) := by decide +kernel
theorem dX12_restartCollector_38 : decode cX12_restartCollector 38 = .ok (.invokevirtual 154, 3) := by decide +kernel
theorem dX12_restartCollector_41 : decode cX12_restartCollector 41 = .ok (.iload_n 1, 1) := by decide +kernel
theorem dX12_restartCollector_42 : decode cX12_restartCollector 42 = .ok (.ireturn, 1) := by decide +kernel
theorem dX12_isKnown_0 : decode cX12_isKnown 0 = .ok (.aload_n 0, 1) := by decide +kernel
theorem dX12_isKnown_1 : decode cX12_isKnown 1 = .ok (.getfield 48, 3) := by decide +kernel
theorem dX12_isKnown_4 : decode cX12_isKnown 4 = .ok (.iload_n 1, 1) := by decide +kernel
theorem dX12_isKnown_5 : decode cX12_isKnown 5 = .ok (.iaload, 1) := by decide +kernel
theorem dX12_isKnown_6 : decode cX12_isKnown 6 = .ok (.ifCond .le 28, 3) := by decide +kernel
theorem dX12_isKnown_9 : decode cX12_isKnown 9 = .ok (.aload_n 0, 1) := by decide +kernel
theorem dX12_isKnown_10 : decode cX12_isKnown 10 = .ok (.getfield 101, 3) := by decide +kernel
theorem dX12_isKnown_13 : decode cX12_isKnown 13 = .ok (.aload_n 0, 1) := by decide +kernel
theorem dX12_isKnown_14 : decode cX12_isKnown 14 = .ok (.getfield 54, 3) := by decide +kernel
theorem dX12_isKnown_17 : decode cX12_isKnown 17 = .ok (.iload_n 1, 1) := by decide +kernel
theorem dX12_isKnown_18 : decode cX12_isKnown 18 = .ok (.iaload, 1) := by decide +kernel
theorem dX12_isKnown_19 : decode cX12_isKnown 19 = .ok (.isub, 1) := by decide +kernel
theorem dX12_isKnown_20 : decode cX12_isKnown 20 = .ok (.aload_n 0, 1) := by decide +kernel
theorem dX12_isKnown_21 : decode cX12_isKnown 21 = .ok (.getfield 17, 3) := by decide +kernel
theorem dX12_isKnown_24 : decode cX12_isKnown 24 = .ok (.bipush 6, 2) := by decide +kernel
theorem dX12_isKnown_26 : decode cX12_isKnown 26 = .ok (.iaload, 1) := by decide +kernel
theorem dX12_isKnown_27 : decode cX12_isKnown 27 = .ok (.if_icmp .gt 7, 3) := by decide +kernel
theorem dX12_isKnown_30 : decode cX12_isKnown 30 = .ok (.iconst 1, 1) := by decide +kernel
theorem dX12_isKnown_31 : decode cX12_isKnown 31 = .ok (.goto 4, 3) := by decide +kernel
theorem dX12_isKnown_34 : decode cX12_isKnown 34 = .ok (.iconst 0, 1) := by decide +kernel
theorem dX12_isKnown_35 : decode cX12_isKnown 35 = .ok (.ireturn, 1) := by decide +kernel
set_option maxRecDepth 20000 in
theorem ggX12_knownTemplates_X12_isKnown : GoodIn wsX12_knownTemplates wsX12_isKnown := goodIn_ca (goodIn_r _ [6, 7, 8, 9, 10, 11, 12, 13, 14, 15, 16, 17, 18, 19, 20, 21, 22, 23, 24, 25, 26, 27, 28, 29, 30, 31, 32, 33, 34, 35, 36, 37, 38, 39, 40, 41, 42, 43, 44, 45, 46, 47, 48, 49, 50, 51, 52, 53, 54, 55, 56, 57, 58, 59, 60, 61, 62, 63, 64] rfl (by decide +kernel)) (goodIn_sub (fun _ h => List.mem_cons_of_mem _ (List.mem_append_right _ h)) (by decide +kernel))
set_option maxRecDepth 20000 in
theorem gX12_knownTemplates_X12_isKnown : GoodIn wsX12_knownTemplates (wsV RX12 334 RX12 yX12_isKnown wsX12_isKnown) := goodIn_app (goodIn_of _ (by decide +kernel)) ggX12_knownTemplates_X12_isKnown
theorem dX12_knownTemplates_0 : decode cX12_knownTemplates 0 = .ok (.aload_n 0, 1) := by decide +kernel
theorem dX12_knownTemplates_1 : decode cX12_knownTemplates 1 = .ok (.iconst 0, 1) := by decide +kernel
theorem dX12_knownTemplates_2 : decode cX12_knownTemplates 2 = .ok (.putfield 1, 3) := by decide +kernel
theorem dX12_knownTemplates_5 : decode cX12_knownTemplates 5 = .ok (.iconst 0, 1) := by decide +kernel
theorem dX12_knownTemplates_6 : decode cX12_knownTemplates 6 = .ok (.istore_n 1, 1) := by decide +kernel
theorem dX12_knownTemplates_7 : decode cX12_knownTemplates 7 = .ok (.iconst 0, 1) := by decide +kernel
theorem dX12_knownTemplates_8 : decode cX12_knownTemplates 8 = .ok (.istore_n 2, 1) := by decide +kernel
theorem dX12_knownTemplates_9 : decode cX12_knownTemplates 9 = .ok (.iload_n 2, 1) := by decide +kernel
theorem dX12_knownTemplates_10 : decode cX12_knownTemplates 10 = .ok (.iconst 4, 1) := by decide +kernel
theorem dX12_knownTemplates_11 : decode cX12_knownTemplates 11 = .ok (.if_icmp .ge 27, 3) := by decide +kernel
theorem dX12_knownTemplates_14 : decode cX12_knownTemplates 14 = .ok (.iload_n 1, 1) := by decide +kernel
theorem dX12_knownTemplates_15 : decode cX12_knownTemplates 15 = .ok (.aload_n 0, 1) := by decide +kernel
theorem dX12_knownTemplates_16 : decode cX12_knownTemplates 16 = .ok (.iload_n 2, 1) := by decide +kernel
theorem dX12_knownTemplates_17 : decode cX12_knownTemplates 17 = .ok (.invokevirtual 334, 3) := by decide +kernel
theorem dX12_knownTemplates_20 : decode cX12_knownTemplates 20 = .ok (.ifCond .eq 9, 3) := by decide +kernel
theorem dX12_knownTemplates_23 : decode cX12_knownTemplates 23 = .ok (.iconst 1, 1) := by decide +kernel
theorem dX12_knownTemplates_24 : decode cX12_knownTemplates 24 = .ok (.iload_n 2, 1) := by decide +kernel
theorem dX12_knownTemplates_25 : decode cX12_knownTemplates 25 = .ok (.ishl, 1) := by decide +kernel
theorem dX12_knownTemplates_26 : decode cX12_knownTemplates 26 = .ok (.goto 4, 3) := by decide +kernel
theorem dX12_knownTemplates_29 : decode cX12_knownTemplates 29 = .ok (.iconst 0, 1) := by decide +kernel
theorem dX12_knownTemplates_30 : decode cX12_knownTemplates 30 = .ok (.ior, 1) := by decide +kernel
theorem dX12_knownTemplates_31 : decode cX12_knownTemplates 31 = .ok (.istore_n 1, 1) := by decide +kernel
theorem dX12_knownTemplates_32 : decode cX12_knownTemplates 32 = .ok (.iinc 2 1, 3) := by decide +kernel
theorem dX12_knownTemplates_35 : decode cX12_knownTemplates 35 = .ok (.goto (-26), 3) := by decide +kernel
theorem dX12_knownTemplates_38 : decode cX12_knownTemplates 38 = .ok (.iload_n 1, 1) := by decide +kernel
theorem dX12_knownTemplates_39 : decode cX12_knownTemplates 39 = .ok (.ireturn, 1) := by decide +kernel
set_option maxRecDepth 20000 in
theorem ggX12_templateAge_X12_inRange : GoodIn wsX12_templateAge wsX12_inRange := goodIn_r _ [9] rfl (by decide +kernel)
set_option maxRecDepth 20000 in
theorem gX12_templateAge_X12_inRange : GoodIn wsX12_templateAge (va_wsS RX12 169 yX12_inRange wsX12_inRange) := goodIn_app (goodIn_of _ (by decide +kernel)) ggX12_templateAge_X12_inRange
set_option maxRecDepth 20000 in
theorem ggX12_templateAge_X12_throwsIf : GoodIn wsX12_templateAge wsX12_throwsIf := goodIn_r _ [13, 1, 14, 15, 16, 17, 18, 19, 20, 21, 22, 23, 24, 25, 26, 27, 28, 29, 30, 31, 32, 33, 34, 35, 36, 37, 38, 39, 40, 41, 42, 43, 44, 45, 46, 47, 48, 49, 50, 51, 52, 53, 54, 55, 56, 57, 58, 59, 60, 61, 62, 63, 64, 65, 66, 67] rfl (by decide +kernel)
set_option maxRecDepth 20000 in
theorem gX12_templateAge_X12_throwsIf : GoodIn wsX12_templateAge (wsV RX12 185 RX12 yX12_throwsIf wsX12_throwsIf) := goodIn_app (goodIn_of _ (by decide +kernel)) ggX12_templateAge_X12_throwsIf
theorem dX12_templateAge_0 : decode cX12_templateAge 0 = .ok (.aload_n 0, 1) := by decide +kernel
theorem dX12_templateAge_1 : decode cX12_templateAge 1 = .ok (.iconst 0, 1) := by decide +kernel
theorem dX12_templateAge_2 : decode cX12_templateAge 2 = .ok (.putfield 1, 3) := by decide +kernel
theorem dX12_templateAge_5 : decode cX12_templateAge 5 = .ok (.aload_n 0, 1) := by decide +kernel
theorem dX12_templateAge_6 : decode cX12_templateAge 6 = .ok (.iload_n 1, 1) := by decide +kernel
theorem dX12_templateAge_7 : decode cX12_templateAge 7 = .ok (.i2l, 1) := by decide +kernel
theorem dX12_templateAge_8 : decode cX12_templateAge 8 = .ok (.lconst 0, 1) := by decide +kernel
theorem dX12_templateAge_9 : decode cX12_templateAge 9 = .ok (.ldc2_w 337, 3) := by decide +kernel
theorem dX12_templateAge_12 : decode cX12_templateAge 12 = .ok (.invokestatic 169, 3) := by decide +kernel
theorem dX12_templateAge_15 : decode cX12_templateAge 15 = .ok (.ifCond .ne 7, 3) := by decide +kernel
theorem dX12_templateAge_18 : decode cX12_templateAge 18 = .ok (.iconst 1, 1) := by decide +kernel
theorem dX12_templateAge_19 : decode cX12_templateAge 19 = .ok (.goto 4, 3) := by decide +kernel
theorem dX12_templateAge_22 : decode cX12_templateAge 22 = .ok (.iconst 0, 1) := by decide +kernel
theorem dX12_templateAge_23 : decode cX12_templateAge 23 = .ok (.iconst 1, 1) := by decide +kernel
theorem dX12_templateAge_24 : decode cX12_templateAge 24 = .ok (.invokevirtual 185, 3) := by decide +kernel
theorem dX12_templateAge_27 : decode cX12_templateAge 27 = .ok (.ifCond .eq 5, 3) := by decide +kernel
theorem dX12_templateAge_30 : decode cX12_templateAge 30 = .ok (.iconst 0, 1) := by decide +kernel
theorem dX12_templateAge_31 : decode cX12_templateAge 31 = .ok (.ireturn, 1) := by decide +kernel
theorem dX12_templateAge_32 : decode cX12_templateAge 32 = .ok (.aload_n 0, 1) := by decide +kernel
theorem dX12_templateAge_33 : decode cX12_templateAge 33 = .ok (.getfield 48, 3) := by decide +kernel
theorem dX12_templateAge_36 : decode cX12_templateAge 36 = .ok (.iload_n 1, 1) := by decide +kernel
theorem dX12_templateAge_37 : decode cX12_templateAge 37 = .ok (.iaload, 1) := by decide +kernel
theorem dX12_templateAge_38 : decode cX12_templateAge 38 = .ok (.ifCond .le 17, 3) := by decide +kernel
theorem dX12_templateAge_41 : decode cX12_templateAge 41 = .ok (.aload_n 0, 1) := by decide +kernel
theorem dX12_templateAge_42 : decode cX12_templateAge 42 = .ok (.getfield 101, 3) := by decide +kernel
theorem dX12_templateAge_45 : decode cX12_templateAge 45 = .ok (.aload_n 0, 1) := by decide +kernel
theorem dX12_templateAge_46 : decode cX12_templateAge 46 = .ok (.getfield 54, 3) := by decide +kernel
theorem dX12_templateAge_49 : decode cX12_templateAge 49 = .ok (.iload_n 1, 1) := by decide +kernel
theorem dX12_templateAge_50 : decode cX12_templateAge 50 = .ok (.iaload, 1) := by decide +kernel
theorem dX12_templateAge_51 : decode cX12_templateAge 51 = .ok (.isub, 1) := by decide +kernel
theorem dX12_templateAge_52 : decode cX12_templateAge 52 = .ok (.goto 4, 3) := by decide +kernel
theorem dX12_templateAge_55 : decode cX12_templateAge 55 = .ok (.iconst (-1), 1) := by decide +kernel
theorem dX12_templateAge_56 : decode cX12_templateAge 56 = .ok (.ireturn, 1) := by decide +kernel
set_option maxRecDepth 20000 in
theorem ggX12_counter_X12_inRange : GoodIn wsX12_counter wsX12_inRange := goodIn_r _ [7] rfl (by decide +kernel)
set_option maxRecDepth 20000 in
theorem gX12_counter_X12_inRange : GoodIn wsX12_counter (va_wsS RX12 169 yX12_inRange wsX12_inRange) := goodIn_app (goodIn_of _ (by decide +kernel)) ggX12_counter_X12_inRange
set_option maxRecDepth 20000 in
theorem ggX12_counter_X12_throwsIf : GoodIn wsX12_counter wsX12_throwsIf := goodIn_r _ [11, 1, 12, 13, 14, 15, 16, 17, 18, 19, 20, 21, 22, 23, 24, 25, 26, 27, 28, 29, 30, 31, 32, 33, 34, 35, 36, 37, 38, 39, 40, 41, 42, 43, 44, 45, 46, 47, 48, 49, 50, 51, 52, 53, 54, 55, 56, 57, 58, 59, 60, 61, 62, 63, 64, 65] rfl (by decide +kernel)
set_option maxRecDepth 20000 in
theorem gX12_counter_X12_throwsIf : GoodIn wsX12_counter (wsV RX12 185 RX12 yX12_throwsIf wsX12_throwsIf) := goodIn_app (goodIn_of _ (by decide +kernel)) ggX12_counter_X12_throwsIf
theorem dX12_counter_0 : decode cX12_counter 0 = .ok (.aload_n 0, 1) := by decide +kernel
theorem dX12_counter_1 : decode cX12_counter 1 = .ok (.iconst 0, 1) := by decide +kernel
theorem dX12_counter_2 : decode cX12_counter 2 = .ok (.putfield 1, 3) := by decide +kernel
theorem dX12_counter_5 : decode cX12_counter 5 = .ok (.aload_n 0, 1) := by decide +kernel
theorem dX12_counter_6 : decode cX12_counter 6 = .ok (.iload_n 1, 1) := by decide +kernel
theorem dX12_counter_7 : decode cX12_counter 7 = .ok (.i2l, 1) := by decide +kernel
theorem dX12_counter_8 : decode cX12_counter 8 = .ok (.lconst 0, 1) := by decide +kernel
theorem dX12_counter_9 : decode cX12_counter 9 = .ok (.ldc2_w 204, 3) := by decide +kernel
theorem dX12_counter_12 : decode cX12_counter 12 = .ok (.invokestatic 169, 3) := by decide +kernel
theorem dX12_counter_15 : decode cX12_counter 15 = .ok (.ifCond .ne 7, 3) := by decide +kernel
theorem dX12_counter_18 : decode cX12_counter 18 = .ok (.iconst 1, 1) := by decide +kernel
theorem dX12_counter_19 : decode cX12_counter 19 = .ok (.goto 4, 3) := by decide +kernel
theorem dX12_counter_22 : decode cX12_counter 22 = .ok (.iconst 0, 1) := by decide +kernel
theorem dX12_counter_23 : decode cX12_counter 23 = .ok (.iconst 1, 1) := by decide +kernel
theorem dX12_counter_24 : decode cX12_counter 24 = .ok (.invokevirtual 185, 3) := by decide +kernel
theorem dX12_counter_27 : decode cX12_counter 27 = .ok (.ifCond .eq 7, 3) := by decide +kernel
theorem dX12_counter_30 : decode cX12_counter 30 = .ok (.lconst 0, 1) := by decide +kernel
theorem dX12_counter_31 : decode cX12_counter 31 = .ok (.goto 9, 3) := by decide +kernel
theorem dX12_counter_34 : decode cX12_counter 34 = .ok (.aload_n 0, 1) := by decide +kernel
theorem dX12_counter_35 : decode cX12_counter 35 = .ok (.getfield 45, 3) := by decide +kernel
theorem dX12_counter_38 : decode cX12_counter 38 = .ok (.iload_n 1, 1) := by decide +kernel
theorem dX12_counter_39 : decode cX12_counter 39 = .ok (.laload, 1) := by decide +kernel
theorem dX12_counter_40 : decode cX12_counter 40 = .ok (.lreturn, 1) := by decide +kernel

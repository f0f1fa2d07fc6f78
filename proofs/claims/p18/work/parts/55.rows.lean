set_option maxRecDepth 20000 in
theorem ggX12_sendPending_X12_put : GoodIn wsX12_sendPending wsX12_put := goodIn_ca (goodIn_r _ [13, 14, 2, 15, 80, 81, 82, 83, 84, 85, 86, 87, 88, 89, 90, 91, 92, 93, 94, 95, 96, 97, 98, 99, 100, 101, 102, 103, 104, 105, 106, 107, 108, 109, 110, 111, 112, 113, 114, 115, 116, 117, 118, 119, 120, 121, 122, 123, 124, 125, 126, 127, 128, 129, 130, 131, 132, 133] (by decide +kernel) (by decide +kernel)) (goodIn_sub (fun _ h => List.mem_cons_of_mem _ (List.mem_append_right _ h)) (by decide +kernel))
set_option maxRecDepth 20000 in
theorem gX12_sendPending_X12_put : GoodIn wsX12_sendPending (wsV RX12 283 RX12 yX12_put wsX12_put) := goodIn_app (goodIn_of _ (by decide +kernel)) ggX12_sendPending_X12_put
set_option maxRecDepth 20000 in
theorem ggX12_sendPending_X12_putTemplates : GoodIn wsX12_sendPending wsX12_putTemplates := goodIn_ca (goodIn_r _ [19, 2, 20, 21, 22, 23, 24, 12, 25, 26, 6, 4, 27, 28, 29, 30, 31, 32, 33, 34, 35, 36, 37, 38, 39, 40, 41, 42, 43, 9, 10, 11, 13, 14, 15, 44, 45, 46, 47, 48, 49, 50, 51, 52, 53, 54, 55, 56, 57, 58, 59, 60, 61, 80, 81, 82, 83, 84, 85, 86, 87, 88, 89, 90, 91, 92, 93, 94, 95, 96, 97, 98, 99, 100, 101, 102, 103, 104, 105, 106, 107, 108, 109, 110, 111, 112, 113, 114, 115, 116, 117, 118, 119, 120, 121, 122, 123, 124, 125, 126, 127, 128, 129, 130, 131, 132, 133] (by decide +kernel) (by decide +kernel)) (goodIn_sub (fun _ h => List.mem_cons_of_mem _ (List.mem_append_right _ h)) (by decide +kernel))
set_option maxRecDepth 20000 in
theorem gX12_sendPending_X12_putTemplates : GoodIn wsX12_sendPending (wsV RX12 300 RX12 yX12_putTemplates wsX12_putTemplates) := goodIn_app (goodIn_of _ (by decide +kernel)) ggX12_sendPending_X12_putTemplates
set_option maxRecDepth 20000 in
theorem ggX12_sendPending_X12_putRecords : GoodIn wsX12_sendPending wsX12_putRecords := goodIn_ca (goodIn_r _ [65, 1, 66, 2, 20, 67, 68, 69, 70, 12, 71, 28, 29, 30, 31, 32, 33, 34, 35, 36, 37, 38, 39, 40, 41, 42, 43, 55, 56, 57, 9, 10, 11, 13, 14, 15, 58, 59, 60, 61, 80, 81, 82, 83, 84, 85, 86, 87, 88, 89, 90, 91, 92, 93, 94, 95, 96, 97, 98, 99, 100, 101, 102, 103, 104, 105, 106, 107, 108, 109, 110, 111, 112, 113, 114, 115, 116, 117, 118, 119, 120, 121, 122, 123, 124, 125, 126, 127, 128, 129, 130, 131, 132, 133] (by decide +kernel) (by decide +kernel)) (goodIn_sub (fun _ h => List.mem_cons_of_mem _ (List.mem_append_right _ h)) (by decide +kernel))
set_option maxRecDepth 20000 in
theorem gX12_sendPending_X12_putRecords : GoodIn wsX12_sendPending (wsV RX12 303 RX12 yX12_putRecords wsX12_putRecords) := goodIn_app (goodIn_of _ (by decide +kernel)) ggX12_sendPending_X12_putRecords
set_option maxRecDepth 20000 in
theorem ggX12_sendPending_X12_putAt : GoodIn wsX12_sendPending wsX12_putAt := goodIn_ca (goodIn_r _ [61, 14, 80, 81, 82, 83, 84, 85, 86, 87, 88, 89, 90, 91, 92, 93, 94, 95, 96, 97, 98, 99, 100, 101, 102, 103, 104, 105, 106, 107, 108, 109, 110, 111, 112, 113, 114, 115, 116, 117, 118, 119, 120, 121, 122, 123, 124, 125, 126, 127, 128, 129, 130, 131, 132, 133] (by decide +kernel) (by decide +kernel)) (goodIn_sub (fun _ h => List.mem_cons_of_mem _ (List.mem_append_right _ h)) (by decide +kernel))
set_option maxRecDepth 20000 in
theorem gX12_sendPending_X12_putAt : GoodIn wsX12_sendPending (wsV RX12 295 RX12 yX12_putAt wsX12_putAt) := goodIn_app (goodIn_of _ (by decide +kernel)) ggX12_sendPending_X12_putAt
set_option maxRecDepth 20000 in
theorem ggX12_sendPending_X12_enqueue : GoodIn wsX12_sendPending wsX12_enqueue := goodIn_ca (goodIn_r _ [75, 76, 77, 2, 78, 14, 79, 80, 81, 82, 83, 84, 85, 86, 87, 88, 89, 90, 91, 92, 93, 94, 95, 96, 97, 98, 99, 100, 101, 102, 103, 104, 105, 106, 107, 108, 109, 110, 111, 112, 113, 114, 115, 116, 117, 118, 119, 120, 121, 122, 123, 124, 125, 126, 127, 128, 129, 130, 131, 132, 133] (by decide +kernel) (by decide +kernel)) (goodIn_sub (fun _ h => List.mem_cons_of_mem _ (List.mem_append_right _ h)) (by decide +kernel))
set_option maxRecDepth 20000 in
theorem gX12_sendPending_X12_enqueue : GoodIn wsX12_sendPending (wsV RX12 308 RX12 yX12_enqueue wsX12_enqueue) := goodIn_app (goodIn_of _ (by decide +kernel)) ggX12_sendPending_X12_enqueue
theorem dX12_sendPending_0 : decode cX12_sendPending 0 = .ok (.iconst 0, 1) := by decide +kernel
theorem dX12_sendPending_1 : decode cX12_sendPending 1 = .ok (.istore_n 1, 1) := by decide +kernel
theorem dX12_sendPending_2 : decode cX12_sendPending 2 = .ok (.iload_n 1, 1) := by decide +kernel
theorem dX12_sendPending_3 : decode cX12_sendPending 3 = .ok (.aload_n 0, 1) := by decide +kernel
theorem dX12_sendPending_4 : decode cX12_sendPending 4 = .ok (.getfield 136, 3) := by decide +kernel
theorem dX12_sendPending_7 : decode cX12_sendPending 7 = .ok (.if_icmp .ge 125, 3) := by decide +kernel
theorem dX12_sendPending_10 : decode cX12_sendPending 10 = .ok (.aload_n 0, 1) := by decide +kernel
theorem dX12_sendPending_11 : decode cX12_sendPending 11 = .ok (.iconst 0, 1) := by decide +kernel
theorem dX12_sendPending_12 : decode cX12_sendPending 12 = .ok (.putfield 280, 3) := by decide +kernel
theorem dX12_sendPending_15 : decode cX12_sendPending 15 = .ok (.aload_n 0, 1) := by decide +kernel
theorem dX12_sendPending_16 : decode cX12_sendPending 16 = .ok (.ldc2_w 298, 3) := by decide +kernel
theorem dX12_sendPending_19 : decode cX12_sendPending 19 = .ok (.iconst 2, 1) := by decide +kernel
theorem dX12_sendPending_20 : decode cX12_sendPending 20 = .ok (.invokevirtual 283, 3) := by decide +kernel
theorem dX12_sendPending_23 : decode cX12_sendPending 23 = .ok (.aload_n 0, 1) := by decide +kernel
theorem dX12_sendPending_24 : decode cX12_sendPending 24 = .ok (.lconst 0, 1) := by decide +kernel
theorem dX12_sendPending_25 : decode cX12_sendPending 25 = .ok (.iconst 2, 1) := by decide +kernel
theorem dX12_sendPending_26 : decode cX12_sendPending 26 = .ok (.invokevirtual 283, 3) := by decide +kernel
theorem dX12_sendPending_29 : decode cX12_sendPending 29 = .ok (.aload_n 0, 1) := by decide +kernel
theorem dX12_sendPending_30 : decode cX12_sendPending 30 = .ok (.aload_n 0, 1) := by decide +kernel
theorem dX12_sendPending_31 : decode cX12_sendPending 31 = .ok (.getfield 101, 3) := by decide +kernel
theorem dX12_sendPending_34 : decode cX12_sendPending 34 = .ok (.i2l, 1) := by decide +kernel
theorem dX12_sendPending_35 : decode cX12_sendPending 35 = .ok (.iconst 4, 1) := by decide +kernel
theorem dX12_sendPending_36 : decode cX12_sendPending 36 = .ok (.invokevirtual 283, 3) := by decide +kernel
theorem dX12_sendPending_39 : decode cX12_sendPending 39 = .ok (.aload_n 0, 1) := by decide +kernel
theorem dX12_sendPending_40 : decode cX12_sendPending 40 = .ok (.aload_n 0, 1) := by decide +kernel
theorem dX12_sendPending_41 : decode cX12_sendPending 41 = .ok (.getfield 201, 3) := by decide +kernel
theorem dX12_sendPending_44 : decode cX12_sendPending 44 = .ok (.iconst 4, 1) := by decide +kernel
theorem dX12_sendPending_45 : decode cX12_sendPending 45 = .ok (.invokevirtual 283, 3) := by decide +kernel
theorem dX12_sendPending_48 : decode cX12_sendPending 48 = .ok (.aload_n 0, 1) := by decide +kernel
theorem dX12_sendPending_49 : decode cX12_sendPending 49 = .ok (.lconst 0, 1) := by decide +kernel
theorem dX12_sendPending_50 : decode cX12_sendPending 50 = .ok (.iconst 4, 1) := by decide +kernel
theorem dX12_sendPending_51 : decode cX12_sendPending 51 = .ok (.invokevirtual 283, 3) := by decide +kernel
theorem dX12_sendPending_54 : decode cX12_sendPending 54 = .ok (.aload_n 0, 1) := by decide +kernel
theorem dX12_sendPending_55 : decode cX12_sendPending 55 = .ok (.invokevirtual 300, 3) := by decide +kernel
theorem dX12_sendPending_58 : decode cX12_sendPending 58 = .ok (.aload_n 0, 1) := by decide +kernel
theorem dX12_sendPending_59 : decode cX12_sendPending 59 = .ok (.iload_n 1, 1) := by decide +kernel
theorem dX12_sendPending_60 : decode cX12_sendPending 60 = .ok (.invokevirtual 303, 3) := by decide +kernel
theorem dX12_sendPending_63 : decode cX12_sendPending 63 = .ok (.istore_n 2, 1) := by decide +kernel
theorem dX12_sendPending_64 : decode cX12_sendPending 64 = .ok (.aload_n 0, 1) := by decide +kernel
theorem dX12_sendPending_65 : decode cX12_sendPending 65 = .ok (.iconst 2, 1) := by decide +kernel
theorem dX12_sendPending_66 : decode cX12_sendPending 66 = .ok (.aload_n 0, 1) := by decide +kernel
theorem dX12_sendPending_67 : decode cX12_sendPending 67 = .ok (.getfield 280, 3) := by decide +kernel
theorem dX12_sendPending_70 : decode cX12_sendPending 70 = .ok (.invokevirtual 295, 3) := by decide +kernel
theorem dX12_sendPending_73 : decode cX12_sendPending 73 = .ok (.aload_n 0, 1) := by decide +kernel
theorem dX12_sendPending_74 : decode cX12_sendPending 74 = .ok (.bipush 14, 2) := by decide +kernel
theorem dX12_sendPending_76 : decode cX12_sendPending 76 = .ok (.iload_n 2, 1) := by decide +kernel
theorem dX12_sendPending_77 : decode cX12_sendPending 77 = .ok (.iload_n 1, 1) := by decide +kernel
theorem dX12_sendPending_78 : decode cX12_sendPending 78 = .ok (.isub, 1) := by decide +kernel
theorem dX12_sendPending_79 : decode cX12_sendPending 79 = .ok (.invokevirtual 295, 3) := by decide +kernel
theorem dX12_sendPending_82 : decode cX12_sendPending 82 = .ok (.aload_n 0, 1) := by decide +kernel
theorem dX12_sendPending_83 : decode cX12_sendPending 83 = .ok (.dup, 1) := by decide +kernel
theorem dX12_sendPending_84 : decode cX12_sendPending 84 = .ok (.getfield 142, 3) := by decide +kernel
theorem dX12_sendPending_87 : decode cX12_sendPending 87 = .ok (.iconst 1, 1) := by decide +kernel
theorem dX12_sendPending_88 : decode cX12_sendPending 88 = .ok (.iadd, 1) := by decide +kernel
theorem dX12_sendPending_89 : decode cX12_sendPending 89 = .ok (.putfield 142, 3) := by decide +kernel
theorem dX12_sendPending_92 : decode cX12_sendPending 92 = .ok (.aload_n 0, 1) := by decide +kernel
theorem dX12_sendPending_93 : decode cX12_sendPending 93 = .ok (.dup, 1) := by decide +kernel
theorem dX12_sendPending_94 : decode cX12_sendPending 94 = .ok (.getfield 124, 3) := by decide +kernel
theorem dX12_sendPending_97 : decode cX12_sendPending 97 = .ok (.iload_n 2, 1) := by decide +kernel
theorem dX12_sendPending_98 : decode cX12_sendPending 98 = .ok (.iload_n 1, 1) := by decide +kernel
theorem dX12_sendPending_99 : decode cX12_sendPending 99 = .ok (.isub, 1) := by decide +kernel
theorem dX12_sendPending_100 : decode cX12_sendPending 100 = .ok (.i2l, 1) := by decide +kernel
theorem dX12_sendPending_101 : decode cX12_sendPending 101 = .ok (.ladd, 1) := by decide +kernel
theorem dX12_sendPending_102 : decode cX12_sendPending 102 = .ok (.putfield 124, 3) := by decide +kernel
theorem dX12_sendPending_105 : decode cX12_sendPending 105 = .ok (.aload_n 0, 1) := by decide +kernel
theorem dX12_sendPending_106 : decode cX12_sendPending 106 = .ok (.aload_n 0, 1) := by decide +kernel
theorem dX12_sendPending_107 : decode cX12_sendPending 107 = .ok (.getfield 201, 3) := by decide +kernel
theorem dX12_sendPending_110 : decode cX12_sendPending 110 = .ok (.iload_n 2, 1) := by decide +kernel
theorem dX12_sendPending_111 : decode cX12_sendPending 111 = .ok (.i2l, 1) := by decide +kernel
theorem dX12_sendPending_112 : decode cX12_sendPending 112 = .ok (.ladd, 1) := by decide +kernel
theorem dX12_sendPending_113 : decode cX12_sendPending 113 = .ok (.iload_n 1, 1) := by decide +kernel
theorem dX12_sendPending_114 : decode cX12_sendPending 114 = .ok (.i2l, 1) := by decide +kernel
theorem dX12_sendPending_115 : decode cX12_sendPending 115 = .ok (.lsub, 1) := by decide +kernel
theorem dX12_sendPending_116 : decode cX12_sendPending 116 = .ok (.ldc2_w 306, 3) := by decide +kernel
theorem dX12_sendPending_119 : decode cX12_sendPending 119 = .ok (.land, 1) := by decide +kernel
theorem dX12_sendPending_120 : decode cX12_sendPending 120 = .ok (.putfield 201, 3) := by decide +kernel
theorem dX12_sendPending_123 : decode cX12_sendPending 123 = .ok (.iload_n 2, 1) := by decide +kernel
theorem dX12_sendPending_124 : decode cX12_sendPending 124 = .ok (.istore_n 1, 1) := by decide +kernel
theorem dX12_sendPending_125 : decode cX12_sendPending 125 = .ok (.aload_n 0, 1) := by decide +kernel
theorem dX12_sendPending_126 : decode cX12_sendPending 126 = .ok (.invokevirtual 308, 3) := by decide +kernel
theorem dX12_sendPending_129 : decode cX12_sendPending 129 = .ok (.goto (-127), 3) := by decide +kernel
theorem dX12_sendPending_132 : decode cX12_sendPending 132 = .ok (.aload_n 0, 1) := by decide +kernel
theorem dX12_sendPending_133 : decode cX12_sendPending 133 = .ok (.iconst 0, 1) := by decide +kernel
theorem dX12_sendPending_134 : decode cX12_sendPending 134 = .ok (.putfield 136, 3) := by decide +kernel
theorem dX12_sendPending_137 : decode cX12_sendPending 137 = .ok (.return_, 1) := by decide +kernel
theorem dX12_enqueue_0 : decode cX12_enqueue 0 = .ok (.aload_n 0, 1) := by decide +kernel
theorem dX12_enqueue_1 : decode cX12_enqueue 1 = .ok (.getfield 139, 3) := by decide +kernel
theorem dX12_enqueue_4 : decode cX12_enqueue 4 = .ok (.bipush 12, 2) := by decide +kernel
theorem dX12_enqueue_6 : decode cX12_enqueue 6 = .ok (.if_icmp .ne 14, 3) := by decide +kernel
theorem dX12_enqueue_9 : decode cX12_enqueue 9 = .ok (.aload_n 0, 1) := by decide +kernel
theorem dX12_enqueue_10 : decode cX12_enqueue 10 = .ok (.dup, 1) := by decide +kernel
theorem dX12_enqueue_11 : decode cX12_enqueue 11 = .ok (.getfield 130, 3) := by decide +kernel
theorem dX12_enqueue_14 : decode cX12_enqueue 14 = .ok (.iconst 1, 1) := by decide +kernel
theorem dX12_enqueue_15 : decode cX12_enqueue 15 = .ok (.iadd, 1) := by decide +kernel
theorem dX12_enqueue_16 : decode cX12_enqueue 16 = .ok (.putfield 130, 3) := by decide +kernel
theorem dX12_enqueue_19 : decode cX12_enqueue 19 = .ok (.return_, 1) := by decide +kernel
theorem dX12_enqueue_20 : decode cX12_enqueue 20 = .ok (.iconst 0, 1) := by decide +kernel
theorem dX12_enqueue_21 : decode cX12_enqueue 21 = .ok (.istore_n 1, 1) := by decide +kernel
theorem dX12_enqueue_22 : decode cX12_enqueue 22 = .ok (.iload_n 1, 1) := by decide +kernel
theorem dX12_enqueue_23 : decode cX12_enqueue 23 = .ok (.aload_n 0, 1) := by decide +kernel
theorem dX12_enqueue_24 : decode cX12_enqueue 24 = .ok (.getfield 280, 3) := by decide +kernel
theorem dX12_enqueue_27 : decode cX12_enqueue 27 = .ok (.if_icmp .ge 30, 3) := by decide +kernel
theorem dX12_enqueue_30 : decode cX12_enqueue 30 = .ok (.aload_n 0, 1) := by decide +kernel
theorem dX12_enqueue_31 : decode cX12_enqueue 31 = .ok (.getfield 39, 3) := by decide +kernel
theorem dX12_enqueue_34 : decode cX12_enqueue 34 = .ok (.sipush 600, 3) := by decide +kernel
theorem dX12_enqueue_37 : decode cX12_enqueue 37 = .ok (.aload_n 0, 1) := by decide +kernel
theorem dX12_enqueue_38 : decode cX12_enqueue 38 = .ok (.getfield 139, 3) := by decide +kernel
theorem dX12_enqueue_41 : decode cX12_enqueue 41 = .ok (.imul, 1) := by decide +kernel
theorem dX12_enqueue_42 : decode cX12_enqueue 42 = .ok (.iload_n 1, 1) := by decide +kernel
theorem dX12_enqueue_43 : decode cX12_enqueue 43 = .ok (.iadd, 1) := by decide +kernel
theorem dX12_enqueue_44 : decode cX12_enqueue 44 = .ok (.aload_n 0, 1) := by decide +kernel
theorem dX12_enqueue_45 : decode cX12_enqueue 45 = .ok (.getfield 36, 3) := by decide +kernel
theorem dX12_enqueue_48 : decode cX12_enqueue 48 = .ok (.iload_n 1, 1) := by decide +kernel
theorem dX12_enqueue_49 : decode cX12_enqueue 49 = .ok (.iaload, 1) := by decide +kernel
theorem dX12_enqueue_50 : decode cX12_enqueue 50 = .ok (.iastore, 1) := by decide +kernel
theorem dX12_enqueue_51 : decode cX12_enqueue 51 = .ok (.iinc 1 1, 3) := by decide +kernel
theorem dX12_enqueue_54 : decode cX12_enqueue 54 = .ok (.goto (-32), 3) := by decide +kernel
theorem dX12_enqueue_57 : decode cX12_enqueue 57 = .ok (.aload_n 0, 1) := by decide +kernel
theorem dX12_enqueue_58 : decode cX12_enqueue 58 = .ok (.getfield 42, 3) := by decide +kernel
theorem dX12_enqueue_61 : decode cX12_enqueue 61 = .ok (.aload_n 0, 1) := by decide +kernel
theorem dX12_enqueue_62 : decode cX12_enqueue 62 = .ok (.getfield 139, 3) := by decide +kernel
theorem dX12_enqueue_65 : decode cX12_enqueue 65 = .ok (.aload_n 0, 1) := by decide +kernel
theorem dX12_enqueue_66 : decode cX12_enqueue 66 = .ok (.getfield 280, 3) := by decide +kernel
theorem dX12_enqueue_69 : decode cX12_enqueue 69 = .ok (.iastore, 1) := by decide +kernel
theorem dX12_enqueue_70 : decode cX12_enqueue 70 = .ok (.aload_n 0, 1) := by decide +kernel
theorem dX12_enqueue_71 : decode cX12_enqueue 71 = .ok (.dup, 1) := by decide +kernel
theorem dX12_enqueue_72 : decode cX12_enqueue 72 = .ok (.getfield 139, 3) := by decide +kernel
theorem dX12_enqueue_75 : decode cX12_enqueue 75 = .ok (.iconst 1, 1) := by decide +kernel
theorem dX12_enqueue_76 : decode cX12_enqueue 76 = .ok (.iadd, 1) := by decide +kernel
theorem dX12_enqueue_77 : decode cX12_enqueue 77 = .ok (.putfield 139, 3) := by decide +kernel
theorem dX12_enqueue_80 : decode cX12_enqueue 80 = .ok (.return_, 1) := by decide +kernel

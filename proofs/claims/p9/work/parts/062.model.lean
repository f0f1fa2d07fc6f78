set_option maxRecDepth 20000 in
theorem ggX12_sendPending_X12_put : GoodIn wsX12_sendPending wsX12_put := goodIn_ca ((goodIn_ca (goodIn_r _ [13, 14, 2, 15] rfl (by decide +kernel)) (goodIn_sub (fun _ h => List.mem_cons_of_mem _ (List.mem_append_left _ (List.mem_append_right _ h))) gw_wsX120))) (goodIn_sub (fun _ h => List.mem_cons_of_mem _ (List.mem_append_right _ h)) (all_fg _))
set_option maxRecDepth 20000 in
theorem gX12_sendPending_X12_put : GoodIn wsX12_sendPending (wsV RX12 283 RX12 yX12_put wsX12_put) := goodIn_app (goodIn_m (mem_cA (List.mem_cons_of_mem _ (List.mem_append_left _ (List.mem_append_left _ (List.mem_append_left _ (List.mem_of_getElem? (i := 8) rfl))))) (mem_cA (List.mem_cons_of_mem _ (List.mem_append_left _ (List.mem_append_left _ (List.mem_append_left _ (List.mem_of_getElem? (i := 9) rfl))))) (mem_cA (List.mem_cons_of_mem _ (List.mem_append_left _ (List.mem_append_left _ (List.mem_append_left _ (List.mem_of_getElem? (i := 10) rfl))))) (mem_cA (List.mem_cons_of_mem _ (List.mem_append_left _ (List.mem_append_left _ (List.mem_append_left _ (List.mem_of_getElem? (i := 11) rfl))))) mem_cZ)))) (by decide +kernel)) ggX12_sendPending_X12_put
set_option maxRecDepth 20000 in
theorem ggX12_sendPending_X12_putTemplates : GoodIn wsX12_sendPending wsX12_putTemplates := goodIn_ca ((goodIn_ca (goodIn_r _ [19, 2, 20, 21, 22, 23, 24, 12, 25, 26, 6, 4, 27, 28, 29, 30, 31, 32, 33, 34, 35, 36, 37, 38, 39, 40, 41, 42, 43, 9, 10, 11, 13, 14, 15, 44, 45, 46, 47, 48, 49, 50, 51, 52, 53, 54, 55, 56, 57, 58, 59, 60, 61] rfl (by decide +kernel)) (goodIn_sub (fun _ h => List.mem_cons_of_mem _ (List.mem_append_left _ (List.mem_append_right _ h))) gw_wsX120))) (goodIn_sub (fun _ h => List.mem_cons_of_mem _ (List.mem_append_right _ h)) (all_fg _))
set_option maxRecDepth 20000 in
theorem gX12_sendPending_X12_putTemplates : GoodIn wsX12_sendPending (wsV RX12 300 RX12 yX12_putTemplates wsX12_putTemplates) := goodIn_app (goodIn_m (mem_cA (List.mem_cons_of_mem _ (List.mem_append_left _ (List.mem_append_left _ (List.mem_append_left _ (List.mem_of_getElem? (i := 15) rfl))))) (mem_cA (List.mem_cons_of_mem _ (List.mem_append_left _ (List.mem_append_left _ (List.mem_append_left _ (List.mem_of_getElem? (i := 16) rfl))))) (mem_cA (List.mem_cons_of_mem _ (List.mem_append_left _ (List.mem_append_left _ (List.mem_append_left _ (List.mem_of_getElem? (i := 17) rfl))))) (mem_cA (List.mem_cons_of_mem _ (List.mem_append_left _ (List.mem_append_left _ (List.mem_append_left _ (List.mem_of_getElem? (i := 11) rfl))))) mem_cZ)))) (by decide +kernel)) ggX12_sendPending_X12_putTemplates
set_option maxRecDepth 20000 in
theorem ggX12_sendPending_X12_putRecords : GoodIn wsX12_sendPending wsX12_putRecords := goodIn_ca ((goodIn_ca (goodIn_r _ [65, 1, 66, 2, 20, 67, 68, 69, 70, 12, 71, 28, 29, 30, 31, 32, 33, 34, 35, 36, 37, 38, 39, 40, 41, 42, 43, 55, 56, 57, 9, 10, 11, 13, 14, 15, 58, 59, 60, 61] rfl (by decide +kernel)) (goodIn_sub (fun _ h => List.mem_cons_of_mem _ (List.mem_append_left _ (List.mem_append_right _ h))) gw_wsX120))) (goodIn_sub (fun _ h => List.mem_cons_of_mem _ (List.mem_append_right _ h)) (all_fg _))
set_option maxRecDepth 20000 in
theorem gX12_sendPending_X12_putRecords : GoodIn wsX12_sendPending (wsV RX12 303 RX12 yX12_putRecords wsX12_putRecords) := goodIn_app (goodIn_m (mem_cA (List.mem_cons_of_mem _ (List.mem_append_left _ (List.mem_append_left _ (List.mem_append_right _ (List.mem_append_right _ (List.mem_append_left _ (List.mem_of_getElem? (i := 13) rfl))))))) (mem_cA (List.mem_cons_of_mem _ (List.mem_append_left _ (List.mem_append_left _ (List.mem_append_right _ (List.mem_append_right _ (List.mem_append_left _ (List.mem_of_getElem? (i := 14) rfl))))))) (mem_cA (List.mem_cons_of_mem _ (List.mem_append_left _ (List.mem_append_left _ (List.mem_append_right _ (List.mem_append_right _ (List.mem_append_left _ (List.mem_of_getElem? (i := 15) rfl))))))) (mem_cA (List.mem_cons_of_mem _ (List.mem_append_left _ (List.mem_append_left _ (List.mem_append_left _ (List.mem_of_getElem? (i := 11) rfl))))) mem_cZ)))) (by decide +kernel)) ggX12_sendPending_X12_putRecords
set_option maxRecDepth 20000 in
theorem ggX12_sendPending_X12_putAt : GoodIn wsX12_sendPending wsX12_putAt := goodIn_ca ((goodIn_ca (goodIn_r _ [61, 14] rfl (by decide +kernel)) (goodIn_sub (fun _ h => List.mem_cons_of_mem _ (List.mem_append_left _ (List.mem_append_right _ h))) gw_wsX120))) (goodIn_sub (fun _ h => List.mem_cons_of_mem _ (List.mem_append_right _ h)) (all_fg _))
set_option maxRecDepth 20000 in
theorem gX12_sendPending_X12_putAt : GoodIn wsX12_sendPending (wsV RX12 295 RX12 yX12_putAt wsX12_putAt) := goodIn_app (goodIn_m (mem_cA (List.mem_cons_of_mem _ (List.mem_append_left _ (List.mem_append_left _ (List.mem_append_right _ (List.mem_append_right _ (List.mem_append_left _ (List.mem_of_getElem? (i := 9) rfl))))))) (mem_cA (List.mem_cons_of_mem _ (List.mem_append_left _ (List.mem_append_left _ (List.mem_append_right _ (List.mem_append_right _ (List.mem_append_left _ (List.mem_of_getElem? (i := 10) rfl))))))) (mem_cA (List.mem_cons_of_mem _ (List.mem_append_left _ (List.mem_append_left _ (List.mem_append_right _ (List.mem_append_right _ (List.mem_append_left _ (List.mem_of_getElem? (i := 11) rfl))))))) (mem_cA (List.mem_cons_of_mem _ (List.mem_append_left _ (List.mem_append_left _ (List.mem_append_left _ (List.mem_of_getElem? (i := 11) rfl))))) mem_cZ)))) (by decide +kernel)) ggX12_sendPending_X12_putAt
set_option maxRecDepth 20000 in
theorem ggX12_sendPending_X12_enqueue : GoodIn wsX12_sendPending wsX12_enqueue := goodIn_ca ((goodIn_ca (goodIn_r _ [75, 76, 77, 2, 78, 14, 79] rfl (by decide +kernel)) (goodIn_sub (fun _ h => List.mem_cons_of_mem _ (List.mem_append_left _ (List.mem_append_right _ h))) gw_wsX120))) (goodIn_sub (fun _ h => List.mem_cons_of_mem _ (List.mem_append_right _ h)) (all_fg _))
set_option maxRecDepth 20000 in
theorem gX12_sendPending_X12_enqueue : GoodIn wsX12_sendPending (wsV RX12 308 RX12 yX12_enqueue wsX12_enqueue) := goodIn_app (goodIn_m (mem_cA (List.mem_cons_of_mem _ (List.mem_append_left _ (List.mem_append_left _ (List.mem_append_right _ (List.mem_append_right _ (List.mem_append_left _ (List.mem_of_getElem? (i := 23) rfl))))))) (mem_cA (List.mem_cons_of_mem _ (List.mem_append_left _ (List.mem_append_left _ (List.mem_append_right _ (List.mem_append_right _ (List.mem_append_right _ (List.mem_of_getElem? (i := 0) rfl))))))) (mem_cA (List.mem_cons_of_mem _ (List.mem_append_left _ (List.mem_append_left _ (List.mem_append_right _ (List.mem_append_right _ (List.mem_append_right _ (List.mem_of_getElem? (i := 1) rfl))))))) (mem_cA (List.mem_cons_of_mem _ (List.mem_append_left _ (List.mem_append_left _ (List.mem_append_left _ (List.mem_of_getElem? (i := 11) rfl))))) mem_cZ)))) (by decide +kernel)) ggX12_sendPending_X12_enqueue
theorem dX12_sendPending_0 : decode cX12_sendPending 0 = .ok (.iconst 0, 1) := by decide +kernel
theorem dX12_sendPending_1 : decode cX12_sendPending 1 = .ok (.istore_n 1, 1) := by decide +kernel
theorem dX12_sendPending_2 : decode cX12_sendPending 2 = .ok (.iload_n 1, 1) := by decide +kernel
theorem dX12_sendPending_3 : decode cX12_sendPending 3 = .ok (.aload_n 0, 1) := by decide +kernel
theorem dX12_sendPending_4 : decode cX12_sendPending 4 = .ok (.getfield 136, 3) := by decide +kernel
theorem dX12_sendPending_7 : decode cX12_sendPending 7 = .ok (.if_icmp .ge 125, 3) := by decide +kernel
theorem dX12_sendPending_10 : decode cX12_sendPending 10 = .ok (.aload_n 0, 1) := by decide +kernel
theorem dX12_sendPending_11 : decode cX12_sendPending 11 = .ok (.iconst 0, 1) := by decide +kernel
theorem dX12_sendPending_12 : decode cX12_sendPending 12 = .ok (.putfield 280, 3) := by decide +kernel
theorem dX12_sendPending_15 : decode cX12_sendPending 15 = .ok (.aload_n 0, 1) := by decide +kernel
theorem dX12_sendPending_16 : decode cX12_sendPending 16 = .ok (.ldc2_w 298, 3) := by decide +kernel
theorem dX12_sendPending_19 : decode cX12_sendPending 19 = .ok (.iconst 2, 1) := by decide +kernel
theorem dX12_sendPending_20 : decode cX12_sendPending 20 = .ok (.invokevirtual 283, 3) := by decide +kernel
theorem dX12_sendPending_23 : decode cX12_sendPending 23 = .ok (.aload_n 0, 1) := by decide +kernel
theorem dX12_sendPending_24 : decode cX12_sendPending 24 = .ok (.lconst 0, 1) := by decide +kernel
theorem dX12_sendPending_25 : decode cX12_sendPending 25 = .ok (.iconst 2, 1) := by decide +kernel
theorem dX12_sendPending_26 : decode cX12_sendPending 26 = .ok (.invokevirtual 283, 3) := by decide +kernel
theorem dX12_sendPending_29 : decode cX12_sendPending 29 = .ok (.aload_n 0, 1) := by decide +kernel
theorem dX12_sendPending_30 : decode cX12_sendPending 30 = .ok (.aload_n 0, 1) := by decide +kernel
theorem dX12_sendPending_31 : decode cX12_sendPending 31 = .ok (.getfield 101, 3) := by decide +kernel
theorem dX12_sendPending_34 : decode cX12_sendPending 34 = .ok (.i2l, 1) := by decide +kernel
theorem dX12_sendPending_35 : decode cX12_sendPending 35 = .ok (.iconst 4, 1) := by decide +kernel
theorem dX12_sendPending_36 : decode cX12_sendPending 36 = .ok (.invokevirtual 283, 3) := by decide +kernel
theorem dX12_sendPending_39 : decode cX12_sendPending 39 = .ok (.aload_n 0, 1) := by decide +kernel
theorem dX12_sendPending_40 : decode cX12_sendPending 40 = .ok (.aload_n 0, 1) := by decide +kernel
theorem dX12_sendPending_41 : decode cX12_sendPending 41 = .ok (.getfield 201, 3) := by decide +kernel
theorem dX12_sendPending_44 : decode cX12_sendPending 44 = .ok (.iconst 4, 1) := by decide +kernel
theorem dX12_sendPending_45 : decode cX12_sendPending 45 = .ok (.invokevirtual 283, 3) := by decide +kernel
theorem dX12_sendPending_48 : decode cX12_sendPending 48 = .ok (.aload_n 0, 1) := by decide +kernel
theorem dX12_sendPending_49 : decode cX12_sendPending 49 = .ok (.lconst 0, 1) := by decide +kernel
theorem dX12_sendPending_50 : decode cX12_sendPending 50 = .ok (.iconst 4, 1) := by decide +kernel
theorem dX12_sendPending_51 : decode cX12_sendPending 51 = .ok (.invokevirtual 283, 3) := by decide +kernel
theorem dX12_sendPending_54 : decode cX12_sendPending 54 = .ok (.aload_n 0, 1) := by decide +kernel
theorem dX12_sendPending_55 : decode cX12_sendPending 55 = .ok (.invokevirtual 300, 3) := by decide +kernel
theorem dX12_sendPending_58 : decode cX12_sendPending 58 = .ok (.aload_n 0, 1) := by decide +kernel
theorem dX12_sendPending_59 : decode cX12_sendPending 59 = .ok (.iload_n 1, 1) := by decide +kernel
theorem dX12_sendPending_60 : decode cX12_sendPending 60 = .ok (.invokevirtual 303, 3) := by decide +kernel
theorem dX12_sendPending_63 : decode cX12_sendPending 63 = .ok (.istore_n 2, 1) := by decide +kernel
theorem dX12_sendPending_64 : decode cX12_sendPending 64 = .ok (.aload_n 0, 1) := by decide +kernel
theorem dX12_sendPending_65 : decode cX12_sendPending 65 = .ok (.iconst 2, 1) := by decide +kernel
theorem dX12_sendPending_66 : decode cX12_sendPending 66 = .ok (.aload_n 0, 1) := by decide +kernel
theorem dX12_sendPending_67 : decode cX12_sendPending 67 = .ok (.getfield 280, 3) := by decide +kernel
theorem dX12_sendPending_70 : decode cX12_sendPending 70 = .ok (.invokevirtual 295, 3) := by decide +kernel
theorem dX12_sendPending_73 : decode cX12_sendPending 73 = .ok (.aload_n 0, 1) := by decide +kernel
theorem dX12_sendPending_74 : decode cX12_sendPending 74 = .ok (.bipush 14, 2) := by decide +kernel
theorem dX12_sendPending_76 : decode cX12_sendPending 76 = .ok (.iload_n 2, 1) := by decide +kernel
theorem dX12_sendPending_77 : decode cX12_sendPending 77 = .ok (.iload_n 1, 1) := by decide +kernel
theorem dX12_sendPending_78 : decode cX12_sendPending 78 = .ok (.isub, 1) := by decide +kernel
theorem dX12_sendPending_79 : decode cX12_sendPending 79 = .ok (.invokevirtual 295, 3) := by decide +kernel
theorem dX12_sendPending_82 : decode cX12_sendPending 82 = .ok (.aload_n 0, 1) := by decide +kernel
theorem dX12_sendPending_83 : decode cX12_sendPending 83 = .ok (.dup, 1) := by decide +kernel
theorem dX12_sendPending_84 : decode cX12_sendPending 84 = .ok (.getfield 142, 3) := by decide +kernel
theorem dX12_sendPending_87 : decode cX12_sendPending 87 = .ok (.iconst 1, 1) := by decide +kernel
theorem dX12_sendPending_88 : decode cX12_sendPending 88 = .ok (.iadd, 1) := by decide +kernel
theorem dX12_sendPending_89 : decode cX12_sendPending 89 = .ok (.putfield 142, 3) := by decide +kernel
theorem dX12_sendPending_92 : decode cX12_sendPending 92 = .ok (.aload_n 0, 1) := by decide +kernel
theorem dX12_sendPending_93 : decode cX12_sendPending 93 = .ok (.dup, 1) := by decide +kernel
theorem dX12_sendPending_94 : decode cX12_sendPending 94 = .ok (.getfield 124, 3) := by decide +kernel
theorem dX12_sendPending_97 : decode cX12_sendPending 97 = .ok (.iload_n 2, 1) := by decide +kernel
theorem dX12_sendPending_98 : decode cX12_sendPending 98 = .ok (.iload_n 1, 1) := by decide +kernel
theorem dX12_sendPending_99 : decode cX12_sendPending 99 = .ok (.isub, 1) := by decide +kernel
theorem dX12_sendPending_100 : decode cX12_sendPending 100 = .ok (.i2l, 1) := by decide +kernel
theorem dX12_sendPending_101 : decode cX12_sendPending 101 = .ok (.ladd, 1) := by decide +kernel
theorem dX12_sendPending_102 : decode cX12_sendPending 102 = .ok (.putfield 124, 3) := by decide +kernel
theorem dX12_sendPending_105 : decode cX12_sendPending 105 = .ok (.aload_n 0, 1) := by decide +kernel
theorem dX12_sendPending_106 : decode cX12_sendPending 106 = .ok (.aload_n 0, 1) := by decide +kernel
theorem dX12_sendPending_107 : decode cX12_sendPending 107 = .ok (.getfield 201, 3) := by decide +kernel
theorem dX12_sendPending_110 : decode cX12_sendPending 110 = .ok (.iload_n 2, 1) := by decide +kernel
theorem dX12_sendPending_111 : decode cX12_sendPending 111 = .ok (.i2l, 1) := by decide +kernel
theorem dX12_sendPending_112 : decode cX12_sendPending 112 = .ok (.ladd, 1) := by decide +kernel
theorem dX12_sendPending_113 : decode cX12_sendPending 113 = .ok (.iload_n 1, 1) := by decide +kernel
theorem dX12_sendPending_114 : decode cX12_sendPending 114 = .ok (.i2l, 1) := by decide +kernel
theorem dX12_sendPending_115 : decode cX12_sendPending 115 = .ok (.lsub, 1) := by decide +kernel
theorem dX12_sendPending_116 : decode cX12_sendPending 116 = .ok (.ldc2_w 306, 3) := by decide +kernel
theorem dX12_sendPending_119 : decode cX12_sendPending 119 = .ok (.land, 1) := by decide +kernel
theorem dX12_sendPending_120 : decode cX12_sendPending 120 = .ok (.putfield 201, 3) := by decide +kernel
theorem dX12_sendPending_123 : decode cX12_sendPending 123 = .ok (.iload_n 2, 1) := by decide +kernel
theorem dX12_sendPending_124 : decode cX12_sendPending 124 = .ok (.istore_n 1, 1) := by decide +kernel
theorem dX12_sendPending_125 : decode cX12_sendPending 125 = .ok (.aload_n 0, 1) := by decide +kernel
theorem dX12_sendPending_126 : decode cX12_sendPending 126 = .ok (.invokevirtual 308, 3) := by decide +kernel
theorem dX12_sendPending_129 : decode cX12_sendPending 129 = .ok (.goto (-127), 3) := by decide +kernel
theorem dX12_sendPending_132 : decode cX12_sendPending 132 = .ok (.aload_n 0, 1) := by decide +kernel
theorem dX12_sendPending_133 : decode cX12_sendPending 133 = .ok (.iconst 0, 1) := by decide +kernel
theorem dX12_sendPending_134 : decode cX12_sendPending 134 = .ok (.putfield 136, 3) := by decide +kernel
theorem dX12_sendPending_137 : decode cX12_sendPending 137 = .ok (.return_, 1) := by decide +kernel
theorem dX12_enqueue_0 : decode cX12_enqueue 0 = .ok (.aload_n 0, 1) := by decide +kernel
theorem dX12_enqueue_1 : decode cX12_enqueue 1 = .ok (.getfield 139, 3) := by decide +kernel
theorem dX12_enqueue_4 : decode cX12_enqueue 4 = .ok (.bipush 12, 2) := by decide +kernel
theorem dX12_enqueue_6 : decode cX12_enqueue 6 = .ok (.if_icmp .ne 14, 3) := by decide +kernel
theorem dX12_enqueue_9 : decode cX12_enqueue 9 = .ok (.aload_n 0, 1) := by decide +kernel
theorem dX12_enqueue_10 : decode cX12_enqueue 10 = .ok (.dup, 1) := by decide +kernel
theorem dX12_enqueue_11 : decode cX12_enqueue 11 = .ok (.getfield 130, 3) := by decide +kernel
theorem dX12_enqueue_14 : decode cX12_enqueue 14 = .ok (.iconst 1, 1) := by decide +kernel
theorem dX12_enqueue_15 : decode cX12_enqueue 15 = .ok (.iadd, 1) := by decide +kernel
theorem dX12_enqueue_16 : decode cX12_enqueue 16 = .ok (.putfield 130, 3) := by decide +kernel
theorem dX12_enqueue_19 : decode cX12_enqueue 19 = .ok (.return_, 1) := by decide +kernel
theorem dX12_enqueue_20 : decode cX12_enqueue 20 = .ok (.iconst 0, 1) := by decide +kernel
theorem dX12_enqueue_21 : decode cX12_enqueue 21 = .ok (.istore_n 1, 1) := by decide +kernel
theorem dX12_enqueue_22 : decode cX12_enqueue 22 = .ok (.iload_n 1, 1) := by decide +kernel
theorem dX12_enqueue_23 : decode cX12_enqueue 23 = .ok (.aload_n 0, 1) := by decide +kernel
theorem dX12_enqueue_24 : decode cX12_enqueue 24 = .ok (.getfield 280, 3) := by decide +kernel
theorem dX12_enqueue_27 : decode cX12_enqueue 27 = .ok (.if_icmp .ge 30, 3) := by decide +kernel
theorem dX12_enqueue_30 : decode cX12_enqueue 30 = .ok (.aload_n 0, 1) := by decide +kernel
theorem dX12_enqueue_31 : decode cX12_enqueue 31 = .ok (.getfield 39, 3) := by decide +kernel
theorem dX12_enqueue_34 : decode cX12_enqueue 34 = .ok (.sipush 600, 3) := by decide +kernel
theorem dX12_enqueue_37 : decode cX12_enqueue 37 = .ok (.aload_n 0, 1) := by decide +kernel
theorem dX12_enqueue_38 : decode cX12_enqueue 38 = .ok (.getfield 139, 3) := by decide +kernel
theorem dX12_enqueue_41 : decode cX12_enqueue 41 = .ok (.imul, 1) := by decide +kernel
theorem dX12_enqueue_42 : decode cX12_enqueue 42 = .ok (.iload_n 1, 1) := by decide +kernel
theorem dX12_enqueue_43 : decode cX12_enqueue 43 = .ok (.iadd, 1) := by decide +kernel
theorem dX12_enqueue_44 : decode cX12_enqueue 44 = .ok (.aload_n 0, 1) := by decide +kernel
theorem dX12_enqueue_45 : decode cX12_enqueue 45 = .ok (.getfield 36, 3) := by decide +kernel
theorem dX12_enqueue_48 : decode cX12_enqueue 48 = .ok (.iload_n 1, 1) := by decide +kernel
theorem dX12_enqueue_49 : decode cX12_enqueue 49 = .ok (.iaload, 1) := by decide +kernel
theorem dX12_enqueue_50 : decode cX12_enqueue 50 = .ok (.iastore, 1) := by decide +kernel
theorem dX12_enqueue_51 : decode cX12_enqueue 51 = .ok (.iinc 1 1, 3) := by decide +kernel
theorem dX12_enqueue_54 : decode cX12_enqueue 54 = .ok (.goto (-32), 3) := by decide +kernel
theorem dX12_enqueue_57 : decode cX12_enqueue 57 = .ok (.aload_n 0, 1) := by decide +kernel
theorem dX12_enqueue_58 : decode cX12_enqueue 58 = .ok (.getfield 42, 3) := by decide +kernel
theorem dX12_enqueue_61 : decode cX12_enqueue 61 = .ok (.aload_n 0, 1) := by decide +kernel
theorem dX12_enqueue_62 : decode cX12_enqueue 62 = .ok (.getfield 139, 3) := by decide +kernel
theorem dX12_enqueue_65 : decode cX12_enqueue 65 = .ok (.aload_n 0, 1) := by decide +kernel
theorem dX12_enqueue_66 : decode cX12_enqueue 66 = .ok (.getfield 280, 3) := by decide +kernel
theorem dX12_enqueue_69 : decode cX12_enqueue 69 = .ok (.iastore, 1) := by decide +kernel
theorem dX12_enqueue_70 : decode cX12_enqueue 70 = .ok (.aload_n 0, 1) := by decide +kernel
theorem dX12_enqueue_71 : decode cX12_enqueue 71 = .ok (.dup, 1) := by decide +kernel
theorem dX12_enqueue_72 : decode cX12_enqueue 72 = .ok (.getfield 139, 3) := by decide +kernel
theorem dX12_enqueue_75 : decode cX12_enqueue 75 = .ok (.iconst 1, 1) := by decide +kernel
theorem dX12_enqueue_76 : decode cX12_enqueue 76 = .ok (.iadd, 1) := by decide +kernel
theorem dX12_enqueue_77 : decode cX12_enqueue 77 = .ok (.putfield 139, 3) := by decide +kernel
theorem dX12_enqueue_80 : decode cX12_enqueue 80 = .ok (.return_, 1) := by decide +kernel
theorem hu_X12_enqueue_X12 : ∀ w ∈ u_ws RX12 TX12 54, w ∈ wsX12_enqueue := fun _ h => List.mem_cons_of_mem _ (List.mem_append_left _ (List.mem_append_right _ (h)))

theorem hv_X12_enqueue_139 : Cond.fieldLink RX12 139 "FlowExporterModel" (TX12 26).2.1 (TX12 26).2.2.1 ∈ wsX12_enqueue := List.mem_cons_of_mem _ (List.mem_append_left _ (List.mem_append_left _ (List.mem_of_getElem? (i := 0) rfl)))

theorem fq_947 {x : Nat} : ∀ j9 : Nat, x = x + j9 → (j9 = 9) → False := by
  intro j9 h1 h2
  omega

theorem hv_X12_enqueue_280 : Cond.fieldLink RX12 280 "FlowExporterModel" (TX12 23).2.1 (TX12 23).2.2.1 ∈ wsX12_enqueue := List.mem_cons_of_mem _ (List.mem_append_left _ (List.mem_append_left _ (List.mem_of_getElem? (i := 2) rfl)))

theorem hv_X12_enqueue_42 : Cond.fieldLink RX12 42 "FlowExporterModel" (TX12 25).2.1 (TX12 25).2.2.1 ∈ wsX12_enqueue := List.mem_cons_of_mem _ (List.mem_append_left _ (List.mem_append_left _ (List.mem_of_getElem? (i := 5) rfl)))

theorem fq_950 : ∀ j9 : Nat, (j9 = 9) → (j9 = 0 ∨ j9 = 9 ∨ j9 = 10) := by
  intro j9 h
  omega

theorem hv_X12_enqueue_39 : Cond.fieldLink RX12 39 "FlowExporterModel" (TX12 24).2.1 (TX12 24).2.2.1 ∈ wsX12_enqueue := List.mem_cons_of_mem _ (List.mem_append_left _ (List.mem_append_left _ (List.mem_of_getElem? (i := 3) rfl)))

theorem hv_X12_enqueue_36 : Cond.fieldLink RX12 36 "FlowExporterModel" (TX12 22).2.1 (TX12 22).2.2.1 ∈ wsX12_enqueue := List.mem_cons_of_mem _ (List.mem_append_left _ (List.mem_append_left _ (List.mem_of_getElem? (i := 4) rfl)))

theorem hv_X12_enqueue_130 : Cond.fieldLink RX12 130 "FlowExporterModel" (TX12 14).2.1 (TX12 14).2.2.1 ∈ wsX12_enqueue := List.mem_cons_of_mem _ (List.mem_append_left _ (List.mem_append_left _ (List.mem_of_getElem? (i := 1) rfl)))

set_option maxHeartbeats 4000000 in
set_option maxRecDepth 100000 in
theorem r_enqueue (G : EnvG) (l : Launch) (Φ : Hm) (sz x : Nat) (rd : (Nat → Int32) → Prop) (nw : (Nat → Int32) → Prop) (cr : (Nat → Int64) → Prop) (tp : (Nat → Int32) → Prop) (tt : (Nat → Int64) → Prop) (fl : Nat) (pe : Nat) (le : Nat) (nx : Nat) (il : Nat) (qu : Nat) (kn : Int32) (ec : Int32) (nu : Int32) (va : Int64) (st : Nat) (ep : Int32) (ti : Int32) (ad : Int32) (ob : Int64) (ra : Int32) (rt : Nat) (ex : Int32) (sa : Int64) (us : Int64) (tk : Nat) (th : Int32)  (hx : G.2.2.2 ≤ x) (hI : Im G x (rd, nw, cr, tp, tt, fl, pe, le, nx, il, qu, kn, ec, nu, va, st, ep, ti, ad, ob, ra, rt, ex, sa, us, tk, th) Φ) (hl : le ≤ 600) (hnw : ∀ f9 : Nat → Int32, nw f9 → NN f9) : Ct G l yX12_enqueue wsX12_enqueue ({ frames := 0, cells := 0, slots := 0, locals := 0 }) 0 0 [.ref x] Φ sz (fun v Φ1 sz1 => (v = none) ∧ sz1 = sz ∧ (∃ (qu1 : Nat), Im G x (rd, nw, cr, tp, tt, fl, pe, le, nx, il, qu1, kn, ec, nu, va, st, ep, ti, ad, ob, ra, rt, ex, sa, us, tk, th) Φ1) ∧ Fr x (fun j9 => j9 = 0 ∨ j9 = 9 ∨ j9 = 10) Φ Φ1) := by
  refine Ct.of (cc := cX12_enqueue) (maxL := 2) (ret := none) (by decide) rfl (Nat.le_of_ble_eq_true rfl) ?_
  intro p9 e9 s9 m9 w9 t9 k9 B
  show Z p9 l e9 _ s9 m9 _ w9 t9 k9 _ G 2 0 [(0, .ref x)] [] Φ sz 0 0
  refine z_aload_n B dX12_enqueue_0 rfl 0 rfl ?_
  obtain ⟨v_1, v_2, v_3, v_4, n_1, v_5, n_2, h_1, b_13, b_1, b_2, b_3, b_4, b_5, b_6, b_7, b_8, b_9, b_10, b_11, b_12⟩ := im0 hI
  replace b_1 : 1 ≤ rt := b_1
  replace b_2 : rt ≤ 1024 := b_2
  replace b_3 : fl ≤ 12 := b_3
  replace b_4 : pe ≤ 24 := b_4
  replace b_5 : le ≤ 700 := b_5
  replace b_6 : qu ≤ 12 := b_6
  replace b_7 : n_1 ≤ 8 := b_7
  replace b_8 : n_2 ≤ 24 := b_8
  replace b_9 : tk ≤ 24 := b_9
  replace b_10 : il ≤ 700 := b_10
  replace b_11 : nx ≤ 701 := b_11
  replace b_12 : st ≤ 701 := b_12
  have h_2 : Φ x = some (o_ 14 [.int th, .ref (x + 1), .ref (x + 2), .int ti, .int ra, .int (nI rt), .int ex, .int ad, .ref (x + 3), .ref (x + 4), .int v_1, .long v_2, .ref (x + 5), .int (nI fl), .int v_3, .long ob, .long sa, .long v_4, .long us, .ref (x + 6), .ref (x + 7), .int (nI pe), .ref (x + 8), .int (nI le), .ref (x + 9), .ref (x + 10), .int (nI qu), .ref (x + 11), .ref (x + 12), .ref (x + 13), .ref (x + 14), .ref (x + 15), .ref (x + 16), .int (nI n_1), .long v_5, .ref (x + 17), .ref (x + 18), .ref (x + 19), .ref (x + 20), .ref (x + 21), .ref (x + 22), .int (nI n_2), .ref (x + 23), .ref (x + 24), .int (nI tk), .ref (x + 25), .int (nI il), .int (nI nx), .int ec, .int ep, .int kn, .int (nI st), .int nu, .long va]) := h_1
  refine z_get (ref := "FlowExporterModel") (C := RX12) (T := TX12) (N := 54) (ci := 14) (v := .int (nI qu)) B hu_X12_enqueue_X12 rfl 26 (Nat.le_of_ble_eq_true rfl) hv_X12_enqueue_139 rfl h_2 rfl dX12_enqueue_1 ?_
  refine z_bipush (v := 12) B dX12_enqueue_4 rfl ?_
  refine z_icmp_ne (tgt := 20) B dX12_enqueue_6 rfl (fun c_1 => ?_) (fun c_1 => ?_)
  · have e_1 : ¬ (qu = 12) := fun h9 => c_1 ((nI_eq (a := qu) (b := 12) (by omega) (by omega)).mpr h9)
    refine z_iconst (v := 0) B dX12_enqueue_20 rfl ?_
    refine z_istore_n (lv' := [(1, .int 0), (0, .ref x)]) B dX12_enqueue_21 rfl (Nat.le_of_ble_eq_true rfl) rfl ?_
    refine z_lv [0, 1] rfl ?_
    refine z_loop (α := Nat) (fun (a9 : Nat) Φi => Im G x (rd, nw, cr, tp, tt, fl, pe, le, nx, il, qu, kn, ec, nu, va, st, ep, ti, ad, ob, ra, rt, ex, sa, us, tk, th) Φi ∧ Fr x (fun j9 => j9 = 9) Φ Φi ∧ (a9 ≤ 600) ∧ True) (fun a9 => [(1, .int (nI a9)), (0, .ref x)]) (fun a9 => 600 - a9) ?_ (0) ⟨hI, fun _ _ => rfl, (show 0 ≤ 600 by omega), trivial⟩
    rintro i_1 Φl1 ⟨hI1, hF1, b_14, -⟩ ih1
    replace hI1 : Im G x (rd, nw, cr, tp, tt, fl, pe, le, nx, il, qu, kn, ec, nu, va, st, ep, ti, ad, ob, ra, rt, ex, sa, us, tk, th) Φl1 := hI1
    replace b_14 : i_1 ≤ 600 := b_14
    show Z p9 l e9 _ s9 m9 _ w9 t9 k9 _ G 2 22 [(1, .int (nI i_1)), (0, .ref x)] [] Φl1 _ _ _
    refine z_iload_n B dX12_enqueue_22 rfl 0 rfl ?_
    refine z_aload_n B dX12_enqueue_23 rfl 1 rfl ?_
    have h_3 : Φl1 x = some (o_ 14 [.int th, .ref (x + 1), .ref (x + 2), .int ti, .int ra, .int (nI rt), .int ex, .int ad, .ref (x + 3), .ref (x + 4), .int v_1, .long v_2, .ref (x + 5), .int (nI fl), .int v_3, .long ob, .long sa, .long v_4, .long us, .ref (x + 6), .ref (x + 7), .int (nI pe), .ref (x + 8), .int (nI le), .ref (x + 9), .ref (x + 10), .int (nI qu), .ref (x + 11), .ref (x + 12), .ref (x + 13), .ref (x + 14), .ref (x + 15), .ref (x + 16), .int (nI n_1), .long v_5, .ref (x + 17), .ref (x + 18), .ref (x + 19), .ref (x + 20), .ref (x + 21), .ref (x + 22), .int (nI n_2), .ref (x + 23), .ref (x + 24), .int (nI tk), .ref (x + 25), .int (nI il), .int (nI nx), .int ec, .int ep, .int kn, .int (nI st), .int nu, .long va]) := ((hF1 x fq_947).trans h_2)
    refine z_get (ref := "FlowExporterModel") (C := RX12) (T := TX12) (N := 54) (ci := 14) (v := .int (nI le)) B hu_X12_enqueue_X12 rfl 23 (Nat.le_of_ble_eq_true rfl) hv_X12_enqueue_280 rfl h_3 rfl dX12_enqueue_24 ?_
    refine z_icmp_ge (tgt := 57) B dX12_enqueue_27 rfl (fun c_2 => ?_) (fun c_2 => ?_)
    · have e_2 : le ≤ i_1 := (nI_leI (a := le) (b := i_1) (by omega) (by omega)).mp c_2
      refine z_aload_n B dX12_enqueue_57 rfl 1 rfl ?_
      refine z_get (ref := "FlowExporterModel") (C := RX12) (T := TX12) (N := 54) (ci := 14) (v := .ref (x + 10)) B hu_X12_enqueue_X12 rfl 25 (Nat.le_of_ble_eq_true rfl) hv_X12_enqueue_42 rfl h_3 rfl dX12_enqueue_58 ?_
      refine z_aload_n B dX12_enqueue_61 rfl 1 rfl ?_
      refine z_get (ref := "FlowExporterModel") (C := RX12) (T := TX12) (N := 54) (ci := 14) (v := .int (nI qu)) B hu_X12_enqueue_X12 rfl 26 (Nat.le_of_ble_eq_true rfl) hv_X12_enqueue_139 rfl h_3 rfl dX12_enqueue_62 ?_
      refine z_aload_n B dX12_enqueue_65 rfl 1 rfl ?_
      refine z_get (ref := "FlowExporterModel") (C := RX12) (T := TX12) (N := 54) (ci := 14) (v := .int (nI le)) B hu_X12_enqueue_X12 rfl 23 (Nat.le_of_ble_eq_true rfl) hv_X12_enqueue_280 rfl h_3 rfl dX12_enqueue_66 ?_
      obtain ⟨f_1, h_4, r_1⟩ := imk (k := 10) hI1
      replace r_1 : Rw 600 f_1 := r_1
      have h_5 : Φl1 (x + 10) = some (ai_ G 12 f_1) := h_4
      refine z_iast B h_5 (Nat.le_trans hx (Nat.le_add_right x 10)) (vp_in_nI (by omega) (by omega)) dX12_enqueue_69 (fun Φ1 hΦ1 => ?_)
      have h_6 : Φ1 (x + 10) = some (ai_ G 12 (upd f_1 (nI qu).toNatClampNeg (nI le))) := fset_at hΦ1
      have hI2 : Im G x (rd, nw, cr, tp, tt, fl, pe, le, nx, il, qu, kn, ec, nu, va, st, ep, ti, ad, ob, ra, rt, ex, sa, us, tk, th) Φ1 := Im.put (k := 10) hI1 hΦ1 ⟨_, rfl, Rw.up (n := le) r_1 (show le ≤ 600 by omega)⟩
      refine z_aload_n B dX12_enqueue_70 rfl 1 rfl ?_
      refine z_dup B dX12_enqueue_71 rfl ?_
      have h_7 : Φ1 x = some (o_ 14 [.int th, .ref (x + 1), .ref (x + 2), .int ti, .int ra, .int (nI rt), .int ex, .int ad, .ref (x + 3), .ref (x + 4), .int v_1, .long v_2, .ref (x + 5), .int (nI fl), .int v_3, .long ob, .long sa, .long v_4, .long us, .ref (x + 6), .ref (x + 7), .int (nI pe), .ref (x + 8), .int (nI le), .ref (x + 9), .ref (x + 10), .int (nI qu), .ref (x + 11), .ref (x + 12), .ref (x + 13), .ref (x + 14), .ref (x + 15), .ref (x + 16), .int (nI n_1), .long v_5, .ref (x + 17), .ref (x + 18), .ref (x + 19), .ref (x + 20), .ref (x + 21), .ref (x + 22), .int (nI n_2), .ref (x + 23), .ref (x + 24), .int (nI tk), .ref (x + 25), .int (nI il), .int (nI nx), .int ec, .int ep, .int kn, .int (nI st), .int nu, .long va]) := ((fset_fr hΦ1 (ne_off (x := x) (i := 0) (j := 10) rfl)).trans h_3)
      refine z_get (ref := "FlowExporterModel") (C := RX12) (T := TX12) (N := 54) (ci := 14) (v := .int (nI qu)) B hu_X12_enqueue_X12 rfl 26 (Nat.le_of_ble_eq_true rfl) hv_X12_enqueue_139 rfl h_7 rfl dX12_enqueue_72 ?_
      refine z_iconst (v := 1) B dX12_enqueue_75 rfl ?_
      refine z_iadd B dX12_enqueue_76 ?_
      refine z_top (st1 := [.int (nI (qu + 1)), .ref x]) (congrArg (fun w9 : Int32 => ([.int w9, .ref x] : List Value)) (nI_add qu 1)) ?_
      refine z_put (ref := "FlowExporterModel") (C := RX12) (T := TX12) (N := 54) (ci := 14) (v := .int (nI (qu + 1))) B hu_X12_enqueue_X12 tyX12 tyX12_ok nmX12 rfl 26 (Nat.le_of_ble_eq_true rfl) hv_X12_enqueue_139 rfl (Or.inl rfl) h_7 hx rfl rfl (Nat.le_of_ble_eq_true rfl) dX12_enqueue_77 (fun Φ2 hΦ2 => ?_)
      have h_8 : Φ2 x = some (o_ 14 [.int th, .ref (x + 1), .ref (x + 2), .int ti, .int ra, .int (nI rt), .int ex, .int ad, .ref (x + 3), .ref (x + 4), .int v_1, .long v_2, .ref (x + 5), .int (nI fl), .int v_3, .long ob, .long sa, .long v_4, .long us, .ref (x + 6), .ref (x + 7), .int (nI pe), .ref (x + 8), .int (nI le), .ref (x + 9), .ref (x + 10), .int (nI (qu + 1)), .ref (x + 11), .ref (x + 12), .ref (x + 13), .ref (x + 14), .ref (x + 15), .ref (x + 16), .int (nI n_1), .long v_5, .ref (x + 17), .ref (x + 18), .ref (x + 19), .ref (x + 20), .ref (x + 21), .ref (x + 22), .int (nI n_2), .ref (x + 23), .ref (x + 24), .int (nI tk), .ref (x + 25), .int (nI il), .int (nI nx), .int ec, .int ep, .int kn, .int (nI st), .int nu, .long va]) := fset_at hΦ2
      have hI3 : Im G x (rd, nw, cr, tp, tt, fl, pe, le, nx, il, qu + 1, kn, ec, nu, va, st, ep, ti, ad, ob, ra, rt, ex, sa, us, tk, th) Φ2 := Im.put0 hI2 hΦ2 ⟨v_1, v_2, v_3, v_4, n_1, v_5, n_2, rfl, b_13, b_1, b_2, b_3, b_4, b_5, (show (qu + 1) ≤ 12 by omega), b_7, b_8, b_9, b_10, b_11, b_12⟩
      exact z_ret_v B dX12_enqueue_80 ⟨rfl, rfl, ⟨qu + 1, hI3⟩, (fun b9 h9 => ((fset_fr hΦ2 (fun h8 => h9 (0) h8 (show 0 = 0 ∨ 0 = 9 ∨ 0 = 10 by decide))).trans ((fset_fr hΦ1 (fun h8 => h9 (10) h8 (show 10 = 0 ∨ 10 = 9 ∨ 10 = 10 by decide))).trans ((hF1 b9 (fun j9 h8 h7 => h9 j9 h8 (fq_950 j9 h7))).trans rfl))))⟩
    · have e_3 : ¬ (le ≤ i_1) := fun h9 => c_2 ((nI_leI (a := le) (b := i_1) (by omega) (by omega)).mpr h9)
      refine z_aload_n B dX12_enqueue_30 rfl 1 rfl ?_
      refine z_get (ref := "FlowExporterModel") (C := RX12) (T := TX12) (N := 54) (ci := 14) (v := .ref (x + 9)) B hu_X12_enqueue_X12 rfl 24 (Nat.le_of_ble_eq_true rfl) hv_X12_enqueue_39 rfl h_3 rfl dX12_enqueue_31 ?_
      refine z_sipush (v := 600) B dX12_enqueue_34 rfl ?_
      refine z_aload_n B dX12_enqueue_37 rfl 1 rfl ?_
      refine z_get (ref := "FlowExporterModel") (C := RX12) (T := TX12) (N := 54) (ci := 14) (v := .int (nI qu)) B hu_X12_enqueue_X12 rfl 26 (Nat.le_of_ble_eq_true rfl) hv_X12_enqueue_139 rfl h_3 rfl dX12_enqueue_38 ?_
      refine z_imul B dX12_enqueue_41 ?_
      refine z_top (st1 := [.int (nI (600 * qu)), .ref (x + 9)]) (congrArg (fun w9 : Int32 => ([.int w9, .ref (x + 9)] : List Value)) (nI_mul 600 qu)) ?_
      refine z_iload_n B dX12_enqueue_42 rfl 0 rfl ?_
      refine z_iadd B dX12_enqueue_43 ?_
      refine z_top (st1 := [.int (nI (600 * qu + i_1)), .ref (x + 9)]) (congrArg (fun w9 : Int32 => ([.int w9, .ref (x + 9)] : List Value)) (nI_add (600 * qu) i_1)) ?_
      refine z_aload_n B dX12_enqueue_44 rfl 1 rfl ?_
      refine z_get (ref := "FlowExporterModel") (C := RX12) (T := TX12) (N := 54) (ci := 14) (v := .ref (x + 8)) B hu_X12_enqueue_X12 rfl 22 (Nat.le_of_ble_eq_true rfl) hv_X12_enqueue_36 rfl h_3 rfl dX12_enqueue_45 ?_
      refine z_iload_n B dX12_enqueue_48 rfl 0 rfl ?_
      obtain ⟨f_2, h_9, r_2⟩ := imk (k := 8) hI1
      replace r_2 : Rw 255 f_2 := r_2
      have h_10 : Φl1 (x + 8) = some (ai_ G 700 f_2) := h_9
      refine z_iald B h_10 (vp_in_nI (by omega) (by omega)) dX12_enqueue_49 ?_
      obtain ⟨n_3, b_15, e_4⟩ := r_2 ((nI i_1).toNatClampNeg)
      refine z_top (st1 := [.int (nI n_3), .int (nI (600 * qu + i_1)), .ref (x + 9)]) (congrArg (fun w9 : Int32 => ([.int w9, .int (nI (600 * qu + i_1)), .ref (x + 9)] : List Value)) (e_4)) ?_
      obtain ⟨f_3, h_11, r_3⟩ := imk (k := 9) hI1
      replace r_3 : Rw 255 f_3 := r_3
      have h_12 : Φl1 (x + 9) = some (ai_ G 7200 f_3) := h_11
      refine z_iast B h_12 (Nat.le_trans hx (Nat.le_add_right x 9)) (vp_in_nI (by omega) (by omega)) dX12_enqueue_50 (fun Φ3 hΦ3 => ?_)
      have h_13 : Φ3 (x + 9) = some (ai_ G 7200 (upd f_3 (nI (600 * qu + i_1)).toNatClampNeg (nI n_3))) := fset_at hΦ3
      have hI4 : Im G x (rd, nw, cr, tp, tt, fl, pe, le, nx, il, qu, kn, ec, nu, va, st, ep, ti, ad, ob, ra, rt, ex, sa, us, tk, th) Φ3 := Im.put (k := 9) hI1 hΦ3 ⟨_, rfl, Rw.up (n := n_3) r_3 (show n_3 ≤ 255 by omega)⟩
      refine z_iinc (k := 0) (v := nI (i_1 + 1)) (lv' := [(1, .int (nI (i_1 + 1))), (0, .ref x)]) B dX12_enqueue_51 rfl (nI_add i_1 1) (Nat.le_of_ble_eq_true rfl) rfl ?_
      refine z_goto (tgt := 22) B dX12_enqueue_54 rfl ?_
      refine z_lv [0, 1] rfl ?_
      exact ih1 (i_1 + 1) Φ3 (show 600 - (i_1 + 1) < 600 - i_1 by omega) ⟨hI4, (fun b9 h9 => ((fset_fr hΦ3 (fun h8 => h9 (9) h8 (show 9 = 9 by decide))).trans ((hF1 b9 h9).trans rfl))), (show (i_1 + 1) ≤ 600 by omega), trivial⟩
  · have e_5 : qu = 12 := (nI_eq (a := qu) (b := 12) (by omega) (by omega)).mp c_1
    refine z_aload_n B dX12_enqueue_9 rfl 0 rfl ?_
    refine z_dup B dX12_enqueue_10 rfl ?_
    refine z_get (ref := "FlowExporterModel") (C := RX12) (T := TX12) (N := 54) (ci := 14) (v := .int v_3) B hu_X12_enqueue_X12 rfl 14 (Nat.le_of_ble_eq_true rfl) hv_X12_enqueue_130 rfl h_2 rfl dX12_enqueue_11 ?_
    refine z_iconst (v := 1) B dX12_enqueue_14 rfl ?_
    refine z_iadd B dX12_enqueue_15 ?_
    refine z_fi (fun v_6 => ?_)
    refine z_put (ref := "FlowExporterModel") (C := RX12) (T := TX12) (N := 54) (ci := 14) (v := .int v_6) B hu_X12_enqueue_X12 tyX12 tyX12_ok nmX12 rfl 14 (Nat.le_of_ble_eq_true rfl) hv_X12_enqueue_130 rfl (Or.inl rfl) h_2 hx rfl rfl (Nat.le_of_ble_eq_true rfl) dX12_enqueue_16 (fun Φ4 hΦ4 => ?_)
    have h_14 : Φ4 x = some (o_ 14 [.int th, .ref (x + 1), .ref (x + 2), .int ti, .int ra, .int (nI rt), .int ex, .int ad, .ref (x + 3), .ref (x + 4), .int v_1, .long v_2, .ref (x + 5), .int (nI fl), .int v_6, .long ob, .long sa, .long v_4, .long us, .ref (x + 6), .ref (x + 7), .int (nI pe), .ref (x + 8), .int (nI le), .ref (x + 9), .ref (x + 10), .int (nI qu), .ref (x + 11), .ref (x + 12), .ref (x + 13), .ref (x + 14), .ref (x + 15), .ref (x + 16), .int (nI n_1), .long v_5, .ref (x + 17), .ref (x + 18), .ref (x + 19), .ref (x + 20), .ref (x + 21), .ref (x + 22), .int (nI n_2), .ref (x + 23), .ref (x + 24), .int (nI tk), .ref (x + 25), .int (nI il), .int (nI nx), .int ec, .int ep, .int kn, .int (nI st), .int nu, .long va]) := fset_at hΦ4
    have hI5 : Im G x (rd, nw, cr, tp, tt, fl, pe, le, nx, il, qu, kn, ec, nu, va, st, ep, ti, ad, ob, ra, rt, ex, sa, us, tk, th) Φ4 := Im.put0 hI hΦ4 ⟨v_1, v_2, v_6, v_4, n_1, v_5, n_2, rfl, b_13, b_1, b_2, b_3, b_4, b_5, b_6, b_7, b_8, b_9, b_10, b_11, b_12⟩
    exact z_ret_v B dX12_enqueue_19 ⟨rfl, rfl, ⟨qu, hI5⟩, (fun b9 h9 => ((fset_fr hΦ4 (fun h8 => h9 (0) h8 (show 0 = 0 ∨ 0 = 9 ∨ 0 = 10 by decide))).trans rfl))⟩

theorem hu_X12_sendPending_X12 : ∀ w ∈ u_ws RX12 TX12 54, w ∈ wsX12_sendPending := fun _ h => List.mem_cons_of_mem _ (List.mem_append_left _ (List.mem_append_right _ (h)))

theorem hv_X12_sendPending_136 : Cond.fieldLink RX12 136 "FlowExporterModel" (TX12 21).2.1 (TX12 21).2.2.1 ∈ wsX12_sendPending := List.mem_cons_of_mem _ (List.mem_append_left _ (List.mem_append_left _ (List.mem_append_left _ (List.mem_of_getElem? (i := 0) rfl))))

theorem hv_X12_sendPending_280 : Cond.fieldLink RX12 280 "FlowExporterModel" (TX12 23).2.1 (TX12 23).2.2.1 ∈ wsX12_sendPending := List.mem_cons_of_mem _ (List.mem_append_left _ (List.mem_append_left _ (List.mem_append_left _ (List.mem_of_getElem? (i := 1) rfl))))

theorem hv_X12_sendPending_101 : Cond.fieldLink RX12 101 "FlowExporterModel" (TX12 3).2.1 (TX12 3).2.2.1 ∈ wsX12_sendPending := List.mem_cons_of_mem _ (List.mem_append_left _ (List.mem_append_left _ (List.mem_append_left _ (List.mem_of_getElem? (i := 3) rfl))))

theorem hv_X12_sendPending_201 : Cond.fieldLink RX12 201 "FlowExporterModel" (TX12 11).2.1 (TX12 11).2.2.1 ∈ wsX12_sendPending := List.mem_cons_of_mem _ (List.mem_append_left _ (List.mem_append_left _ (List.mem_append_left _ (List.mem_of_getElem? (i := 4) rfl))))

theorem fq_959 {x : Nat} : ∀ j9 : Nat, x = x + j9 → (j9 = 8) → False := by
  intro j9 h1 h2
  omega

theorem hv_X12_sendPending_142 : Cond.fieldLink RX12 142 "FlowExporterModel" (TX12 10).2.1 (TX12 10).2.2.1 ∈ wsX12_sendPending := List.mem_cons_of_mem _ (List.mem_append_left _ (List.mem_append_left _ (List.mem_append_left _ (List.mem_of_getElem? (i := 5) rfl))))

theorem hv_X12_sendPending_124 : Cond.fieldLink RX12 124 "FlowExporterModel" (TX12 17).2.1 (TX12 17).2.2.1 ∈ wsX12_sendPending := List.mem_cons_of_mem _ (List.mem_append_left _ (List.mem_append_left _ (List.mem_append_left _ (List.mem_of_getElem? (i := 6) rfl))))

theorem fq_962 : ∀ j9 : Nat, (j9 = 0 ∨ j9 = 8) → (j9 = 0 ∨ j9 = 3 ∨ j9 = 4 ∨ j9 = 8 ∨ j9 = 9 ∨ j9 = 10) := by
  intro j9 h
  omega

theorem fq_963 : ∀ j9 : Nat, (j9 = 0 ∨ j9 = 3 ∨ j9 = 4 ∨ j9 = 8) → (j9 = 0 ∨ j9 = 3 ∨ j9 = 4 ∨ j9 = 8 ∨ j9 = 9 ∨ j9 = 10) := by
  intro j9 h
  omega

theorem fq_964 : ∀ j9 : Nat, (j9 = 8) → (j9 = 0 ∨ j9 = 3 ∨ j9 = 4 ∨ j9 = 8 ∨ j9 = 9 ∨ j9 = 10) := by
  intro j9 h
  omega

theorem fq_965 : ∀ j9 : Nat, (j9 = 0 ∨ j9 = 9 ∨ j9 = 10) → (j9 = 0 ∨ j9 = 3 ∨ j9 = 4 ∨ j9 = 8 ∨ j9 = 9 ∨ j9 = 10) := by
  intro j9 h
  omega

set_option maxHeartbeats 4000000 in
set_option maxRecDepth 100000 in
theorem r_sendPending (G : EnvG) (l : Launch) (Φ : Hm) (sz x : Nat) (rd : (Nat → Int32) → Prop) (nw : (Nat → Int32) → Prop) (cr : (Nat → Int64) → Prop) (tp : (Nat → Int32) → Prop) (tt : (Nat → Int64) → Prop) (fl : Nat) (pe : Nat) (le : Nat) (nx : Nat) (il : Nat) (qu : Nat) (kn : Int32) (ec : Int32) (nu : Int32) (va : Int64) (st : Nat) (ep : Int32) (ti : Int32) (ad : Int32) (ob : Int64) (ra : Int32) (rt : Nat) (ex : Int32) (sa : Int64) (us : Int64) (tk : Nat) (th : Int32)  (hx : G.2.2.2 ≤ x) (hI : Im G x (rd, nw, cr, tp, tt, fl, pe, le, nx, il, qu, kn, ec, nu, va, st, ep, ti, ad, ob, ra, rt, ex, sa, us, tk, th) Φ) (hnw : ∀ f9 : Nat → Int32, nw f9 → NN f9) : Ct G l yX12_sendPending wsX12_sendPending ({ frames := 5, cells := 0, slots := 0, locals := 117 }) 0 0 [.ref x] Φ sz (fun v Φ1 sz1 => (v = none) ∧ sz1 = sz ∧ (∃ (le1 : Nat) (qu1 : Nat), Im G x (rd, nw, cr, tp, tt, fl, 0, le1, nx, il, qu1, kn, ec, nu, va, st, ep, ti, ad, ob, ra, rt, ex, sa, us, tk, th) Φ1) ∧ Fr x (fun j9 => j9 = 0 ∨ j9 = 3 ∨ j9 = 4 ∨ j9 = 8 ∨ j9 = 9 ∨ j9 = 10) Φ Φ1) := by
  refine Ct.of (cc := cX12_sendPending) (maxL := 3) (ret := none) (by decide) rfl (Nat.le_of_ble_eq_true rfl) ?_
  intro p9 e9 s9 m9 w9 t9 k9 B
  show Z p9 l e9 _ s9 m9 _ w9 t9 k9 _ G 3 0 [(0, .ref x)] [] Φ sz 0 0
  refine z_iconst (v := 0) B dX12_sendPending_0 rfl ?_
  refine z_istore_n (lv' := [(1, .int 0), (0, .ref x)]) B dX12_sendPending_1 rfl (Nat.le_of_ble_eq_true rfl) rfl ?_
  refine z_lv [0, 1] rfl ?_
  refine z_loop (α := Nat × Nat × Nat) (fun (a9 : Nat × Nat × Nat) Φi => Im G x (rd, nw, cr, tp, tt, fl, pe, a9.2.1, nx, il, a9.2.2, kn, ec, nu, va, st, ep, ti, ad, ob, ra, rt, ex, sa, us, tk, th) Φi ∧ Fr x (fun j9 => j9 = 0 ∨ j9 = 3 ∨ j9 = 4 ∨ j9 = 8 ∨ j9 = 9 ∨ j9 = 10) Φ Φi ∧ (a9.1 ≤ pe) ∧ True) (fun a9 => [(1, .int (nI (a9.1))), (0, .ref x)]) (fun a9 => pe - a9.1) ?_ (0, le, qu) ⟨hI, fun _ _ => rfl, (show 0 ≤ pe by omega), trivial⟩
  rintro ⟨i_1, i_2, i_3⟩ Φl1 ⟨hI1, hF1, b_1, -⟩ ih1
  replace hI1 : Im G x (rd, nw, cr, tp, tt, fl, pe, i_2, nx, il, i_3, kn, ec, nu, va, st, ep, ti, ad, ob, ra, rt, ex, sa, us, tk, th) Φl1 := hI1
  replace b_1 : i_1 ≤ pe := b_1
  show Z p9 l e9 _ s9 m9 _ w9 t9 k9 _ G 3 2 [(1, .int (nI i_1)), (0, .ref x)] [] Φl1 _ _ _
  refine z_iload_n B dX12_sendPending_2 rfl 0 rfl ?_
  refine z_aload_n B dX12_sendPending_3 rfl 1 rfl ?_
  obtain ⟨v_1, v_2, v_3, v_4, n_1, v_5, n_2, h_1, b_14, b_2, b_3, b_4, b_5, b_6, b_7, b_8, b_9, b_10, b_11, b_12, b_13⟩ := im0 hI1
  replace b_2 : 1 ≤ rt := b_2
  replace b_3 : rt ≤ 1024 := b_3
  replace b_4 : fl ≤ 12 := b_4
  replace b_5 : pe ≤ 24 := b_5
  replace b_6 : i_2 ≤ 700 := b_6
  replace b_7 : i_3 ≤ 12 := b_7
  replace b_8 : n_1 ≤ 8 := b_8
  replace b_9 : n_2 ≤ 24 := b_9
  replace b_10 : tk ≤ 24 := b_10
  replace b_11 : il ≤ 700 := b_11
  replace b_12 : nx ≤ 701 := b_12
  replace b_13 : st ≤ 701 := b_13
  have h_2 : Φl1 x = some (o_ 14 [.int th, .ref (x + 1), .ref (x + 2), .int ti, .int ra, .int (nI rt), .int ex, .int ad, .ref (x + 3), .ref (x + 4), .int v_1, .long v_2, .ref (x + 5), .int (nI fl), .int v_3, .long ob, .long sa, .long v_4, .long us, .ref (x + 6), .ref (x + 7), .int (nI pe), .ref (x + 8), .int (nI i_2), .ref (x + 9), .ref (x + 10), .int (nI i_3), .ref (x + 11), .ref (x + 12), .ref (x + 13), .ref (x + 14), .ref (x + 15), .ref (x + 16), .int (nI n_1), .long v_5, .ref (x + 17), .ref (x + 18), .ref (x + 19), .ref (x + 20), .ref (x + 21), .ref (x + 22), .int (nI n_2), .ref (x + 23), .ref (x + 24), .int (nI tk), .ref (x + 25), .int (nI il), .int (nI nx), .int ec, .int ep, .int kn, .int (nI st), .int nu, .long va]) := h_1
  refine z_get (ref := "FlowExporterModel") (C := RX12) (T := TX12) (N := 54) (ci := 14) (v := .int (nI pe)) B hu_X12_sendPending_X12 rfl 21 (Nat.le_of_ble_eq_true rfl) hv_X12_sendPending_136 rfl h_2 rfl dX12_sendPending_4 ?_
  refine z_icmp_ge (tgt := 132) B dX12_sendPending_7 rfl (fun c_1 => ?_) (fun c_1 => ?_)
  · have e_1 : pe ≤ i_1 := (nI_leI (a := pe) (b := i_1) (by omega) (by omega)).mp c_1
    refine z_aload_n B dX12_sendPending_132 rfl 1 rfl ?_
    refine z_iconst (v := 0) B dX12_sendPending_133 rfl ?_
    refine z_put (ref := "FlowExporterModel") (C := RX12) (T := TX12) (N := 54) (ci := 14) (v := .int 0) B hu_X12_sendPending_X12 tyX12 tyX12_ok nmX12 rfl 21 (Nat.le_of_ble_eq_true rfl) hv_X12_sendPending_136 rfl (Or.inl rfl) h_2 hx rfl rfl (Nat.le_of_ble_eq_true rfl) dX12_sendPending_134 (fun Φ1 hΦ1 => ?_)
    have h_3 : Φ1 x = some (o_ 14 [.int th, .ref (x + 1), .ref (x + 2), .int ti, .int ra, .int (nI rt), .int ex, .int ad, .ref (x + 3), .ref (x + 4), .int v_1, .long v_2, .ref (x + 5), .int (nI fl), .int v_3, .long ob, .long sa, .long v_4, .long us, .ref (x + 6), .ref (x + 7), .int 0, .ref (x + 8), .int (nI i_2), .ref (x + 9), .ref (x + 10), .int (nI i_3), .ref (x + 11), .ref (x + 12), .ref (x + 13), .ref (x + 14), .ref (x + 15), .ref (x + 16), .int (nI n_1), .long v_5, .ref (x + 17), .ref (x + 18), .ref (x + 19), .ref (x + 20), .ref (x + 21), .ref (x + 22), .int (nI n_2), .ref (x + 23), .ref (x + 24), .int (nI tk), .ref (x + 25), .int (nI il), .int (nI nx), .int ec, .int ep, .int kn, .int (nI st), .int nu, .long va]) := fset_at hΦ1
    have hI2 : Im G x (rd, nw, cr, tp, tt, fl, 0, i_2, nx, il, i_3, kn, ec, nu, va, st, ep, ti, ad, ob, ra, rt, ex, sa, us, tk, th) Φ1 := Im.put0 hI1 hΦ1 ⟨v_1, v_2, v_3, v_4, n_1, v_5, n_2, rfl, b_14, b_2, b_3, b_4, (show 0 ≤ 24 by omega), b_6, b_7, b_8, b_9, b_10, b_11, b_12, b_13⟩
    exact z_ret_v B dX12_sendPending_137 ⟨rfl, rfl, ⟨i_2, i_3, hI2⟩, (fun b9 h9 => ((fset_fr hΦ1 (fun h8 => h9 (0) h8 (show 0 = 0 ∨ 0 = 3 ∨ 0 = 4 ∨ 0 = 8 ∨ 0 = 9 ∨ 0 = 10 by decide))).trans ((hF1 b9 h9).trans rfl)))⟩
  · have e_2 : ¬ (pe ≤ i_1) := fun h9 => c_1 ((nI_leI (a := pe) (b := i_1) (by omega) (by omega)).mpr h9)
    refine z_aload_n B dX12_sendPending_10 rfl 1 rfl ?_
    refine z_iconst (v := 0) B dX12_sendPending_11 rfl ?_
    refine z_put (ref := "FlowExporterModel") (C := RX12) (T := TX12) (N := 54) (ci := 14) (v := .int 0) B hu_X12_sendPending_X12 tyX12 tyX12_ok nmX12 rfl 23 (Nat.le_of_ble_eq_true rfl) hv_X12_sendPending_280 rfl (Or.inl rfl) h_2 hx rfl rfl (Nat.le_of_ble_eq_true rfl) dX12_sendPending_12 (fun Φ2 hΦ2 => ?_)
    have h_4 : Φ2 x = some (o_ 14 [.int th, .ref (x + 1), .ref (x + 2), .int ti, .int ra, .int (nI rt), .int ex, .int ad, .ref (x + 3), .ref (x + 4), .int v_1, .long v_2, .ref (x + 5), .int (nI fl), .int v_3, .long ob, .long sa, .long v_4, .long us, .ref (x + 6), .ref (x + 7), .int (nI pe), .ref (x + 8), .int 0, .ref (x + 9), .ref (x + 10), .int (nI i_3), .ref (x + 11), .ref (x + 12), .ref (x + 13), .ref (x + 14), .ref (x + 15), .ref (x + 16), .int (nI n_1), .long v_5, .ref (x + 17), .ref (x + 18), .ref (x + 19), .ref (x + 20), .ref (x + 21), .ref (x + 22), .int (nI n_2), .ref (x + 23), .ref (x + 24), .int (nI tk), .ref (x + 25), .int (nI il), .int (nI nx), .int ec, .int ep, .int kn, .int (nI st), .int nu, .long va]) := fset_at hΦ2
    have hI3 : Im G x (rd, nw, cr, tp, tt, fl, pe, 0, nx, il, i_3, kn, ec, nu, va, st, ep, ti, ad, ob, ra, rt, ex, sa, us, tk, th) Φ2 := Im.put0 hI1 hΦ2 ⟨v_1, v_2, v_3, v_4, n_1, v_5, n_2, rfl, b_14, b_2, b_3, b_4, b_5, (show 0 ≤ 700 by omega), b_7, b_8, b_9, b_10, b_11, b_12, b_13⟩
    refine z_aload_n B dX12_sendPending_15 rfl 1 rfl ?_
    refine z_ldc2 (v := 10) B (by decide +kernel) dX12_sendPending_16 ?_
    refine z_iconst (v := 2) B dX12_sendPending_19 rfl ?_
    refine z_callV (As := [.long 10, .int 2]) (rest := []) B (r_put G l Φ2 sz x rd nw cr tp tt fl pe 0 nx il i_3 kn ec nu va st ep ti ad ob ra rt ex sa us tk th 10 2 hx hI3 (show 2 ≤ 8 by omega) (show 0 + 2 ≤ 700 by omega) hnw) (cwV 2 B.1.2.2.2.2 gX12_sendPending_X12_put rfl rfl rfl (by decide +kernel) ⟨Nat.le_of_ble_eq_true rfl, Nat.le_of_ble_eq_true rfl⟩) h_4 rfl rfl rfl rfl (Nat.le_of_ble_eq_true rfl) dX12_sendPending_20 ⟨Nat.le_of_ble_eq_true rfl, Nat.le_of_ble_eq_true rfl⟩ (fun r_1 Φ3 sz1 st1 hp1 hs1 => ?_)
    obtain ⟨rfl, hq1, ⟨n_3, b_15, hI4⟩, hF2⟩ := hp1
    subst sz1
    replace hs1 : st1 = [] := hs1
    subst st1
    replace hI4 : Im G x (rd, nw, cr, tp, tt, fl, pe, n_3, nx, il, i_3, kn, ec, nu, va, st, ep, ti, ad, ob, ra, rt, ex, sa, us, tk, th) Φ3 := hI4
    replace b_15 : n_3 = 0 + 2 := b_15
    refine z_aload_n B dX12_sendPending_23 rfl 1 rfl ?_
    refine z_lconst (v := 0) B dX12_sendPending_24 rfl ?_
    refine z_iconst (v := 2) B dX12_sendPending_25 rfl ?_
    obtain ⟨v_6, v_7, v_8, v_9, n_4, v_10, n_5, h_5, b_28, b_16, b_17, b_18, b_19, b_20, b_21, b_22, b_23, b_24, b_25, b_26, b_27⟩ := im0 hI4
    replace b_16 : 1 ≤ rt := b_16
    replace b_17 : rt ≤ 1024 := b_17
    replace b_18 : fl ≤ 12 := b_18
    replace b_19 : pe ≤ 24 := b_19
    replace b_20 : n_3 ≤ 700 := b_20
    replace b_21 : i_3 ≤ 12 := b_21
    replace b_22 : n_4 ≤ 8 := b_22
    replace b_23 : n_5 ≤ 24 := b_23
    replace b_24 : tk ≤ 24 := b_24
    replace b_25 : il ≤ 700 := b_25
    replace b_26 : nx ≤ 701 := b_26
    replace b_27 : st ≤ 701 := b_27
    have h_6 : Φ3 x = some (o_ 14 [.int th, .ref (x + 1), .ref (x + 2), .int ti, .int ra, .int (nI rt), .int ex, .int ad, .ref (x + 3), .ref (x + 4), .int v_6, .long v_7, .ref (x + 5), .int (nI fl), .int v_8, .long ob, .long sa, .long v_9, .long us, .ref (x + 6), .ref (x + 7), .int (nI pe), .ref (x + 8), .int (nI n_3), .ref (x + 9), .ref (x + 10), .int (nI i_3), .ref (x + 11), .ref (x + 12), .ref (x + 13), .ref (x + 14), .ref (x + 15), .ref (x + 16), .int (nI n_4), .long v_10, .ref (x + 17), .ref (x + 18), .ref (x + 19), .ref (x + 20), .ref (x + 21), .ref (x + 22), .int (nI n_5), .ref (x + 23), .ref (x + 24), .int (nI tk), .ref (x + 25), .int (nI il), .int (nI nx), .int ec, .int ep, .int kn, .int (nI st), .int nu, .long va]) := h_5
    refine z_callV (As := [.long 0, .int 2]) (rest := []) B (r_put G l Φ3 sz x rd nw cr tp tt fl pe n_3 nx il i_3 kn ec nu va st ep ti ad ob ra rt ex sa us tk th 0 2 hx hI4 (show 2 ≤ 8 by omega) (show n_3 + 2 ≤ 700 by omega) hnw) (cwV 2 B.1.2.2.2.2 gX12_sendPending_X12_put rfl rfl rfl (by decide +kernel) ⟨Nat.le_of_ble_eq_true rfl, Nat.le_of_ble_eq_true rfl⟩) h_6 rfl rfl rfl rfl (Nat.le_of_ble_eq_true rfl) dX12_sendPending_26 ⟨Nat.le_of_ble_eq_true rfl, Nat.le_of_ble_eq_true rfl⟩ (fun r_2 Φ4 sz2 st2 hp2 hs2 => ?_)
    obtain ⟨rfl, hq2, ⟨n_6, b_29, hI5⟩, hF3⟩ := hp2
    subst sz2
    replace hs2 : st2 = [] := hs2
    subst st2
    replace hI5 : Im G x (rd, nw, cr, tp, tt, fl, pe, n_6, nx, il, i_3, kn, ec, nu, va, st, ep, ti, ad, ob, ra, rt, ex, sa, us, tk, th) Φ4 := hI5
    replace b_29 : n_6 = n_3 + 2 := b_29
    refine z_aload_n B dX12_sendPending_29 rfl 1 rfl ?_
    refine z_aload_n B dX12_sendPending_30 rfl 1 rfl ?_
    obtain ⟨v_11, v_12, v_13, v_14, n_7, v_15, n_8, h_7, b_42, b_30, b_31, b_32, b_33, b_34, b_35, b_36, b_37, b_38, b_39, b_40, b_41⟩ := im0 hI5
    replace b_30 : 1 ≤ rt := b_30
    replace b_31 : rt ≤ 1024 := b_31
    replace b_32 : fl ≤ 12 := b_32
    replace b_33 : pe ≤ 24 := b_33
    replace b_34 : n_6 ≤ 700 := b_34
    replace b_35 : i_3 ≤ 12 := b_35
    replace b_36 : n_7 ≤ 8 := b_36
    replace b_37 : n_8 ≤ 24 := b_37
    replace b_38 : tk ≤ 24 := b_38
    replace b_39 : il ≤ 700 := b_39
    replace b_40 : nx ≤ 701 := b_40
    replace b_41 : st ≤ 701 := b_41
    have h_8 : Φ4 x = some (o_ 14 [.int th, .ref (x + 1), .ref (x + 2), .int ti, .int ra, .int (nI rt), .int ex, .int ad, .ref (x + 3), .ref (x + 4), .int v_11, .long v_12, .ref (x + 5), .int (nI fl), .int v_13, .long ob, .long sa, .long v_14, .long us, .ref (x + 6), .ref (x + 7), .int (nI pe), .ref (x + 8), .int (nI n_6), .ref (x + 9), .ref (x + 10), .int (nI i_3), .ref (x + 11), .ref (x + 12), .ref (x + 13), .ref (x + 14), .ref (x + 15), .ref (x + 16), .int (nI n_7), .long v_15, .ref (x + 17), .ref (x + 18), .ref (x + 19), .ref (x + 20), .ref (x + 21), .ref (x + 22), .int (nI n_8), .ref (x + 23), .ref (x + 24), .int (nI tk), .ref (x + 25), .int (nI il), .int (nI nx), .int ec, .int ep, .int kn, .int (nI st), .int nu, .long va]) := h_7
    refine z_get (ref := "FlowExporterModel") (C := RX12) (T := TX12) (N := 54) (ci := 14) (v := .int ti) B hu_X12_sendPending_X12 rfl 3 (Nat.le_of_ble_eq_true rfl) hv_X12_sendPending_101 rfl h_8 rfl dX12_sendPending_31 ?_
    refine z_i2l (v := ti.toInt64) B dX12_sendPending_34 rfl ?_
    refine z_iconst (v := 4) B dX12_sendPending_35 rfl ?_
    refine z_callV (As := [.long ti.toInt64, .int 4]) (rest := []) B (r_put G l Φ4 sz x rd nw cr tp tt fl pe n_6 nx il i_3 kn ec nu va st ep ti ad ob ra rt ex sa us tk th ti.toInt64 4 hx hI5 (show 4 ≤ 8 by omega) (show n_6 + 4 ≤ 700 by omega) hnw) (cwV 2 B.1.2.2.2.2 gX12_sendPending_X12_put rfl rfl rfl (by decide +kernel) ⟨Nat.le_of_ble_eq_true rfl, Nat.le_of_ble_eq_true rfl⟩) h_8 rfl rfl rfl rfl (Nat.le_of_ble_eq_true rfl) dX12_sendPending_36 ⟨Nat.le_of_ble_eq_true rfl, Nat.le_of_ble_eq_true rfl⟩ (fun r_3 Φ5 sz3 st3 hp3 hs3 => ?_)
    obtain ⟨rfl, hq3, ⟨n_9, b_43, hI6⟩, hF4⟩ := hp3
    subst sz3
    replace hs3 : st3 = [] := hs3
    subst st3
    replace hI6 : Im G x (rd, nw, cr, tp, tt, fl, pe, n_9, nx, il, i_3, kn, ec, nu, va, st, ep, ti, ad, ob, ra, rt, ex, sa, us, tk, th) Φ5 := hI6
    replace b_43 : n_9 = n_6 + 4 := b_43
    refine z_aload_n B dX12_sendPending_39 rfl 1 rfl ?_
    refine z_aload_n B dX12_sendPending_40 rfl 1 rfl ?_
    obtain ⟨v_16, v_17, v_18, v_19, n_10, v_20, n_11, h_9, b_56, b_44, b_45, b_46, b_47, b_48, b_49, b_50, b_51, b_52, b_53, b_54, b_55⟩ := im0 hI6
    replace b_44 : 1 ≤ rt := b_44
    replace b_45 : rt ≤ 1024 := b_45
    replace b_46 : fl ≤ 12 := b_46
    replace b_47 : pe ≤ 24 := b_47
    replace b_48 : n_9 ≤ 700 := b_48
    replace b_49 : i_3 ≤ 12 := b_49
    replace b_50 : n_10 ≤ 8 := b_50
    replace b_51 : n_11 ≤ 24 := b_51
    replace b_52 : tk ≤ 24 := b_52
    replace b_53 : il ≤ 700 := b_53
    replace b_54 : nx ≤ 701 := b_54
    replace b_55 : st ≤ 701 := b_55
    have h_10 : Φ5 x = some (o_ 14 [.int th, .ref (x + 1), .ref (x + 2), .int ti, .int ra, .int (nI rt), .int ex, .int ad, .ref (x + 3), .ref (x + 4), .int v_16, .long v_17, .ref (x + 5), .int (nI fl), .int v_18, .long ob, .long sa, .long v_19, .long us, .ref (x + 6), .ref (x + 7), .int (nI pe), .ref (x + 8), .int (nI n_9), .ref (x + 9), .ref (x + 10), .int (nI i_3), .ref (x + 11), .ref (x + 12), .ref (x + 13), .ref (x + 14), .ref (x + 15), .ref (x + 16), .int (nI n_10), .long v_20, .ref (x + 17), .ref (x + 18), .ref (x + 19), .ref (x + 20), .ref (x + 21), .ref (x + 22), .int (nI n_11), .ref (x + 23), .ref (x + 24), .int (nI tk), .ref (x + 25), .int (nI il), .int (nI nx), .int ec, .int ep, .int kn, .int (nI st), .int nu, .long va]) := h_9
    refine z_get (ref := "FlowExporterModel") (C := RX12) (T := TX12) (N := 54) (ci := 14) (v := .long v_17) B hu_X12_sendPending_X12 rfl 11 (Nat.le_of_ble_eq_true rfl) hv_X12_sendPending_201 rfl h_10 rfl dX12_sendPending_41 ?_
    refine z_iconst (v := 4) B dX12_sendPending_44 rfl ?_
    refine z_callV (As := [.long v_17, .int 4]) (rest := []) B (r_put G l Φ5 sz x rd nw cr tp tt fl pe n_9 nx il i_3 kn ec nu va st ep ti ad ob ra rt ex sa us tk th v_17 4 hx hI6 (show 4 ≤ 8 by omega) (show n_9 + 4 ≤ 700 by omega) hnw) (cwV 2 B.1.2.2.2.2 gX12_sendPending_X12_put rfl rfl rfl (by decide +kernel) ⟨Nat.le_of_ble_eq_true rfl, Nat.le_of_ble_eq_true rfl⟩) h_10 rfl rfl rfl rfl (Nat.le_of_ble_eq_true rfl) dX12_sendPending_45 ⟨Nat.le_of_ble_eq_true rfl, Nat.le_of_ble_eq_true rfl⟩ (fun r_4 Φ6 sz4 st4 hp4 hs4 => ?_)
    obtain ⟨rfl, hq4, ⟨n_12, b_57, hI7⟩, hF5⟩ := hp4
    subst sz4
    replace hs4 : st4 = [] := hs4
    subst st4
    replace hI7 : Im G x (rd, nw, cr, tp, tt, fl, pe, n_12, nx, il, i_3, kn, ec, nu, va, st, ep, ti, ad, ob, ra, rt, ex, sa, us, tk, th) Φ6 := hI7
    replace b_57 : n_12 = n_9 + 4 := b_57
    refine z_aload_n B dX12_sendPending_48 rfl 1 rfl ?_
    refine z_lconst (v := 0) B dX12_sendPending_49 rfl ?_
    refine z_iconst (v := 4) B dX12_sendPending_50 rfl ?_
    obtain ⟨v_21, v_22, v_23, v_24, n_13, v_25, n_14, h_11, b_70, b_58, b_59, b_60, b_61, b_62, b_63, b_64, b_65, b_66, b_67, b_68, b_69⟩ := im0 hI7
    replace b_58 : 1 ≤ rt := b_58
    replace b_59 : rt ≤ 1024 := b_59
    replace b_60 : fl ≤ 12 := b_60
    replace b_61 : pe ≤ 24 := b_61
    replace b_62 : n_12 ≤ 700 := b_62
    replace b_63 : i_3 ≤ 12 := b_63
    replace b_64 : n_13 ≤ 8 := b_64
    replace b_65 : n_14 ≤ 24 := b_65
    replace b_66 : tk ≤ 24 := b_66
    replace b_67 : il ≤ 700 := b_67
    replace b_68 : nx ≤ 701 := b_68
    replace b_69 : st ≤ 701 := b_69
    have h_12 : Φ6 x = some (o_ 14 [.int th, .ref (x + 1), .ref (x + 2), .int ti, .int ra, .int (nI rt), .int ex, .int ad, .ref (x + 3), .ref (x + 4), .int v_21, .long v_22, .ref (x + 5), .int (nI fl), .int v_23, .long ob, .long sa, .long v_24, .long us, .ref (x + 6), .ref (x + 7), .int (nI pe), .ref (x + 8), .int (nI n_12), .ref (x + 9), .ref (x + 10), .int (nI i_3), .ref (x + 11), .ref (x + 12), .ref (x + 13), .ref (x + 14), .ref (x + 15), .ref (x + 16), .int (nI n_13), .long v_25, .ref (x + 17), .ref (x + 18), .ref (x + 19), .ref (x + 20), .ref (x + 21), .ref (x + 22), .int (nI n_14), .ref (x + 23), .ref (x + 24), .int (nI tk), .ref (x + 25), .int (nI il), .int (nI nx), .int ec, .int ep, .int kn, .int (nI st), .int nu, .long va]) := h_11
    refine z_callV (As := [.long 0, .int 4]) (rest := []) B (r_put G l Φ6 sz x rd nw cr tp tt fl pe n_12 nx il i_3 kn ec nu va st ep ti ad ob ra rt ex sa us tk th 0 4 hx hI7 (show 4 ≤ 8 by omega) (show n_12 + 4 ≤ 700 by omega) hnw) (cwV 2 B.1.2.2.2.2 gX12_sendPending_X12_put rfl rfl rfl (by decide +kernel) ⟨Nat.le_of_ble_eq_true rfl, Nat.le_of_ble_eq_true rfl⟩) h_12 rfl rfl rfl rfl (Nat.le_of_ble_eq_true rfl) dX12_sendPending_51 ⟨Nat.le_of_ble_eq_true rfl, Nat.le_of_ble_eq_true rfl⟩ (fun r_5 Φ7 sz5 st5 hp5 hs5 => ?_)
    obtain ⟨rfl, hq5, ⟨n_15, b_71, hI8⟩, hF6⟩ := hp5
    subst sz5
    replace hs5 : st5 = [] := hs5
    subst st5
    replace hI8 : Im G x (rd, nw, cr, tp, tt, fl, pe, n_15, nx, il, i_3, kn, ec, nu, va, st, ep, ti, ad, ob, ra, rt, ex, sa, us, tk, th) Φ7 := hI8
    replace b_71 : n_15 = n_12 + 4 := b_71
    refine z_aload_n B dX12_sendPending_54 rfl 1 rfl ?_
    obtain ⟨v_26, v_27, v_28, v_29, n_16, v_30, n_17, h_13, b_84, b_72, b_73, b_74, b_75, b_76, b_77, b_78, b_79, b_80, b_81, b_82, b_83⟩ := im0 hI8
    replace b_72 : 1 ≤ rt := b_72
    replace b_73 : rt ≤ 1024 := b_73
    replace b_74 : fl ≤ 12 := b_74
    replace b_75 : pe ≤ 24 := b_75
    replace b_76 : n_15 ≤ 700 := b_76
    replace b_77 : i_3 ≤ 12 := b_77
    replace b_78 : n_16 ≤ 8 := b_78
    replace b_79 : n_17 ≤ 24 := b_79
    replace b_80 : tk ≤ 24 := b_80
    replace b_81 : il ≤ 700 := b_81
    replace b_82 : nx ≤ 701 := b_82
    replace b_83 : st ≤ 701 := b_83
    have h_14 : Φ7 x = some (o_ 14 [.int th, .ref (x + 1), .ref (x + 2), .int ti, .int ra, .int (nI rt), .int ex, .int ad, .ref (x + 3), .ref (x + 4), .int v_26, .long v_27, .ref (x + 5), .int (nI fl), .int v_28, .long ob, .long sa, .long v_29, .long us, .ref (x + 6), .ref (x + 7), .int (nI pe), .ref (x + 8), .int (nI n_15), .ref (x + 9), .ref (x + 10), .int (nI i_3), .ref (x + 11), .ref (x + 12), .ref (x + 13), .ref (x + 14), .ref (x + 15), .ref (x + 16), .int (nI n_16), .long v_30, .ref (x + 17), .ref (x + 18), .ref (x + 19), .ref (x + 20), .ref (x + 21), .ref (x + 22), .int (nI n_17), .ref (x + 23), .ref (x + 24), .int (nI tk), .ref (x + 25), .int (nI il), .int (nI nx), .int ec, .int ep, .int kn, .int (nI st), .int nu, .long va]) := h_13
    refine z_callV (As := []) (rest := []) B (r_putTemplates G l Φ7 sz x rd nw cr tp tt fl pe n_15 nx il i_3 kn ec nu va st ep ti ad ob ra rt ex sa us tk th  hx hI8 (show n_15 ≤ 16 by omega) hnw) (cwV 0 B.1.2.2.2.2 gX12_sendPending_X12_putTemplates rfl rfl rfl (by decide +kernel) ⟨Nat.le_of_ble_eq_true rfl, Nat.le_of_ble_eq_true rfl⟩) h_14 rfl rfl rfl rfl (Nat.le_of_ble_eq_true rfl) dX12_sendPending_55 ⟨Nat.le_of_ble_eq_true rfl, Nat.le_of_ble_eq_true rfl⟩ (fun r_6 Φ8 sz6 st6 hp6 hs6 => ?_)
    obtain ⟨rfl, hq6, ⟨n_18, b_85, b_86, hI9⟩, hF7⟩ := hp6
    subst sz6
    replace hs6 : st6 = [] := hs6
    subst st6
    replace hI9 : Im G x (rd, nw, cr, tp, tt, fl, pe, n_18, nx, il, i_3, kn, ec, nu, va, st, ep, ti, ad, ob, ra, rt, ex, sa, us, tk, th) Φ8 := hI9
    replace b_85 : n_15 ≤ n_18 := b_85
    replace b_86 : n_18 ≤ n_15 + 164 := b_86
    refine z_aload_n B dX12_sendPending_58 rfl 1 rfl ?_
    refine z_iload_n B dX12_sendPending_59 rfl 0 rfl ?_
    obtain ⟨v_31, v_32, v_33, v_34, n_19, v_35, n_20, h_15, b_99, b_87, b_88, b_89, b_90, b_91, b_92, b_93, b_94, b_95, b_96, b_97, b_98⟩ := im0 hI9
    replace b_87 : 1 ≤ rt := b_87
    replace b_88 : rt ≤ 1024 := b_88
    replace b_89 : fl ≤ 12 := b_89
    replace b_90 : pe ≤ 24 := b_90
    replace b_91 : n_18 ≤ 700 := b_91
    replace b_92 : i_3 ≤ 12 := b_92
    replace b_93 : n_19 ≤ 8 := b_93
    replace b_94 : n_20 ≤ 24 := b_94
    replace b_95 : tk ≤ 24 := b_95
    replace b_96 : il ≤ 700 := b_96
    replace b_97 : nx ≤ 701 := b_97
    replace b_98 : st ≤ 701 := b_98
    have h_16 : Φ8 x = some (o_ 14 [.int th, .ref (x + 1), .ref (x + 2), .int ti, .int ra, .int (nI rt), .int ex, .int ad, .ref (x + 3), .ref (x + 4), .int v_31, .long v_32, .ref (x + 5), .int (nI fl), .int v_33, .long ob, .long sa, .long v_34, .long us, .ref (x + 6), .ref (x + 7), .int (nI pe), .ref (x + 8), .int (nI n_18), .ref (x + 9), .ref (x + 10), .int (nI i_3), .ref (x + 11), .ref (x + 12), .ref (x + 13), .ref (x + 14), .ref (x + 15), .ref (x + 16), .int (nI n_19), .long v_35, .ref (x + 17), .ref (x + 18), .ref (x + 19), .ref (x + 20), .ref (x + 21), .ref (x + 22), .int (nI n_20), .ref (x + 23), .ref (x + 24), .int (nI tk), .ref (x + 25), .int (nI il), .int (nI nx), .int ec, .int ep, .int kn, .int (nI st), .int nu, .long va]) := h_15
    refine z_callV (As := [.int (nI i_1)]) (rest := []) B (r_putRecords G l Φ8 sz x rd nw cr tp tt fl pe n_18 nx il i_3 kn ec nu va st ep ti ad ob ra rt ex sa us tk th i_1 hx hI9 (show i_1 < pe by omega) (show n_18 ≤ 180 by omega) hnw) (cwV 1 B.1.2.2.2.2 gX12_sendPending_X12_putRecords rfl rfl rfl (by decide +kernel) ⟨Nat.le_of_ble_eq_true rfl, Nat.le_of_ble_eq_true rfl⟩) h_16 rfl rfl rfl rfl (Nat.le_of_ble_eq_true rfl) dX12_sendPending_60 ⟨Nat.le_of_ble_eq_true rfl, Nat.le_of_ble_eq_true rfl⟩ (fun r_7 Φ9 sz7 st7 hp7 hs7 => ?_)
    obtain ⟨⟨n_22, rfl, b_101⟩, hq7, ⟨n_21, b_100, hI10⟩, hF8⟩ := hp7
    subst sz7
    replace hs7 : st7 = [.int (nI n_22)] := hs7
    subst st7
    replace b_101 : i_1 < n_22 ∧ n_22 ≤ pe := b_101
    replace hI10 : Im G x (rd, nw, cr, tp, tt, fl, pe, n_21, nx, il, i_3, kn, ec, nu, va, st, ep, ti, ad, ob, ra, rt, ex, sa, us, tk, th) Φ9 := hI10
    replace b_100 : n_21 ≤ 600 := b_100
    refine z_istore_n (lv' := [(2, .int (nI n_22)), (1, .int (nI i_1)), (0, .ref x)]) B dX12_sendPending_63 rfl (Nat.le_of_ble_eq_true rfl) rfl ?_
    refine z_aload_n B dX12_sendPending_64 rfl 2 rfl ?_
    refine z_iconst (v := 2) B dX12_sendPending_65 rfl ?_
    refine z_aload_n B dX12_sendPending_66 rfl 2 rfl ?_
    obtain ⟨v_36, v_37, v_38, v_39, n_23, v_40, n_24, h_17, b_114, b_102, b_103, b_104, b_105, b_106, b_107, b_108, b_109, b_110, b_111, b_112, b_113⟩ := im0 hI10
    replace b_102 : 1 ≤ rt := b_102
    replace b_103 : rt ≤ 1024 := b_103
    replace b_104 : fl ≤ 12 := b_104
    replace b_105 : pe ≤ 24 := b_105
    replace b_106 : n_21 ≤ 700 := b_106
    replace b_107 : i_3 ≤ 12 := b_107
    replace b_108 : n_23 ≤ 8 := b_108
    replace b_109 : n_24 ≤ 24 := b_109
    replace b_110 : tk ≤ 24 := b_110
    replace b_111 : il ≤ 700 := b_111
    replace b_112 : nx ≤ 701 := b_112
    replace b_113 : st ≤ 701 := b_113
    have h_18 : Φ9 x = some (o_ 14 [.int th, .ref (x + 1), .ref (x + 2), .int ti, .int ra, .int (nI rt), .int ex, .int ad, .ref (x + 3), .ref (x + 4), .int v_36, .long v_37, .ref (x + 5), .int (nI fl), .int v_38, .long ob, .long sa, .long v_39, .long us, .ref (x + 6), .ref (x + 7), .int (nI pe), .ref (x + 8), .int (nI n_21), .ref (x + 9), .ref (x + 10), .int (nI i_3), .ref (x + 11), .ref (x + 12), .ref (x + 13), .ref (x + 14), .ref (x + 15), .ref (x + 16), .int (nI n_23), .long v_40, .ref (x + 17), .ref (x + 18), .ref (x + 19), .ref (x + 20), .ref (x + 21), .ref (x + 22), .int (nI n_24), .ref (x + 23), .ref (x + 24), .int (nI tk), .ref (x + 25), .int (nI il), .int (nI nx), .int ec, .int ep, .int kn, .int (nI st), .int nu, .long va]) := h_17
    refine z_get (ref := "FlowExporterModel") (C := RX12) (T := TX12) (N := 54) (ci := 14) (v := .int (nI n_21)) B hu_X12_sendPending_X12 rfl 23 (Nat.le_of_ble_eq_true rfl) hv_X12_sendPending_280 rfl h_18 rfl dX12_sendPending_67 ?_
    refine z_callV (As := [.int 2, .int (nI n_21)]) (rest := []) B (r_putAt G l Φ9 sz x rd nw cr tp tt fl pe n_21 nx il i_3 kn ec nu va st ep ti ad ob ra rt ex sa us tk th 2 n_21 hx hI10 (show 2 + 1 < 700 by omega) (show n_21 ≤ 700 by omega) hnw) (cwV 2 B.1.2.2.2.2 gX12_sendPending_X12_putAt rfl rfl rfl (by decide +kernel) ⟨Nat.le_of_ble_eq_true rfl, Nat.le_of_ble_eq_true rfl⟩) h_18 rfl rfl rfl rfl (Nat.le_of_ble_eq_true rfl) dX12_sendPending_70 ⟨Nat.le_of_ble_eq_true rfl, Nat.le_of_ble_eq_true rfl⟩ (fun r_8 Φ10 sz8 st8 hp8 hs8 => ?_)
    obtain ⟨rfl, hq8, hI11, hF9⟩ := hp8
    subst sz8
    replace hs8 : st8 = [] := hs8
    subst st8
    replace hI11 : Im G x (rd, nw, cr, tp, tt, fl, pe, n_21, nx, il, i_3, kn, ec, nu, va, st, ep, ti, ad, ob, ra, rt, ex, sa, us, tk, th) Φ10 := hI11
    refine z_aload_n B dX12_sendPending_73 rfl 2 rfl ?_
    refine z_bipush (v := 14) B dX12_sendPending_74 rfl ?_
    refine z_iload_n B dX12_sendPending_76 rfl 0 rfl ?_
    refine z_iload_n B dX12_sendPending_77 rfl 1 rfl ?_
    refine z_isub B dX12_sendPending_78 ?_
    refine z_top (st1 := [.int (nI (n_22 - i_1)), .int 14, .ref x]) (congrArg (fun w9 : Int32 => ([.int w9, .int 14, .ref x] : List Value)) (nI_sub (show i_1 ≤ n_22 by omega))) ?_
    have h_19 : Φ10 x = some (o_ 14 [.int th, .ref (x + 1), .ref (x + 2), .int ti, .int ra, .int (nI rt), .int ex, .int ad, .ref (x + 3), .ref (x + 4), .int v_36, .long v_37, .ref (x + 5), .int (nI fl), .int v_38, .long ob, .long sa, .long v_39, .long us, .ref (x + 6), .ref (x + 7), .int (nI pe), .ref (x + 8), .int (nI n_21), .ref (x + 9), .ref (x + 10), .int (nI i_3), .ref (x + 11), .ref (x + 12), .ref (x + 13), .ref (x + 14), .ref (x + 15), .ref (x + 16), .int (nI n_23), .long v_40, .ref (x + 17), .ref (x + 18), .ref (x + 19), .ref (x + 20), .ref (x + 21), .ref (x + 22), .int (nI n_24), .ref (x + 23), .ref (x + 24), .int (nI tk), .ref (x + 25), .int (nI il), .int (nI nx), .int ec, .int ep, .int kn, .int (nI st), .int nu, .long va]) := ((hF9 x fq_959).trans h_18)
    refine z_callV (As := [.int 14, .int (nI (n_22 - i_1))]) (rest := []) B (r_putAt G l Φ10 sz x rd nw cr tp tt fl pe n_21 nx il i_3 kn ec nu va st ep ti ad ob ra rt ex sa us tk th 14 (n_22 - i_1) hx hI11 (show 14 + 1 < 700 by omega) (show (n_22 - i_1) ≤ 700 by omega) hnw) (cwV 2 B.1.2.2.2.2 gX12_sendPending_X12_putAt rfl rfl rfl (by decide +kernel) ⟨Nat.le_of_ble_eq_true rfl, Nat.le_of_ble_eq_true rfl⟩) h_19 rfl rfl rfl rfl (Nat.le_of_ble_eq_true rfl) dX12_sendPending_79 ⟨Nat.le_of_ble_eq_true rfl, Nat.le_of_ble_eq_true rfl⟩ (fun r_9 Φ11 sz9 st9 hp9 hs9 => ?_)
    obtain ⟨rfl, hq9, hI12, hF10⟩ := hp9
    subst sz9
    replace hs9 : st9 = [] := hs9
    subst st9
    replace hI12 : Im G x (rd, nw, cr, tp, tt, fl, pe, n_21, nx, il, i_3, kn, ec, nu, va, st, ep, ti, ad, ob, ra, rt, ex, sa, us, tk, th) Φ11 := hI12
    refine z_aload_n B dX12_sendPending_82 rfl 2 rfl ?_
    refine z_dup B dX12_sendPending_83 rfl ?_
    have h_20 : Φ11 x = some (o_ 14 [.int th, .ref (x + 1), .ref (x + 2), .int ti, .int ra, .int (nI rt), .int ex, .int ad, .ref (x + 3), .ref (x + 4), .int v_36, .long v_37, .ref (x + 5), .int (nI fl), .int v_38, .long ob, .long sa, .long v_39, .long us, .ref (x + 6), .ref (x + 7), .int (nI pe), .ref (x + 8), .int (nI n_21), .ref (x + 9), .ref (x + 10), .int (nI i_3), .ref (x + 11), .ref (x + 12), .ref (x + 13), .ref (x + 14), .ref (x + 15), .ref (x + 16), .int (nI n_23), .long v_40, .ref (x + 17), .ref (x + 18), .ref (x + 19), .ref (x + 20), .ref (x + 21), .ref (x + 22), .int (nI n_24), .ref (x + 23), .ref (x + 24), .int (nI tk), .ref (x + 25), .int (nI il), .int (nI nx), .int ec, .int ep, .int kn, .int (nI st), .int nu, .long va]) := ((hF10 x fq_959).trans h_19)
    refine z_get (ref := "FlowExporterModel") (C := RX12) (T := TX12) (N := 54) (ci := 14) (v := .int v_36) B hu_X12_sendPending_X12 rfl 10 (Nat.le_of_ble_eq_true rfl) hv_X12_sendPending_142 rfl h_20 rfl dX12_sendPending_84 ?_
    refine z_iconst (v := 1) B dX12_sendPending_87 rfl ?_
    refine z_iadd B dX12_sendPending_88 ?_
    refine z_fi (fun v_41 => ?_)
    refine z_put (ref := "FlowExporterModel") (C := RX12) (T := TX12) (N := 54) (ci := 14) (v := .int v_41) B hu_X12_sendPending_X12 tyX12 tyX12_ok nmX12 rfl 10 (Nat.le_of_ble_eq_true rfl) hv_X12_sendPending_142 rfl (Or.inl rfl) h_20 hx rfl rfl (Nat.le_of_ble_eq_true rfl) dX12_sendPending_89 (fun Φ12 hΦ3 => ?_)
    have h_21 : Φ12 x = some (o_ 14 [.int th, .ref (x + 1), .ref (x + 2), .int ti, .int ra, .int (nI rt), .int ex, .int ad, .ref (x + 3), .ref (x + 4), .int v_41, .long v_37, .ref (x + 5), .int (nI fl), .int v_38, .long ob, .long sa, .long v_39, .long us, .ref (x + 6), .ref (x + 7), .int (nI pe), .ref (x + 8), .int (nI n_21), .ref (x + 9), .ref (x + 10), .int (nI i_3), .ref (x + 11), .ref (x + 12), .ref (x + 13), .ref (x + 14), .ref (x + 15), .ref (x + 16), .int (nI n_23), .long v_40, .ref (x + 17), .ref (x + 18), .ref (x + 19), .ref (x + 20), .ref (x + 21), .ref (x + 22), .int (nI n_24), .ref (x + 23), .ref (x + 24), .int (nI tk), .ref (x + 25), .int (nI il), .int (nI nx), .int ec, .int ep, .int kn, .int (nI st), .int nu, .long va]) := fset_at hΦ3
    have hI13 : Im G x (rd, nw, cr, tp, tt, fl, pe, n_21, nx, il, i_3, kn, ec, nu, va, st, ep, ti, ad, ob, ra, rt, ex, sa, us, tk, th) Φ12 := Im.put0 hI12 hΦ3 ⟨v_41, v_37, v_38, v_39, n_23, v_40, n_24, rfl, b_114, b_102, b_103, b_104, b_105, b_106, b_107, b_108, b_109, b_110, b_111, b_112, b_113⟩
    refine z_aload_n B dX12_sendPending_92 rfl 2 rfl ?_
    refine z_dup B dX12_sendPending_93 rfl ?_
    refine z_get (ref := "FlowExporterModel") (C := RX12) (T := TX12) (N := 54) (ci := 14) (v := .long v_39) B hu_X12_sendPending_X12 rfl 17 (Nat.le_of_ble_eq_true rfl) hv_X12_sendPending_124 rfl h_21 rfl dX12_sendPending_94 ?_
    refine z_iload_n B dX12_sendPending_97 rfl 0 rfl ?_
    refine z_iload_n B dX12_sendPending_98 rfl 1 rfl ?_
    refine z_isub B dX12_sendPending_99 ?_
    refine z_top (st1 := [.int (nI (n_22 - i_1)), .long v_39, .ref x]) (congrArg (fun w9 : Int32 => ([.int w9, .long v_39, .ref x] : List Value)) (nI_sub (show i_1 ≤ n_22 by omega))) ?_
    refine z_i2l (v := (nI (n_22 - i_1)).toInt64) B dX12_sendPending_100 rfl ?_
    refine z_ladd B dX12_sendPending_101 ?_
    refine z_fl (fun v_42 => ?_)
    refine z_put (ref := "FlowExporterModel") (C := RX12) (T := TX12) (N := 54) (ci := 14) (v := .long v_42) B hu_X12_sendPending_X12 tyX12 tyX12_ok nmX12 rfl 17 (Nat.le_of_ble_eq_true rfl) hv_X12_sendPending_124 rfl (Or.inl rfl) h_21 hx rfl rfl (Nat.le_of_ble_eq_true rfl) dX12_sendPending_102 (fun Φ13 hΦ4 => ?_)
    have h_22 : Φ13 x = some (o_ 14 [.int th, .ref (x + 1), .ref (x + 2), .int ti, .int ra, .int (nI rt), .int ex, .int ad, .ref (x + 3), .ref (x + 4), .int v_41, .long v_37, .ref (x + 5), .int (nI fl), .int v_38, .long ob, .long sa, .long v_42, .long us, .ref (x + 6), .ref (x + 7), .int (nI pe), .ref (x + 8), .int (nI n_21), .ref (x + 9), .ref (x + 10), .int (nI i_3), .ref (x + 11), .ref (x + 12), .ref (x + 13), .ref (x + 14), .ref (x + 15), .ref (x + 16), .int (nI n_23), .long v_40, .ref (x + 17), .ref (x + 18), .ref (x + 19), .ref (x + 20), .ref (x + 21), .ref (x + 22), .int (nI n_24), .ref (x + 23), .ref (x + 24), .int (nI tk), .ref (x + 25), .int (nI il), .int (nI nx), .int ec, .int ep, .int kn, .int (nI st), .int nu, .long va]) := fset_at hΦ4
    have hI14 : Im G x (rd, nw, cr, tp, tt, fl, pe, n_21, nx, il, i_3, kn, ec, nu, va, st, ep, ti, ad, ob, ra, rt, ex, sa, us, tk, th) Φ13 := Im.put0 hI13 hΦ4 ⟨v_41, v_37, v_38, v_42, n_23, v_40, n_24, rfl, b_114, b_102, b_103, b_104, b_105, b_106, b_107, b_108, b_109, b_110, b_111, b_112, b_113⟩
    refine z_aload_n B dX12_sendPending_105 rfl 2 rfl ?_
    refine z_aload_n B dX12_sendPending_106 rfl 2 rfl ?_
    refine z_get (ref := "FlowExporterModel") (C := RX12) (T := TX12) (N := 54) (ci := 14) (v := .long v_37) B hu_X12_sendPending_X12 rfl 11 (Nat.le_of_ble_eq_true rfl) hv_X12_sendPending_201 rfl h_22 rfl dX12_sendPending_107 ?_
    refine z_iload_n B dX12_sendPending_110 rfl 0 rfl ?_
    refine z_i2l (v := (nI n_22).toInt64) B dX12_sendPending_111 rfl ?_
    refine z_ladd B dX12_sendPending_112 ?_
    refine z_fl (fun v_43 => ?_)
    refine z_iload_n B dX12_sendPending_113 rfl 1 rfl ?_
    refine z_i2l (v := (nI i_1).toInt64) B dX12_sendPending_114 rfl ?_
    refine z_lsub B dX12_sendPending_115 ?_
    refine z_fl (fun v_44 => ?_)
    refine z_ldc2 (v := 4294967295) B (by decide +kernel) dX12_sendPending_116 ?_
    refine z_land B dX12_sendPending_119 ?_
    refine z_fl (fun v_45 => ?_)
    refine z_put (ref := "FlowExporterModel") (C := RX12) (T := TX12) (N := 54) (ci := 14) (v := .long v_45) B hu_X12_sendPending_X12 tyX12 tyX12_ok nmX12 rfl 11 (Nat.le_of_ble_eq_true rfl) hv_X12_sendPending_201 rfl (Or.inl rfl) h_22 hx rfl rfl (Nat.le_of_ble_eq_true rfl) dX12_sendPending_120 (fun Φ14 hΦ5 => ?_)
    have h_23 : Φ14 x = some (o_ 14 [.int th, .ref (x + 1), .ref (x + 2), .int ti, .int ra, .int (nI rt), .int ex, .int ad, .ref (x + 3), .ref (x + 4), .int v_41, .long v_45, .ref (x + 5), .int (nI fl), .int v_38, .long ob, .long sa, .long v_42, .long us, .ref (x + 6), .ref (x + 7), .int (nI pe), .ref (x + 8), .int (nI n_21), .ref (x + 9), .ref (x + 10), .int (nI i_3), .ref (x + 11), .ref (x + 12), .ref (x + 13), .ref (x + 14), .ref (x + 15), .ref (x + 16), .int (nI n_23), .long v_40, .ref (x + 17), .ref (x + 18), .ref (x + 19), .ref (x + 20), .ref (x + 21), .ref (x + 22), .int (nI n_24), .ref (x + 23), .ref (x + 24), .int (nI tk), .ref (x + 25), .int (nI il), .int (nI nx), .int ec, .int ep, .int kn, .int (nI st), .int nu, .long va]) := fset_at hΦ5
    have hI15 : Im G x (rd, nw, cr, tp, tt, fl, pe, n_21, nx, il, i_3, kn, ec, nu, va, st, ep, ti, ad, ob, ra, rt, ex, sa, us, tk, th) Φ14 := Im.put0 hI14 hΦ5 ⟨v_41, v_45, v_38, v_42, n_23, v_40, n_24, rfl, b_114, b_102, b_103, b_104, b_105, b_106, b_107, b_108, b_109, b_110, b_111, b_112, b_113⟩
    refine z_iload_n B dX12_sendPending_123 rfl 0 rfl ?_
    refine z_istore_n (lv' := [(1, .int (nI n_22)), (2, .int (nI n_22)), (0, .ref x)]) B dX12_sendPending_124 rfl (Nat.le_of_ble_eq_true rfl) rfl ?_
    refine z_aload_n B dX12_sendPending_125 rfl 2 rfl ?_
    refine z_callV (As := []) (rest := []) B (r_enqueue G l Φ14 sz x rd nw cr tp tt fl pe n_21 nx il i_3 kn ec nu va st ep ti ad ob ra rt ex sa us tk th  hx hI15 (show n_21 ≤ 600 by omega) hnw) (cwV 0 B.1.2.2.2.2 gX12_sendPending_X12_enqueue rfl rfl rfl (by decide +kernel) ⟨Nat.le_of_ble_eq_true rfl, Nat.le_of_ble_eq_true rfl⟩) h_23 rfl rfl rfl rfl (Nat.le_of_ble_eq_true rfl) dX12_sendPending_126 ⟨Nat.le_of_ble_eq_true rfl, Nat.le_of_ble_eq_true rfl⟩ (fun r_10 Φ15 sz10 st10 hp10 hs10 => ?_)
    obtain ⟨rfl, hq10, ⟨n_25, hI16⟩, hF11⟩ := hp10
    subst sz10
    replace hs10 : st10 = [] := hs10
    subst st10
    replace hI16 : Im G x (rd, nw, cr, tp, tt, fl, pe, n_21, nx, il, n_25, kn, ec, nu, va, st, ep, ti, ad, ob, ra, rt, ex, sa, us, tk, th) Φ15 := hI16
    refine z_goto (tgt := 2) B dX12_sendPending_129 rfl ?_
    refine z_lv [0, 2] rfl ?_
    exact ih1 (n_22, n_21, n_25) Φ15 (show pe - n_22 < pe - i_1 by omega) ⟨hI16, (fun b9 h9 => ((hF11 b9 (fun j9 h8 h7 => h9 j9 h8 (fq_965 j9 h7))).trans ((fset_fr hΦ5 (fun h8 => h9 (0) h8 (show 0 = 0 ∨ 0 = 3 ∨ 0 = 4 ∨ 0 = 8 ∨ 0 = 9 ∨ 0 = 10 by decide))).trans ((fset_fr hΦ4 (fun h8 => h9 (0) h8 (show 0 = 0 ∨ 0 = 3 ∨ 0 = 4 ∨ 0 = 8 ∨ 0 = 9 ∨ 0 = 10 by decide))).trans ((fset_fr hΦ3 (fun h8 => h9 (0) h8 (show 0 = 0 ∨ 0 = 3 ∨ 0 = 4 ∨ 0 = 8 ∨ 0 = 9 ∨ 0 = 10 by decide))).trans ((hF10 b9 (fun j9 h8 h7 => h9 j9 h8 (fq_964 j9 h7))).trans ((hF9 b9 (fun j9 h8 h7 => h9 j9 h8 (fq_964 j9 h7))).trans ((hF8 b9 (fun j9 h8 h7 => h9 j9 h8 (fq_962 j9 h7))).trans ((hF7 b9 (fun j9 h8 h7 => h9 j9 h8 (fq_963 j9 h7))).trans ((hF6 b9 (fun j9 h8 h7 => h9 j9 h8 (fq_962 j9 h7))).trans ((hF5 b9 (fun j9 h8 h7 => h9 j9 h8 (fq_962 j9 h7))).trans ((hF4 b9 (fun j9 h8 h7 => h9 j9 h8 (fq_962 j9 h7))).trans ((hF3 b9 (fun j9 h8 h7 => h9 j9 h8 (fq_962 j9 h7))).trans ((hF2 b9 (fun j9 h8 h7 => h9 j9 h8 (fq_962 j9 h7))).trans ((fset_fr hΦ2 (fun h8 => h9 (0) h8 (show 0 = 0 ∨ 0 = 3 ∨ 0 = 4 ∨ 0 = 8 ∨ 0 = 9 ∨ 0 = 10 by decide))).trans ((hF1 b9 h9).trans rfl)))))))))))))))), (show n_22 ≤ pe by omega), trivial⟩

set_option maxRecDepth 20000 in
theorem ggX12_isPacket_X12_isByte : GoodIn wsX12_isPacket wsX12_isByte := (goodIn_r _ [5, 6, 7, 8, 4, 9] rfl (by decide +kernel))
set_option maxRecDepth 20000 in
theorem gX12_isPacket_X12_isByte : GoodIn wsX12_isPacket (va_wsS RX12 242 yX12_isByte wsX12_isByte) := goodIn_app (goodIn_m (mem_cA (List.mem_cons_of_mem _ (List.mem_of_getElem? (i := 1) rfl)) (mem_cA (List.mem_cons_of_mem _ (List.mem_of_getElem? (i := 2) rfl)) (mem_cA (List.mem_cons_of_mem _ (List.mem_of_getElem? (i := 3) rfl)) mem_cZ))) (by decide +kernel)) ggX12_isPacket_X12_isByte
set_option maxRecDepth 20000 in
theorem ggX12_isPacket_X12_inRange : GoodIn wsX12_isPacket wsX12_inRange := (goodIn_r _ [9] rfl (by decide +kernel))
set_option maxRecDepth 20000 in
theorem gX12_isPacket_X12_inRange : GoodIn wsX12_isPacket (va_wsS RX12 169 yX12_inRange wsX12_inRange) := goodIn_app (goodIn_m (mem_cA (List.mem_cons_of_mem _ (List.mem_of_getElem? (i := 6) rfl)) (mem_cA (List.mem_cons_of_mem _ (List.mem_of_getElem? (i := 7) rfl)) (mem_cA (List.mem_cons_of_mem _ (List.mem_of_getElem? (i := 3) rfl)) mem_cZ))) (by decide +kernel)) ggX12_isPacket_X12_inRange
theorem dX12_isPacket_0 : decode cX12_isPacket 0 = .ok (.iload_n 0, 1) := by decide +kernel
theorem dX12_isPacket_1 : decode cX12_isPacket 1 = .ok (.invokestatic 242, 3) := by decide +kernel
theorem dX12_isPacket_4 : decode cX12_isPacket 4 = .ok (.ifCond .eq 46, 3) := by decide +kernel
theorem dX12_isPacket_7 : decode cX12_isPacket 7 = .ok (.iload_n 1, 1) := by decide +kernel
theorem dX12_isPacket_8 : decode cX12_isPacket 8 = .ok (.invokestatic 242, 3) := by decide +kernel
theorem dX12_isPacket_11 : decode cX12_isPacket 11 = .ok (.ifCond .eq 39, 3) := by decide +kernel
theorem dX12_isPacket_14 : decode cX12_isPacket 14 = .ok (.iload_n 2, 1) := by decide +kernel
theorem dX12_isPacket_15 : decode cX12_isPacket 15 = .ok (.i2l, 1) := by decide +kernel
theorem dX12_isPacket_16 : decode cX12_isPacket 16 = .ok (.lconst 0, 1) := by decide +kernel
theorem dX12_isPacket_17 : decode cX12_isPacket 17 = .ok (.ldc2_w 245, 3) := by decide +kernel
theorem dX12_isPacket_20 : decode cX12_isPacket 20 = .ok (.invokestatic 169, 3) := by decide +kernel
theorem dX12_isPacket_23 : decode cX12_isPacket 23 = .ok (.ifCond .eq 27, 3) := by decide +kernel
theorem dX12_isPacket_26 : decode cX12_isPacket 26 = .ok (.iload_n 3, 1) := by decide +kernel
theorem dX12_isPacket_27 : decode cX12_isPacket 27 = .ok (.invokestatic 242, 3) := by decide +kernel
theorem dX12_isPacket_30 : decode cX12_isPacket 30 = .ok (.ifCond .eq 20, 3) := by decide +kernel
theorem dX12_isPacket_33 : decode cX12_isPacket 33 = .ok (.iload 4, 2) := by decide +kernel
theorem dX12_isPacket_35 : decode cX12_isPacket 35 = .ok (.i2l, 1) := by decide +kernel
theorem dX12_isPacket_36 : decode cX12_isPacket 36 = .ok (.lconst 1, 1) := by decide +kernel
theorem dX12_isPacket_37 : decode cX12_isPacket 37 = .ok (.ldc2_w 245, 3) := by decide +kernel
theorem dX12_isPacket_40 : decode cX12_isPacket 40 = .ok (.invokestatic 169, 3) := by decide +kernel
theorem dX12_isPacket_43 : decode cX12_isPacket 43 = .ok (.ifCond .eq 7, 3) := by decide +kernel
theorem dX12_isPacket_46 : decode cX12_isPacket 46 = .ok (.iconst 1, 1) := by decide +kernel
theorem dX12_isPacket_47 : decode cX12_isPacket 47 = .ok (.goto 4, 3) := by decide +kernel
theorem dX12_isPacket_50 : decode cX12_isPacket 50 = .ok (.iconst 0, 1) := by decide +kernel
theorem dX12_isPacket_51 : decode cX12_isPacket 51 = .ok (.ireturn, 1) := by decide +kernel
set_option maxRecDepth 20000 in
theorem ggX12_sendPending_X12_put : GoodIn wsX12_sendPending wsX12_put := goodIn_ca ((goodIn_ca (goodIn_r _ [13, 14, 2, 15] rfl (by decide +kernel)) (goodIn_sub (fun _ h => List.mem_cons_of_mem _ (List.mem_append_left _ (List.mem_append_right _ h))) gw_wsX120))) (goodIn_sub (fun _ h => List.mem_cons_of_mem _ (List.mem_append_right _ h)) (all_fg _))
set_option maxRecDepth 20000 in
theorem gX12_sendPending_X12_put : GoodIn wsX12_sendPending (wsV RX12 283 RX12 yX12_put wsX12_put) := goodIn_app (goodIn_m (mem_cA (List.mem_cons_of_mem _ (List.mem_append_left _ (List.mem_append_left _ (List.mem_append_left _ (List.mem_of_getElem? (i := 8) rfl))))) (mem_cA (List.mem_cons_of_mem _ (List.mem_append_left _ (List.mem_append_left _ (List.mem_append_left _ (List.mem_of_getElem? (i := 9) rfl))))) (mem_cA (List.mem_cons_of_mem _ (List.mem_append_left _ (List.mem_append_left _ (List.mem_append_left _ (List.mem_of_getElem? (i := 10) rfl))))) (mem_cA (List.mem_cons_of_mem _ (List.mem_append_left _ (List.mem_append_left _ (List.mem_append_left _ (List.mem_of_getElem? (i := 11) rfl))))) mem_cZ)))) (by decide +kernel)) ggX12_sendPending_X12_put
set_option maxRecDepth 20000 in
theorem ggX12_sendPending_X12_putTemplates : GoodIn wsX12_sendPending wsX12_putTemplates := goodIn_ca ((goodIn_ca (goodIn_r _ [19, 2, 20, 21, 22, 23, 24, 12, 25, 26, 6, 4, 27, 28, 29, 30, 31, 32, 33, 34, 35, 36, 37, 38, 39, 40, 41, 42, 43, 9, 10, 11, 13, 14, 15, 44, 45, 46, 47, 48, 49, 50, 51, 52, 53, 54, 55, 56, 57, 58, 59, 60, 61] rfl (by decide +kernel)) (goodIn_sub (fun _ h => List.mem_cons_of_mem _ (List.mem_append_left _ (List.mem_append_right _ h))) gw_wsX120))) (goodIn_sub (fun _ h => List.mem_cons_of_mem _ (List.mem_append_right _ h)) (all_fg _))
set_option maxRecDepth 20000 in
theorem gX12_sendPending_X12_putTemplates : GoodIn wsX12_sendPending (wsV RX12 300 RX12 yX12_putTemplates wsX12_putTemplates) := goodIn_app (goodIn_m (mem_cA (List.mem_cons_of_mem _ (List.mem_append_left _ (List.mem_append_left _ (List.mem_append_left _ (List.mem_of_getElem? (i := 15) rfl))))) (mem_cA (List.mem_cons_of_mem _ (List.mem_append_left _ (List.mem_append_left _ (List.mem_append_left _ (List.mem_of_getElem? (i := 16) rfl))))) (mem_cA (List.mem_cons_of_mem _ (List.mem_append_left _ (List.mem_append_left _ (List.mem_append_left _ (List.mem_of_getElem? (i := 17) rfl))))) (mem_cA (List.mem_cons_of_mem _ (List.mem_append_left _ (List.mem_append_left _ (List.mem_append_left _ (List.mem_of_getElem? (i := 11) rfl))))) mem_cZ)))) (by decide +kernel)) ggX12_sendPending_X12_putTemplates
set_option maxRecDepth 20000 in
theorem ggX12_sendPending_X12_putRecords : GoodIn wsX12_sendPending wsX12_putRecords := goodIn_ca ((goodIn_ca (goodIn_r _ [65, 1, 66, 2, 20, 67, 68, 69, 70, 12, 71, 28, 29, 30, 31, 32, 33, 34, 35, 36, 37, 38, 39, 40, 41, 42, 43, 55, 56, 57, 9, 10, 11, 13, 14, 15, 58, 59, 60, 61] rfl (by decide +kernel)) (goodIn_sub (fun _ h => List.mem_cons_of_mem _ (List.mem_append_left _ (List.mem_append_right _ h))) gw_wsX120))) (goodIn_sub (fun _ h => List.mem_cons_of_mem _ (List.mem_append_right _ h)) (all_fg _))
set_option maxRecDepth 20000 in
theorem gX12_sendPending_X12_putRecords : GoodIn wsX12_sendPending (wsV RX12 303 RX12 yX12_putRecords wsX12_putRecords) := goodIn_app (goodIn_m (mem_cA (List.mem_cons_of_mem _ (List.mem_append_left _ (List.mem_append_left _ (List.mem_append_right _ (List.mem_append_right _ (List.mem_append_left _ (List.mem_of_getElem? (i := 13) rfl))))))) (mem_cA (List.mem_cons_of_mem _ (List.mem_append_left _ (List.mem_append_left _ (List.mem_append_right _ (List.mem_append_right _ (List.mem_append_left _ (List.mem_of_getElem? (i := 14) rfl))))))) (mem_cA (List.mem_cons_of_mem _ (List.mem_append_left _ (List.mem_append_left _ (List.mem_append_right _ (List.mem_append_right _ (List.mem_append_left _ (List.mem_of_getElem? (i := 15) rfl))))))) (mem_cA (List.mem_cons_of_mem _ (List.mem_append_left _ (List.mem_append_left _ (List.mem_append_left _ (List.mem_of_getElem? (i := 11) rfl))))) mem_cZ)))) (by decide +kernel)) ggX12_sendPending_X12_putRecords
set_option maxRecDepth 20000 in
theorem ggX12_sendPending_X12_putAt : GoodIn wsX12_sendPending wsX12_putAt := goodIn_ca ((goodIn_ca (goodIn_r _ [61, 14] rfl (by decide +kernel)) (goodIn_sub (fun _ h => List.mem_cons_of_mem _ (List.mem_append_left _ (List.mem_append_right _ h))) gw_wsX120))) (goodIn_sub (fun _ h => List.mem_cons_of_mem _ (List.mem_append_right _ h)) (all_fg _))
set_option maxRecDepth 20000 in
theorem gX12_sendPending_X12_putAt : GoodIn wsX12_sendPending (wsV RX12 295 RX12 yX12_putAt wsX12_putAt) := goodIn_app (goodIn_m (mem_cA (List.mem_cons_of_mem _ (List.mem_append_left _ (List.mem_append_left _ (List.mem_append_right _ (List.mem_append_right _ (List.mem_append_left _ (List.mem_of_getElem? (i := 9) rfl))))))) (mem_cA (List.mem_cons_of_mem _ (List.mem_append_left _ (List.mem_append_left _ (List.mem_append_right _ (List.mem_append_right _ (List.mem_append_left _ (List.mem_of_getElem? (i := 10) rfl))))))) (mem_cA (List.mem_cons_of_mem _ (List.mem_append_left _ (List.mem_append_left _ (List.mem_append_right _ (List.mem_append_right _ (List.mem_append_left _ (List.mem_of_getElem? (i := 11) rfl))))))) (mem_cA (List.mem_cons_of_mem _ (List.mem_append_left _ (List.mem_append_left _ (List.mem_append_left _ (List.mem_of_getElem? (i := 11) rfl))))) mem_cZ)))) (by decide +kernel)) ggX12_sendPending_X12_putAt
set_option maxRecDepth 20000 in
theorem ggX12_sendPending_X12_enqueue : GoodIn wsX12_sendPending wsX12_enqueue := goodIn_ca ((goodIn_ca (goodIn_r _ [75, 76, 77, 2, 78, 14, 79] rfl (by decide +kernel)) (goodIn_sub (fun _ h => List.mem_cons_of_mem _ (List.mem_append_left _ (List.mem_append_right _ h))) gw_wsX120))) (goodIn_sub (fun _ h => List.mem_cons_of_mem _ (List.mem_append_right _ h)) (all_fg _))
set_option maxRecDepth 20000 in
theorem gX12_sendPending_X12_enqueue : GoodIn wsX12_sendPending (wsV RX12 308 RX12 yX12_enqueue wsX12_enqueue) := goodIn_app (goodIn_m (mem_cA (List.mem_cons_of_mem _ (List.mem_append_left _ (List.mem_append_left _ (List.mem_append_right _ (List.mem_append_right _ (List.mem_append_left _ (List.mem_of_getElem? (i := 23) rfl))))))) (mem_cA (List.mem_cons_of_mem _ (List.mem_append_left _ (List.mem_append_left _ (List.mem_append_right _ (List.mem_append_right _ (List.mem_append_right _ (List.mem_of_getElem? (i := 0) rfl))))))) (mem_cA (List.mem_cons_of_mem _ (List.mem_append_left _ (List.mem_append_left _ (List.mem_append_right _ (List.mem_append_right _ (List.mem_append_right _ (List.mem_of_getElem? (i := 1) rfl))))))) (mem_cA (List.mem_cons_of_mem _ (List.mem_append_left _ (List.mem_append_left _ (List.mem_append_left _ (List.mem_of_getElem? (i := 11) rfl))))) mem_cZ)))) (by decide +kernel)) ggX12_sendPending_X12_enqueue
theorem dX12_sendPending_0 : decode cX12_sendPending 0 = .ok (.iconst 0, 1) := by decide +kernel
theorem dX12_sendPending_1 : decode cX12_sendPending 1 = .ok (.istore_n 1, 1) := by decide +kernel
theorem dX12_sendPending_2 : decode cX12_sendPending 2 = .ok (.iload_n 1, 1) := by decide +kernel
theorem dX12_sendPending_3 : decode cX12_sendPending 3 = .ok (.aload_n 0, 1) := by decide +kernel
theorem dX12_sendPending_4 : decode cX12_sendPending 4 = .ok (.getfield 136, 3) := by decide +kernel
theorem dX12_sendPending_7 : decode cX12_sendPending 7 = .ok (.if_icmp .ge 125, 3) := by decide +kernel
theorem dX12_sendPending_10 : decode cX12_sendPending 10 = .ok (.aload_n 0, 1) := by decide +kernel
theorem dX12_sendPending_11 : decode cX12_sendPending 11 = .ok (.iconst 0, 1) := by decide +kernel
theorem dX12_sendPending_12 : decode cX12_sendPending 12 = .ok (.putfield 280, 3) := by decide +kernel
theorem dX12_sendPending_15 : decode cX12_sendPending 15 = .ok (.aload_n 0, 1) := by decide +kernel
theorem dX12_sendPending_16 : decode cX12_sendPending 16 = .ok (.ldc2_w 298, 3) := by decide +kernel
theorem dX12_sendPending_19 : decode cX12_sendPending 19 = .ok (.iconst 2, 1) := by decide +kernel
theorem dX12_sendPending_20 : decode cX12_sendPending 20 = .ok (.invokevirtual 283, 3) := by decide +kernel
theorem dX12_sendPending_23 : decode cX12_sendPending 23 = .ok (.aload_n 0, 1) := by decide +kernel
theorem dX12_sendPending_24 : decode cX12_sendPending 24 = .ok (.lconst 0, 1) := by decide +kernel
theorem dX12_sendPending_25 : decode cX12_sendPending 25 = .ok (.iconst 2, 1) := by decide +kernel
theorem dX12_sendPending_26 : decode cX12_sendPending 26 = .ok (.invokevirtual 283, 3) := by decide +kernel
theorem dX12_sendPending_29 : decode cX12_sendPending 29 = .ok (.aload_n 0, 1) := by decide +kernel
theorem dX12_sendPending_30 : decode cX12_sendPending 30 = .ok (.aload_n 0, 1) := by decide +kernel
theorem dX12_sendPending_31 : decode cX12_sendPending 31 = .ok (.getfield 101, 3) := by decide +kernel
theorem dX12_sendPending_34 : decode cX12_sendPending 34 = .ok (.i2l, 1) := by decide +kernel
theorem dX12_sendPending_35 : decode cX12_sendPending 35 = .ok (.iconst 4, 1) := by decide +kernel
theorem dX12_sendPending_36 : decode cX12_sendPending 36 = .ok (.invokevirtual 283, 3) := by decide +kernel
theorem dX12_sendPending_39 : decode cX12_sendPending 39 = .ok (.aload_n 0, 1) := by decide +kernel
theorem dX12_sendPending_40 : decode cX12_sendPending 40 = .ok (.aload_n 0, 1) := by decide +kernel
theorem dX12_sendPending_41 : decode cX12_sendPending 41 = .ok (.getfield 201, 3) := by decide +kernel
theorem dX12_sendPending_44 : decode cX12_sendPending 44 = .ok (.iconst 4, 1) := by decide +kernel
theorem dX12_sendPending_45 : decode cX12_sendPending 45 = .ok (.invokevirtual 283, 3) := by decide +kernel
theorem dX12_sendPending_48 : decode cX12_sendPending 48 = .ok (.aload_n 0, 1) := by decide +kernel
theorem dX12_sendPending_49 : decode cX12_sendPending 49 = .ok (.lconst 0, 1) := by decide +kernel
theorem dX12_sendPending_50 : decode cX12_sendPending 50 = .ok (.iconst 4, 1) := by decide +kernel
theorem dX12_sendPending_51 : decode cX12_sendPending 51 = .ok (.invokevirtual 283, 3) := by decide +kernel
theorem dX12_sendPending_54 : decode cX12_sendPending 54 = .ok (.aload_n 0, 1) := by decide +kernel
theorem dX12_sendPending_55 : decode cX12_sendPending 55 = .ok (.invokevirtual 300, 3) := by decide +kernel
theorem dX12_sendPending_58 : decode cX12_sendPending 58 = .ok (.aload_n 0, 1) := by decide +kernel
theorem dX12_sendPending_59 : decode cX12_sendPending 59 = .ok (.iload_n 1, 1) := by decide +kernel
theorem dX12_sendPending_60 : decode cX12_sendPending 60 = .ok (.invokevirtual 303, 3) := by decide +kernel
theorem dX12_sendPending_63 : decode cX12_sendPending 63 = .ok (.istore_n 2, 1) := by decide +kernel
theorem dX12_sendPending_64 : decode cX12_sendPending 64 = .ok (.aload_n 0, 1) := by decide +kernel
theorem dX12_sendPending_65 : decode cX12_sendPending 65 = .ok (.iconst 2, 1) := by decide +kernel
theorem dX12_sendPending_66 : decode cX12_sendPending 66 = .ok (.aload_n 0, 1) := by decide +kernel
theorem dX12_sendPending_67 : decode cX12_sendPending 67 = .ok (.getfield 280, 3) := by decide +kernel
theorem dX12_sendPending_70 : decode cX12_sendPending 70 = .ok (.invokevirtual 295, 3) := by decide +kernel
theorem dX12_sendPending_73 : decode cX12_sendPending 73 = .ok (.aload_n 0, 1) := by decide +kernel
theorem dX12_sendPending_74 : decode cX12_sendPending 74 = .ok (.bipush 14, 2) := by decide +kernel
theorem dX12_sendPending_76 : decode cX12_sendPending 76 = .ok (.iload_n 2, 1) := by decide +kernel
theorem dX12_sendPending_77 : decode cX12_sendPending 77 = .ok (.iload_n 1, 1) := by decide +kernel
theorem dX12_sendPending_78 : decode cX12_sendPending 78 = .ok (.isub, 1) := by decide +kernel
theorem dX12_sendPending_79 : decode cX12_sendPending 79 = .ok (.invokevirtual 295, 3) := by decide +kernel
theorem dX12_sendPending_82 : decode cX12_sendPending 82 = .ok (.aload_n 0, 1) := by decide +kernel
theorem dX12_sendPending_83 : decode cX12_sendPending 83 = .ok (.dup, 1) := by decide +kernel
theorem dX12_sendPending_84 : decode cX12_sendPending 84 = .ok (.getfield 142, 3) := by decide +kernel
theorem dX12_sendPending_87 : decode cX12_sendPending 87 = .ok (.iconst 1, 1) := by decide +kernel
theorem dX12_sendPending_88 : decode cX12_sendPending 88 = .ok (.iadd, 1) := by decide +kernel
theorem dX12_sendPending_89 : decode cX12_sendPending 89 = .ok (.putfield 142, 3) := by decide +kernel
theorem dX12_sendPending_92 : decode cX12_sendPending 92 = .ok (.aload_n 0, 1) := by decide +kernel
theorem dX12_sendPending_93 : decode cX12_sendPending 93 = .ok (.dup, 1) := by decide +kernel
theorem dX12_sendPending_94 : decode cX12_sendPending 94 = .ok (.getfield 124, 3) := by decide +kernel
theorem dX12_sendPending_97 : decode cX12_sendPending 97 = .ok (.iload_n 2, 1) := by decide +kernel
theorem dX12_sendPending_98 : decode cX12_sendPending 98 = .ok (.iload_n 1, 1) := by decide +kernel
theorem dX12_sendPending_99 : decode cX12_sendPending 99 = .ok (.isub, 1) := by decide +kernel
theorem dX12_sendPending_100 : decode cX12_sendPending 100 = .ok (.i2l, 1) := by decide +kernel
theorem dX12_sendPending_101 : decode cX12_sendPending 101 = .ok (.ladd, 1) := by decide +kernel
theorem dX12_sendPending_102 : decode cX12_sendPending 102 = .ok (.putfield 124, 3) := by decide +kernel
theorem dX12_sendPending_105 : decode cX12_sendPending 105 = .ok (.aload_n 0, 1) := by decide +kernel
theorem dX12_sendPending_106 : decode cX12_sendPending 106 = .ok (.aload_n 0, 1) := by decide +kernel
theorem dX12_sendPending_107 : decode cX12_sendPending 107 = .ok (.getfield 201, 3) := by decide +kernel
theorem dX12_sendPending_110 : decode cX12_sendPending 110 = .ok (.iload_n 2, 1) := by decide +kernel
theorem dX12_sendPending_111 : decode cX12_sendPending 111 = .ok (.i2l, 1) := by decide +kernel
theorem dX12_sendPending_112 : decode cX12_sendPending 112 = .ok (.ladd, 1) := by decide +kernel
theorem dX12_sendPending_113 : decode cX12_sendPending 113 = .ok (.iload_n 1, 1) := by decide +kernel
theorem dX12_sendPending_114 : decode cX12_sendPending 114 = .ok (.i2l, 1) := by decide +kernel
theorem dX12_sendPending_115 : decode cX12_sendPending 115 = .ok (.lsub, 1) := by decide +kernel
theorem dX12_sendPending_116 : decode cX12_sendPending 116 = .ok (.ldc2_w 306, 3) := by decide +kernel
theorem dX12_sendPending_119 : decode cX12_sendPending 119 = .ok (.land, 1) := by decide +kernel
theorem dX12_sendPending_120 : decode cX12_sendPending 120 = .ok (.putfield 201, 3) := by decide +kernel
theorem dX12_sendPending_123 : decode cX12_sendPending 123 = .ok (.iload_n 2, 1) := by decide +kernel
theorem dX12_sendPending_124 : decode cX12_sendPending 124 = .ok (.istore_n 1, 1) := by decide +kernel
theorem dX12_sendPending_125 : decode cX12_sendPending 125 = .ok (.aload_n 0, 1) := by decide +kernel
theorem dX12_sendPending_126 : decode cX12_sendPending 126 = .ok (.invokevirtual 308, 3) := by decide +kernel
theorem dX12_sendPending_129 : decode cX12_sendPending 129 = .ok (.goto (-127), 3) := by decide +kernel
theorem dX12_sendPending_132 : decode cX12_sendPending 132 = .ok (.aload_n 0, 1) := by decide +kernel
theorem dX12_sendPending_133 : decode cX12_sendPending 133 = .ok (.iconst 0, 1) := by decide +kernel
theorem dX12_sendPending_134 : decode cX12_sendPending 134 = .ok (.putfield 136, 3) := by decide +kernel
theorem dX12_sendPending_137 : decode cX12_sendPending 137 = .ok (.return_, 1) := by decide +kernel
set_option maxHeartbeats 4000000 in
set_option maxRecDepth 100000 in
theorem r_sendPending (G : EnvG) (l : Launch) (Φ : Hm) (sz x : Nat) (rd : (Nat → Int32) → Prop) (cr : (Nat → Int64) → Prop) (tp : (Nat → Int32) → Prop) (tt : (Nat → Int64) → Prop) (fl : Nat) (pe : Nat) (le : Nat) (nx : Nat) (il : Nat) (qu : Nat) (kn : Int32) (ec : Int32) (nu : Int32) (va : Int64) (st : Nat) (ep : Int32) (ti : Int32) (ad : Int32) (ob : Int64) (ra : Int32) (rt : Nat) (ex : Int32) (sa : Int64) (us : Int64) (tk : Nat) (th : Int32) (me : Int32) (dr : Int32) (se : Int64) (sn : Int64) (c : Cf) (fa : Nat → Int32) (fb : Nat → Int32) (P : Nat → Nat) (L : Nat → Nat) (sq : Int32) (hx : G.2.2.2 ≤ x) (hI : Im G x (rd, (NNq c), cr, tp, tt, (SiQ fa), (AtQ fb), (PtQ pe P), (QlQ qu L), fl, pe, le, nx, il, qu, kn, ec, nu, va, st, ep, ti, ad, ob, ra, rt, ex, sa, us, tk, th, me, dr, se, sn) Φ) (hcw : CfW c) (hg : CfG c) (hcr : CfR c) (hse : se = sq.toInt64 &&& 4294967295) : Ct G l yX12_sendPending wsX12_sendPending ({ frames := 5, cells := 0, slots := 0, locals := 117 }) 0 0 [.ref x] Φ sz (fun v Φ1 sz1 => (v = none) ∧ sz1 = sz ∧ (∃ (le1 : Nat) (qu1 : Nat) (fa1 : Nat → Int32) (fb1 : Nat → Int32) (L1 : Nat → Nat) (me1 : Int32) (dr1 : Int32) (se1 : Int64) (sn1 : Int64) (sq1 : Int32), (spS c ti P pe (fa, fb, me, sn, sq) (qu, L, dr) = ((fa1, fb1, me1, sn1, sq1), (qu1, L1, dr1))) ∧ (se1 = sq1.toInt64 &&& 4294967295) ∧ Im G x (rd, (NNq c), cr, tp, tt, (SiQ fa1), (AtQ fb1), (PtQ 0 P), (QlQ qu1 L1), fl, 0, le1, nx, il, qu1, kn, ec, nu, va, st, ep, ti, ad, ob, ra, rt, ex, sa, us, tk, th, me1, dr1, se1, sn1) Φ1) ∧ Fr x (fun j9 => j9 = 0 ∨ j9 = 3 ∨ j9 = 4 ∨ j9 = 8 ∨ j9 = 9 ∨ j9 = 10) Φ Φ1) := by
  refine Ct.of (cc := cX12_sendPending) (maxL := 3) (ret := none) (by decide) rfl (Nat.le_of_ble_eq_true rfl) ?_
  intro p9 e9 s9 m9 w9 t9 k9 B
  show Z p9 l e9 _ s9 m9 _ w9 t9 k9 _ G 3 0 [(0, .ref x)] [] Φ sz 0 0
  obtain ⟨f_1, h_1, r_1, r_2⟩ := imk (k := 6) hI
  replace r_2 : (PtQ pe P) f_1 := r_2
  replace r_1 : Rw 3 f_1 := r_1
  have h_2 : Φ (x + 6) = some (ai_ G 24 f_1) := h_1
  have hP9 : ∀ j9, j9 < pe → P j9 < 4 := fun j9 h9 => (r_2 j9 h9).2
  refine z_iconst (v := 0) B dX12_sendPending_0 rfl ?_
  refine z_istore_n (lv' := [(1, .int 0), (0, .ref x)]) B dX12_sendPending_1 rfl (Nat.le_of_ble_eq_true rfl) rfl ?_
  refine z_lv [0, 1] rfl ?_
  refine z_loop (α := Nat × Nat × Nat × Int32 × Int32 × Int64 × Int64 × (Nat → Int32) × (Nat → Int32) × (Nat → Nat) × Int32) (fun (a9 : Nat × Nat × Nat × Int32 × Int32 × Int64 × Int64 × (Nat → Int32) × (Nat → Int32) × (Nat → Nat) × Int32) Φi => Im G x (rd, (NNq c), cr, tp, tt, (SiQ a9.2.2.2.2.2.2.2.1), (AtQ a9.2.2.2.2.2.2.2.2.1), (PtQ pe P), (QlQ a9.2.2.1 a9.2.2.2.2.2.2.2.2.2.1), fl, pe, a9.2.1, nx, il, a9.2.2.1, kn, ec, nu, va, st, ep, ti, ad, ob, ra, rt, ex, sa, us, tk, th, a9.2.2.2.1, a9.2.2.2.2.1, a9.2.2.2.2.2.1, a9.2.2.2.2.2.2.1) Φi ∧ Fr x (fun j9 => j9 = 0 ∨ j9 = 3 ∨ j9 = 4 ∨ j9 = 8 ∨ j9 = 9 ∨ j9 = 10) Φ Φi ∧ (a9.1 ≤ pe) ∧ (spF c ti P pe a9.1 (a9.2.2.2.2.2.2.2.1, a9.2.2.2.2.2.2.2.2.1, a9.2.2.2.1, a9.2.2.2.2.2.2.1, a9.2.2.2.2.2.2.2.2.2.2) (a9.2.2.1, a9.2.2.2.2.2.2.2.2.2.1, a9.2.2.2.2.1) = spF c ti P pe 0 (fa, fb, me, sn, sq) (qu, L, dr)) ∧ (a9.2.2.2.2.2.1 = a9.2.2.2.2.2.2.2.2.2.2.toInt64 &&& 4294967295) ∧ True) (fun a9 => [(1, .int (nI (a9.1))), (0, .ref x)]) (fun a9 => pe - a9.1) ?_ (0, le, qu, me, dr, se, sn, fa, fb, L, sq) ⟨(Im.weak5 hI (fun _ q9 => q9) (fun _ q9 => q9) (fun _ q9 => q9) (fun _ q9 => q9) (fun _ q9 => q9) (fun _ q9 => q9) (fun _ q9 => q9) (fun _ q9 => q9) (fun _ q9 => q9)), fun _ _ => rfl, (show 0 ≤ pe by omega), rfl, hse, trivial⟩
  rintro ⟨i_1, i_2, i_3, i_4, i_5, i_6, i_7, i_8, i_9, i_10, i_11⟩ Φl1 ⟨hI1, hF1, b_1, b_2, b_3, -⟩ ih1
  replace hI1 : Im G x (rd, (NNq c), cr, tp, tt, (SiQ i_8), (AtQ i_9), (PtQ pe P), (QlQ i_3 i_10), fl, pe, i_2, nx, il, i_3, kn, ec, nu, va, st, ep, ti, ad, ob, ra, rt, ex, sa, us, tk, th, i_4, i_5, i_6, i_7) Φl1 := hI1
  replace b_1 : i_1 ≤ pe := b_1
  replace b_2 : spF c ti P pe i_1 (i_8, i_9, i_4, i_7, i_11) (i_3, i_10, i_5) = spF c ti P pe 0 (fa, fb, me, sn, sq) (qu, L, dr) := b_2
  replace b_3 : i_6 = i_11.toInt64 &&& 4294967295 := b_3
  show Z p9 l e9 _ s9 m9 _ w9 t9 k9 _ G 3 2 [(1, .int (nI i_1)), (0, .ref x)] [] Φl1 _ _ _
  refine z_iload_n B dX12_sendPending_2 rfl 0 rfl ?_
  refine z_aload_n B dX12_sendPending_3 rfl 1 rfl ?_
  obtain ⟨n_1, v_1, n_2, h_3, b_16, b_4, b_5, b_6, b_7, b_8, b_9, b_10, b_11, b_12, b_13, b_14, b_15⟩ := im0 hI1
  replace b_4 : 1 ≤ rt := b_4
  replace b_5 : rt ≤ 1024 := b_5
  replace b_6 : fl ≤ 12 := b_6
  replace b_7 : pe ≤ 24 := b_7
  replace b_8 : i_2 ≤ 700 := b_8
  replace b_9 : i_3 ≤ 12 := b_9
  replace b_10 : n_1 ≤ 8 := b_10
  replace b_11 : n_2 ≤ 24 := b_11
  replace b_12 : tk ≤ 24 := b_12
  replace b_13 : il ≤ 700 := b_13
  replace b_14 : nx ≤ 701 := b_14
  replace b_15 : st ≤ 701 := b_15
  have h_4 : Φl1 x = some (o_ 14 [.int th, .ref (x + 1), .ref (x + 2), .int ti, .int ra, .int (nI rt), .int ex, .int ad, .ref (x + 3), .ref (x + 4), .int i_4, .long i_6, .ref (x + 5), .int (nI fl), .int i_5, .long ob, .long sa, .long i_7, .long us, .ref (x + 6), .ref (x + 7), .int (nI pe), .ref (x + 8), .int (nI i_2), .ref (x + 9), .ref (x + 10), .int (nI i_3), .ref (x + 11), .ref (x + 12), .ref (x + 13), .ref (x + 14), .ref (x + 15), .ref (x + 16), .int (nI n_1), .long v_1, .ref (x + 17), .ref (x + 18), .ref (x + 19), .ref (x + 20), .ref (x + 21), .ref (x + 22), .int (nI n_2), .ref (x + 23), .ref (x + 24), .int (nI tk), .ref (x + 25), .int (nI il), .int (nI nx), .int ec, .int ep, .int kn, .int (nI st), .int nu, .long va]) := h_3
  refine z_get (ref := "FlowExporterModel") (C := RX12) (T := TX12) (N := 54) (ci := 14) (v := .int (nI pe)) B hu_X12_sendPending_X12 rfl 21 (Nat.le_of_ble_eq_true rfl) hv_X12_sendPending_136 rfl h_4 rfl dX12_sendPending_4 ?_
  refine z_icmp_ge (tgt := 132) B dX12_sendPending_7 rfl (fun c_1 => ?_) (fun c_1 => ?_)
  · have e_1 : pe ≤ i_1 := (nI_leI (a := pe) (b := i_1) (by omega) (by omega)).mp c_1
    refine z_aload_n B dX12_sendPending_132 rfl 1 rfl ?_
    refine z_iconst (v := 0) B dX12_sendPending_133 rfl ?_
    refine z_put (ref := "FlowExporterModel") (C := RX12) (T := TX12) (N := 54) (ci := 14) (v := .int 0) B hu_X12_sendPending_X12 tyX12 tyX12_ok nmX12 rfl 21 (Nat.le_of_ble_eq_true rfl) hv_X12_sendPending_136 rfl (Or.inl rfl) h_4 hx rfl rfl (Nat.le_of_ble_eq_true rfl) dX12_sendPending_134 (fun Φ1 hΦ1 => ?_)
    have h_5 : Φ1 x = some (o_ 14 [.int th, .ref (x + 1), .ref (x + 2), .int ti, .int ra, .int (nI rt), .int ex, .int ad, .ref (x + 3), .ref (x + 4), .int i_4, .long i_6, .ref (x + 5), .int (nI fl), .int i_5, .long ob, .long sa, .long i_7, .long us, .ref (x + 6), .ref (x + 7), .int 0, .ref (x + 8), .int (nI i_2), .ref (x + 9), .ref (x + 10), .int (nI i_3), .ref (x + 11), .ref (x + 12), .ref (x + 13), .ref (x + 14), .ref (x + 15), .ref (x + 16), .int (nI n_1), .long v_1, .ref (x + 17), .ref (x + 18), .ref (x + 19), .ref (x + 20), .ref (x + 21), .ref (x + 22), .int (nI n_2), .ref (x + 23), .ref (x + 24), .int (nI tk), .ref (x + 25), .int (nI il), .int (nI nx), .int ec, .int ep, .int kn, .int (nI st), .int nu, .long va]) := fset_at hΦ1
    have hI2 : Im G x (rd, (NNq c), cr, tp, tt, (SiQ i_8), (AtQ i_9), (PtQ pe P), (QlQ i_3 i_10), fl, 0, i_2, nx, il, i_3, kn, ec, nu, va, st, ep, ti, ad, ob, ra, rt, ex, sa, us, tk, th, i_4, i_5, i_6, i_7) Φ1 := Im.put0 hI1 hΦ1 ⟨n_1, v_1, n_2, rfl, b_16, b_4, b_5, b_6, (show 0 ≤ 24 by omega), b_8, b_9, b_10, b_11, b_12, b_13, b_14, b_15⟩
    have hI3 : Im G x (rd, (NNq c), cr, tp, tt, (SiQ i_8), (AtQ i_9), (PtQ 0 P), (QlQ i_3 i_10), fl, 0, i_2, nx, il, i_3, kn, ec, nu, va, st, ep, ti, ad, ob, ra, rt, ex, sa, us, tk, th, i_4, i_5, i_6, i_7) Φ1 := Im.weak5 hI2 (fun _ q9 => q9) (fun _ q9 => q9) (fun _ q9 => q9) (fun _ q9 => q9) (fun _ q9 => q9) (fun _ q9 => q9) (fun _ q9 => q9) (fun _ _ => PtQ.z) (fun _ q9 => q9)
    exact z_ret_v B dX12_sendPending_137 ⟨rfl, rfl, ⟨i_2, i_3, i_8, i_9, i_10, i_4, i_5, i_6, i_7, i_11, (spF_0.trans (b_2.symm.trans (spF_n (by omega)))), b_3, hI3⟩, (fun b9 h9 => ((fset_fr hΦ1 (fun h8 => h9 (0) h8 (show 0 = 0 ∨ 0 = 3 ∨ 0 = 4 ∨ 0 = 8 ∨ 0 = 9 ∨ 0 = 10 by decide))).trans ((hF1 b9 h9).trans rfl)))⟩
  · have e_2 : ¬ (pe ≤ i_1) := fun h9 => c_1 ((nI_leI (a := pe) (b := i_1) (by omega) (by omega)).mpr h9)
    refine z_aload_n B dX12_sendPending_10 rfl 1 rfl ?_
    refine z_iconst (v := 0) B dX12_sendPending_11 rfl ?_
    refine z_put (ref := "FlowExporterModel") (C := RX12) (T := TX12) (N := 54) (ci := 14) (v := .int 0) B hu_X12_sendPending_X12 tyX12 tyX12_ok nmX12 rfl 23 (Nat.le_of_ble_eq_true rfl) hv_X12_sendPending_280 rfl (Or.inl rfl) h_4 hx rfl rfl (Nat.le_of_ble_eq_true rfl) dX12_sendPending_12 (fun Φ2 hΦ2 => ?_)
    have h_6 : Φ2 x = some (o_ 14 [.int th, .ref (x + 1), .ref (x + 2), .int ti, .int ra, .int (nI rt), .int ex, .int ad, .ref (x + 3), .ref (x + 4), .int i_4, .long i_6, .ref (x + 5), .int (nI fl), .int i_5, .long ob, .long sa, .long i_7, .long us, .ref (x + 6), .ref (x + 7), .int (nI pe), .ref (x + 8), .int 0, .ref (x + 9), .ref (x + 10), .int (nI i_3), .ref (x + 11), .ref (x + 12), .ref (x + 13), .ref (x + 14), .ref (x + 15), .ref (x + 16), .int (nI n_1), .long v_1, .ref (x + 17), .ref (x + 18), .ref (x + 19), .ref (x + 20), .ref (x + 21), .ref (x + 22), .int (nI n_2), .ref (x + 23), .ref (x + 24), .int (nI tk), .ref (x + 25), .int (nI il), .int (nI nx), .int ec, .int ep, .int kn, .int (nI st), .int nu, .long va]) := fset_at hΦ2
    have hI4 : Im G x (rd, (NNq c), cr, tp, tt, (SiQ i_8), (AtQ i_9), (PtQ pe P), (QlQ i_3 i_10), fl, pe, 0, nx, il, i_3, kn, ec, nu, va, st, ep, ti, ad, ob, ra, rt, ex, sa, us, tk, th, i_4, i_5, i_6, i_7) Φ2 := Im.put0 hI1 hΦ2 ⟨n_1, v_1, n_2, rfl, b_16, b_4, b_5, b_6, b_7, (show 0 ≤ 700 by omega), b_9, b_10, b_11, b_12, b_13, b_14, b_15⟩
    refine z_aload_n B dX12_sendPending_15 rfl 1 rfl ?_
    refine z_ldc2 (v := 10) B (by decide +kernel) dX12_sendPending_16 ?_
    refine z_iconst (v := 2) B dX12_sendPending_19 rfl ?_
    refine z_callV (As := [.long 10, .int 2]) (rest := []) B (r_put G l Φ2 sz x rd (NNq c) cr tp tt (SiQ i_8) (AtQ i_9) (PtQ pe P) (QlQ i_3 i_10) fl pe 0 nx il i_3 kn ec nu va st ep ti ad ob ra rt ex sa us tk th i_4 i_5 i_6 i_7 10 2 hx hI4 (show 2 ≤ 8 by omega) (show 0 + 2 ≤ 700 by omega) (fun f9 h9 => h9.1)) (cwV 2 B.1.2.2.2.2 gX12_sendPending_X12_put rfl rfl rfl (by decide +kernel) ⟨Nat.le_of_ble_eq_true rfl, Nat.le_of_ble_eq_true rfl⟩) h_6 rfl rfl rfl rfl (Nat.le_of_ble_eq_true rfl) dX12_sendPending_20 ⟨Nat.le_of_ble_eq_true rfl, Nat.le_of_ble_eq_true rfl⟩ (fun r_3 Φ3 sz1 st1 hp1 hs1 => ?_)
    obtain ⟨rfl, hq1, ⟨n_3, b_17, hI5⟩, hF2⟩ := hp1
    subst sz1
    replace hs1 : st1 = [] := hs1
    subst st1
    replace hI5 : Im G x (rd, (NNq c), cr, tp, tt, (SiQ i_8), (AtQ i_9), (PtQ pe P), (QlQ i_3 i_10), fl, pe, n_3, nx, il, i_3, kn, ec, nu, va, st, ep, ti, ad, ob, ra, rt, ex, sa, us, tk, th, i_4, i_5, i_6, i_7) Φ3 := hI5
    replace b_17 : n_3 = 0 + 2 := b_17
    refine z_aload_n B dX12_sendPending_23 rfl 1 rfl ?_
    refine z_lconst (v := 0) B dX12_sendPending_24 rfl ?_
    refine z_iconst (v := 2) B dX12_sendPending_25 rfl ?_
    obtain ⟨n_4, v_2, n_5, h_7, b_30, b_18, b_19, b_20, b_21, b_22, b_23, b_24, b_25, b_26, b_27, b_28, b_29⟩ := im0 hI5
    replace b_18 : 1 ≤ rt := b_18
    replace b_19 : rt ≤ 1024 := b_19
    replace b_20 : fl ≤ 12 := b_20
    replace b_21 : pe ≤ 24 := b_21
    replace b_22 : n_3 ≤ 700 := b_22
    replace b_23 : i_3 ≤ 12 := b_23
    replace b_24 : n_4 ≤ 8 := b_24
    replace b_25 : n_5 ≤ 24 := b_25
    replace b_26 : tk ≤ 24 := b_26
    replace b_27 : il ≤ 700 := b_27
    replace b_28 : nx ≤ 701 := b_28
    replace b_29 : st ≤ 701 := b_29
    have h_8 : Φ3 x = some (o_ 14 [.int th, .ref (x + 1), .ref (x + 2), .int ti, .int ra, .int (nI rt), .int ex, .int ad, .ref (x + 3), .ref (x + 4), .int i_4, .long i_6, .ref (x + 5), .int (nI fl), .int i_5, .long ob, .long sa, .long i_7, .long us, .ref (x + 6), .ref (x + 7), .int (nI pe), .ref (x + 8), .int (nI n_3), .ref (x + 9), .ref (x + 10), .int (nI i_3), .ref (x + 11), .ref (x + 12), .ref (x + 13), .ref (x + 14), .ref (x + 15), .ref (x + 16), .int (nI n_4), .long v_2, .ref (x + 17), .ref (x + 18), .ref (x + 19), .ref (x + 20), .ref (x + 21), .ref (x + 22), .int (nI n_5), .ref (x + 23), .ref (x + 24), .int (nI tk), .ref (x + 25), .int (nI il), .int (nI nx), .int ec, .int ep, .int kn, .int (nI st), .int nu, .long va]) := h_7
    refine z_callV (As := [.long 0, .int 2]) (rest := []) B (r_put G l Φ3 sz x rd (NNq c) cr tp tt (SiQ i_8) (AtQ i_9) (PtQ pe P) (QlQ i_3 i_10) fl pe n_3 nx il i_3 kn ec nu va st ep ti ad ob ra rt ex sa us tk th i_4 i_5 i_6 i_7 0 2 hx hI5 (show 2 ≤ 8 by omega) (show n_3 + 2 ≤ 700 by omega) (fun f9 h9 => h9.1)) (cwV 2 B.1.2.2.2.2 gX12_sendPending_X12_put rfl rfl rfl (by decide +kernel) ⟨Nat.le_of_ble_eq_true rfl, Nat.le_of_ble_eq_true rfl⟩) h_8 rfl rfl rfl rfl (Nat.le_of_ble_eq_true rfl) dX12_sendPending_26 ⟨Nat.le_of_ble_eq_true rfl, Nat.le_of_ble_eq_true rfl⟩ (fun r_4 Φ4 sz2 st2 hp2 hs2 => ?_)
    obtain ⟨rfl, hq2, ⟨n_6, b_31, hI6⟩, hF3⟩ := hp2
    subst sz2
    replace hs2 : st2 = [] := hs2
    subst st2
    replace hI6 : Im G x (rd, (NNq c), cr, tp, tt, (SiQ i_8), (AtQ i_9), (PtQ pe P), (QlQ i_3 i_10), fl, pe, n_6, nx, il, i_3, kn, ec, nu, va, st, ep, ti, ad, ob, ra, rt, ex, sa, us, tk, th, i_4, i_5, i_6, i_7) Φ4 := hI6
    replace b_31 : n_6 = n_3 + 2 := b_31
    refine z_aload_n B dX12_sendPending_29 rfl 1 rfl ?_
    refine z_aload_n B dX12_sendPending_30 rfl 1 rfl ?_
    obtain ⟨n_7, v_3, n_8, h_9, b_44, b_32, b_33, b_34, b_35, b_36, b_37, b_38, b_39, b_40, b_41, b_42, b_43⟩ := im0 hI6
    replace b_32 : 1 ≤ rt := b_32
    replace b_33 : rt ≤ 1024 := b_33
    replace b_34 : fl ≤ 12 := b_34
    replace b_35 : pe ≤ 24 := b_35
    replace b_36 : n_6 ≤ 700 := b_36
    replace b_37 : i_3 ≤ 12 := b_37
    replace b_38 : n_7 ≤ 8 := b_38
    replace b_39 : n_8 ≤ 24 := b_39
    replace b_40 : tk ≤ 24 := b_40
    replace b_41 : il ≤ 700 := b_41
    replace b_42 : nx ≤ 701 := b_42
    replace b_43 : st ≤ 701 := b_43
    have h_10 : Φ4 x = some (o_ 14 [.int th, .ref (x + 1), .ref (x + 2), .int ti, .int ra, .int (nI rt), .int ex, .int ad, .ref (x + 3), .ref (x + 4), .int i_4, .long i_6, .ref (x + 5), .int (nI fl), .int i_5, .long ob, .long sa, .long i_7, .long us, .ref (x + 6), .ref (x + 7), .int (nI pe), .ref (x + 8), .int (nI n_6), .ref (x + 9), .ref (x + 10), .int (nI i_3), .ref (x + 11), .ref (x + 12), .ref (x + 13), .ref (x + 14), .ref (x + 15), .ref (x + 16), .int (nI n_7), .long v_3, .ref (x + 17), .ref (x + 18), .ref (x + 19), .ref (x + 20), .ref (x + 21), .ref (x + 22), .int (nI n_8), .ref (x + 23), .ref (x + 24), .int (nI tk), .ref (x + 25), .int (nI il), .int (nI nx), .int ec, .int ep, .int kn, .int (nI st), .int nu, .long va]) := h_9
    refine z_get (ref := "FlowExporterModel") (C := RX12) (T := TX12) (N := 54) (ci := 14) (v := .int ti) B hu_X12_sendPending_X12 rfl 3 (Nat.le_of_ble_eq_true rfl) hv_X12_sendPending_101 rfl h_10 rfl dX12_sendPending_31 ?_
    refine z_i2l (v := ti.toInt64) B dX12_sendPending_34 rfl ?_
    refine z_iconst (v := 4) B dX12_sendPending_35 rfl ?_
    refine z_callV (As := [.long ti.toInt64, .int 4]) (rest := []) B (r_put G l Φ4 sz x rd (NNq c) cr tp tt (SiQ i_8) (AtQ i_9) (PtQ pe P) (QlQ i_3 i_10) fl pe n_6 nx il i_3 kn ec nu va st ep ti ad ob ra rt ex sa us tk th i_4 i_5 i_6 i_7 ti.toInt64 4 hx hI6 (show 4 ≤ 8 by omega) (show n_6 + 4 ≤ 700 by omega) (fun f9 h9 => h9.1)) (cwV 2 B.1.2.2.2.2 gX12_sendPending_X12_put rfl rfl rfl (by decide +kernel) ⟨Nat.le_of_ble_eq_true rfl, Nat.le_of_ble_eq_true rfl⟩) h_10 rfl rfl rfl rfl (Nat.le_of_ble_eq_true rfl) dX12_sendPending_36 ⟨Nat.le_of_ble_eq_true rfl, Nat.le_of_ble_eq_true rfl⟩ (fun r_5 Φ5 sz3 st3 hp3 hs3 => ?_)
    obtain ⟨rfl, hq3, ⟨n_9, b_45, hI7⟩, hF4⟩ := hp3
    subst sz3
    replace hs3 : st3 = [] := hs3
    subst st3
    replace hI7 : Im G x (rd, (NNq c), cr, tp, tt, (SiQ i_8), (AtQ i_9), (PtQ pe P), (QlQ i_3 i_10), fl, pe, n_9, nx, il, i_3, kn, ec, nu, va, st, ep, ti, ad, ob, ra, rt, ex, sa, us, tk, th, i_4, i_5, i_6, i_7) Φ5 := hI7
    replace b_45 : n_9 = n_6 + 4 := b_45
    refine z_aload_n B dX12_sendPending_39 rfl 1 rfl ?_
    refine z_aload_n B dX12_sendPending_40 rfl 1 rfl ?_
    obtain ⟨n_10, v_4, n_11, h_11, b_58, b_46, b_47, b_48, b_49, b_50, b_51, b_52, b_53, b_54, b_55, b_56, b_57⟩ := im0 hI7
    replace b_46 : 1 ≤ rt := b_46
    replace b_47 : rt ≤ 1024 := b_47
    replace b_48 : fl ≤ 12 := b_48
    replace b_49 : pe ≤ 24 := b_49
    replace b_50 : n_9 ≤ 700 := b_50
    replace b_51 : i_3 ≤ 12 := b_51
    replace b_52 : n_10 ≤ 8 := b_52
    replace b_53 : n_11 ≤ 24 := b_53
    replace b_54 : tk ≤ 24 := b_54
    replace b_55 : il ≤ 700 := b_55
    replace b_56 : nx ≤ 701 := b_56
    replace b_57 : st ≤ 701 := b_57
    have h_12 : Φ5 x = some (o_ 14 [.int th, .ref (x + 1), .ref (x + 2), .int ti, .int ra, .int (nI rt), .int ex, .int ad, .ref (x + 3), .ref (x + 4), .int i_4, .long i_6, .ref (x + 5), .int (nI fl), .int i_5, .long ob, .long sa, .long i_7, .long us, .ref (x + 6), .ref (x + 7), .int (nI pe), .ref (x + 8), .int (nI n_9), .ref (x + 9), .ref (x + 10), .int (nI i_3), .ref (x + 11), .ref (x + 12), .ref (x + 13), .ref (x + 14), .ref (x + 15), .ref (x + 16), .int (nI n_10), .long v_4, .ref (x + 17), .ref (x + 18), .ref (x + 19), .ref (x + 20), .ref (x + 21), .ref (x + 22), .int (nI n_11), .ref (x + 23), .ref (x + 24), .int (nI tk), .ref (x + 25), .int (nI il), .int (nI nx), .int ec, .int ep, .int kn, .int (nI st), .int nu, .long va]) := h_11
    refine z_get (ref := "FlowExporterModel") (C := RX12) (T := TX12) (N := 54) (ci := 14) (v := .long i_6) B hu_X12_sendPending_X12 rfl 11 (Nat.le_of_ble_eq_true rfl) hv_X12_sendPending_201 rfl h_12 rfl dX12_sendPending_41 ?_
    refine z_iconst (v := 4) B dX12_sendPending_44 rfl ?_
    refine z_callV (As := [.long i_6, .int 4]) (rest := []) B (r_put G l Φ5 sz x rd (NNq c) cr tp tt (SiQ i_8) (AtQ i_9) (PtQ pe P) (QlQ i_3 i_10) fl pe n_9 nx il i_3 kn ec nu va st ep ti ad ob ra rt ex sa us tk th i_4 i_5 i_6 i_7 i_6 4 hx hI7 (show 4 ≤ 8 by omega) (show n_9 + 4 ≤ 700 by omega) (fun f9 h9 => h9.1)) (cwV 2 B.1.2.2.2.2 gX12_sendPending_X12_put rfl rfl rfl (by decide +kernel) ⟨Nat.le_of_ble_eq_true rfl, Nat.le_of_ble_eq_true rfl⟩) h_12 rfl rfl rfl rfl (Nat.le_of_ble_eq_true rfl) dX12_sendPending_45 ⟨Nat.le_of_ble_eq_true rfl, Nat.le_of_ble_eq_true rfl⟩ (fun r_6 Φ6 sz4 st4 hp4 hs4 => ?_)
    obtain ⟨rfl, hq4, ⟨n_12, b_59, hI8⟩, hF5⟩ := hp4
    subst sz4
    replace hs4 : st4 = [] := hs4
    subst st4
    replace hI8 : Im G x (rd, (NNq c), cr, tp, tt, (SiQ i_8), (AtQ i_9), (PtQ pe P), (QlQ i_3 i_10), fl, pe, n_12, nx, il, i_3, kn, ec, nu, va, st, ep, ti, ad, ob, ra, rt, ex, sa, us, tk, th, i_4, i_5, i_6, i_7) Φ6 := hI8
    replace b_59 : n_12 = n_9 + 4 := b_59
    refine z_aload_n B dX12_sendPending_48 rfl 1 rfl ?_
    refine z_lconst (v := 0) B dX12_sendPending_49 rfl ?_
    refine z_iconst (v := 4) B dX12_sendPending_50 rfl ?_
    obtain ⟨n_13, v_5, n_14, h_13, b_72, b_60, b_61, b_62, b_63, b_64, b_65, b_66, b_67, b_68, b_69, b_70, b_71⟩ := im0 hI8
    replace b_60 : 1 ≤ rt := b_60
    replace b_61 : rt ≤ 1024 := b_61
    replace b_62 : fl ≤ 12 := b_62
    replace b_63 : pe ≤ 24 := b_63
    replace b_64 : n_12 ≤ 700 := b_64
    replace b_65 : i_3 ≤ 12 := b_65
    replace b_66 : n_13 ≤ 8 := b_66
    replace b_67 : n_14 ≤ 24 := b_67
    replace b_68 : tk ≤ 24 := b_68
    replace b_69 : il ≤ 700 := b_69
    replace b_70 : nx ≤ 701 := b_70
    replace b_71 : st ≤ 701 := b_71
    have h_14 : Φ6 x = some (o_ 14 [.int th, .ref (x + 1), .ref (x + 2), .int ti, .int ra, .int (nI rt), .int ex, .int ad, .ref (x + 3), .ref (x + 4), .int i_4, .long i_6, .ref (x + 5), .int (nI fl), .int i_5, .long ob, .long sa, .long i_7, .long us, .ref (x + 6), .ref (x + 7), .int (nI pe), .ref (x + 8), .int (nI n_12), .ref (x + 9), .ref (x + 10), .int (nI i_3), .ref (x + 11), .ref (x + 12), .ref (x + 13), .ref (x + 14), .ref (x + 15), .ref (x + 16), .int (nI n_13), .long v_5, .ref (x + 17), .ref (x + 18), .ref (x + 19), .ref (x + 20), .ref (x + 21), .ref (x + 22), .int (nI n_14), .ref (x + 23), .ref (x + 24), .int (nI tk), .ref (x + 25), .int (nI il), .int (nI nx), .int ec, .int ep, .int kn, .int (nI st), .int nu, .long va]) := h_13
    refine z_callV (As := [.long 0, .int 4]) (rest := []) B (r_put G l Φ6 sz x rd (NNq c) cr tp tt (SiQ i_8) (AtQ i_9) (PtQ pe P) (QlQ i_3 i_10) fl pe n_12 nx il i_3 kn ec nu va st ep ti ad ob ra rt ex sa us tk th i_4 i_5 i_6 i_7 0 4 hx hI8 (show 4 ≤ 8 by omega) (show n_12 + 4 ≤ 700 by omega) (fun f9 h9 => h9.1)) (cwV 2 B.1.2.2.2.2 gX12_sendPending_X12_put rfl rfl rfl (by decide +kernel) ⟨Nat.le_of_ble_eq_true rfl, Nat.le_of_ble_eq_true rfl⟩) h_14 rfl rfl rfl rfl (Nat.le_of_ble_eq_true rfl) dX12_sendPending_51 ⟨Nat.le_of_ble_eq_true rfl, Nat.le_of_ble_eq_true rfl⟩ (fun r_7 Φ7 sz5 st5 hp5 hs5 => ?_)
    obtain ⟨rfl, hq5, ⟨n_15, b_73, hI9⟩, hF6⟩ := hp5
    subst sz5
    replace hs5 : st5 = [] := hs5
    subst st5
    replace hI9 : Im G x (rd, (NNq c), cr, tp, tt, (SiQ i_8), (AtQ i_9), (PtQ pe P), (QlQ i_3 i_10), fl, pe, n_15, nx, il, i_3, kn, ec, nu, va, st, ep, ti, ad, ob, ra, rt, ex, sa, us, tk, th, i_4, i_5, i_6, i_7) Φ7 := hI9
    replace b_73 : n_15 = n_12 + 4 := b_73
    refine z_aload_n B dX12_sendPending_54 rfl 1 rfl ?_
    obtain ⟨n_16, v_6, n_17, h_15, b_86, b_74, b_75, b_76, b_77, b_78, b_79, b_80, b_81, b_82, b_83, b_84, b_85⟩ := im0 hI9
    replace b_74 : 1 ≤ rt := b_74
    replace b_75 : rt ≤ 1024 := b_75
    replace b_76 : fl ≤ 12 := b_76
    replace b_77 : pe ≤ 24 := b_77
    replace b_78 : n_15 ≤ 700 := b_78
    replace b_79 : i_3 ≤ 12 := b_79
    replace b_80 : n_16 ≤ 8 := b_80
    replace b_81 : n_17 ≤ 24 := b_81
    replace b_82 : tk ≤ 24 := b_82
    replace b_83 : il ≤ 700 := b_83
    replace b_84 : nx ≤ 701 := b_84
    replace b_85 : st ≤ 701 := b_85
    have h_16 : Φ7 x = some (o_ 14 [.int th, .ref (x + 1), .ref (x + 2), .int ti, .int ra, .int (nI rt), .int ex, .int ad, .ref (x + 3), .ref (x + 4), .int i_4, .long i_6, .ref (x + 5), .int (nI fl), .int i_5, .long ob, .long sa, .long i_7, .long us, .ref (x + 6), .ref (x + 7), .int (nI pe), .ref (x + 8), .int (nI n_15), .ref (x + 9), .ref (x + 10), .int (nI i_3), .ref (x + 11), .ref (x + 12), .ref (x + 13), .ref (x + 14), .ref (x + 15), .ref (x + 16), .int (nI n_16), .long v_6, .ref (x + 17), .ref (x + 18), .ref (x + 19), .ref (x + 20), .ref (x + 21), .ref (x + 22), .int (nI n_17), .ref (x + 23), .ref (x + 24), .int (nI tk), .ref (x + 25), .int (nI il), .int (nI nx), .int ec, .int ep, .int kn, .int (nI st), .int nu, .long va]) := h_15
    refine z_callV (As := []) (rest := []) B (r_putTemplates G l Φ7 sz x rd cr tp tt (PtQ pe P) (QlQ i_3 i_10) fl pe n_15 nx il i_3 kn ec nu va st ep ti ad ob ra rt ex sa us tk th i_4 i_5 i_6 i_7 c i_8 i_9 hx hI9 (show n_15 = 16 by omega) hcw hg) (cwV 0 B.1.2.2.2.2 gX12_sendPending_X12_putTemplates rfl rfl rfl (by decide +kernel) ⟨Nat.le_of_ble_eq_true rfl, Nat.le_of_ble_eq_true rfl⟩) h_16 rfl rfl rfl rfl (Nat.le_of_ble_eq_true rfl) dX12_sendPending_55 ⟨Nat.le_of_ble_eq_true rfl, Nat.le_of_ble_eq_true rfl⟩ (fun r_8 Φ8 sz6 st6 hp6 hs6 => ?_)
    obtain ⟨rfl, hq6, ⟨n_18, v_7, v_8, b_87, b_88, b_89, b_90, hI10⟩, hF7⟩ := hp6
    subst sz6
    replace hs6 : st6 = [] := hs6
    subst st6
    replace hI10 : Im G x (rd, (NNq c), cr, tp, tt, SiQ v_7, AtQ v_8, (PtQ pe P), (QlQ i_3 i_10), fl, pe, n_18, nx, il, i_3, kn, ec, nu, va, st, ep, ti, ad, ob, ra, rt, ex, sa, us, tk, th, i_4, i_5, i_6, i_7) Φ8 := hI10
    replace b_87 : n_15 ≤ n_18 := b_87
    replace b_88 : n_18 ≤ n_15 + 164 := b_88
    replace b_89 : ∀ (rs9 : Int64) (sq9 : Int32), bgS c ti (i_8, i_9, i_4, rs9, sq9) = (n_18, v_7, v_8, i_4, rs9, sq9) := b_89
    replace b_90 : 16 ≤ n_18 ∧ n_18 ≤ 180 := b_90
    refine z_aload_n B dX12_sendPending_58 rfl 1 rfl ?_
    refine z_iload_n B dX12_sendPending_59 rfl 0 rfl ?_
    obtain ⟨n_19, v_9, n_20, h_17, b_103, b_91, b_92, b_93, b_94, b_95, b_96, b_97, b_98, b_99, b_100, b_101, b_102⟩ := im0 hI10
    replace b_91 : 1 ≤ rt := b_91
    replace b_92 : rt ≤ 1024 := b_92
    replace b_93 : fl ≤ 12 := b_93
    replace b_94 : pe ≤ 24 := b_94
    replace b_95 : n_18 ≤ 700 := b_95
    replace b_96 : i_3 ≤ 12 := b_96
    replace b_97 : n_19 ≤ 8 := b_97
    replace b_98 : n_20 ≤ 24 := b_98
    replace b_99 : tk ≤ 24 := b_99
    replace b_100 : il ≤ 700 := b_100
    replace b_101 : nx ≤ 701 := b_101
    replace b_102 : st ≤ 701 := b_102
    have h_18 : Φ8 x = some (o_ 14 [.int th, .ref (x + 1), .ref (x + 2), .int ti, .int ra, .int (nI rt), .int ex, .int ad, .ref (x + 3), .ref (x + 4), .int i_4, .long i_6, .ref (x + 5), .int (nI fl), .int i_5, .long ob, .long sa, .long i_7, .long us, .ref (x + 6), .ref (x + 7), .int (nI pe), .ref (x + 8), .int (nI n_18), .ref (x + 9), .ref (x + 10), .int (nI i_3), .ref (x + 11), .ref (x + 12), .ref (x + 13), .ref (x + 14), .ref (x + 15), .ref (x + 16), .int (nI n_19), .long v_9, .ref (x + 17), .ref (x + 18), .ref (x + 19), .ref (x + 20), .ref (x + 21), .ref (x + 22), .int (nI n_20), .ref (x + 23), .ref (x + 24), .int (nI tk), .ref (x + 25), .int (nI il), .int (nI nx), .int ec, .int ep, .int kn, .int (nI st), .int nu, .long va]) := h_17
    refine z_callV (As := [.int (nI i_1)]) (rest := []) B (r_putRecords G l Φ8 sz x rd cr tp tt (SiQ v_7) (AtQ v_8) (QlQ i_3 i_10) fl pe n_18 nx il i_3 kn ec nu va st ep ti ad ob ra rt ex sa us tk th i_4 i_5 i_6 i_7 c P i_1 hx hI10 (show i_1 < pe by omega) (show n_18 ≤ 180 by omega) hcr) (cwV 1 B.1.2.2.2.2 gX12_sendPending_X12_putRecords rfl rfl rfl (by decide +kernel) ⟨Nat.le_of_ble_eq_true rfl, Nat.le_of_ble_eq_true rfl⟩) h_18 rfl rfl rfl rfl (Nat.le_of_ble_eq_true rfl) dX12_sendPending_60 ⟨Nat.le_of_ble_eq_true rfl, Nat.le_of_ble_eq_true rfl⟩ (fun r_9 Φ9 sz7 st7 hp7 hs7 => ?_)
    obtain ⟨⟨v_10, rfl⟩, hq7, ⟨n_21, n_22, b_104, b_105, b_106, b_107, hI11⟩, hF8⟩ := hp7
    subst sz7
    replace hs7 : st7 = [.int v_10] := hs7
    subst st7
    replace hI11 : Im G x (rd, (NNq c), cr, tp, tt, SiQ v_7, AtQ v_8, (PtQ pe P), (QlQ i_3 i_10), fl, pe, n_21, nx, il, i_3, kn, ec, nu, va, st, ep, ti, ad, ob, ra, rt, ex, sa, us, tk, th, i_4, i_5, i_6, i_7) Φ9 := hI11
    replace b_104 : n_21 ≤ 600 := b_104
    replace b_105 : (some (Value.int v_10)) = some (.int (nI n_22)) := b_105
    replace b_106 : i_1 < n_22 ∧ n_22 ≤ pe := b_106
    replace b_107 : ∃ t9 : Int32, (∀ z9 : SN × QN, rcF c ti P i_1 (n_18, -1, 0, z9) (n_22 - i_1) = (n_21, t9, n_22 - i_1, z9)) ∧ (n_22 = pe ∨ (c 7).toInt < ((n_21 + moN c (P n_22) t9 : Nat) : Int)) := b_107
    have hq8 : v_10 = nI n_22 := Value.int.inj (Option.some.inj b_105)
    subst hq8
    obtain ⟨v_11, hz1, ho1⟩ := b_107
    refine z_istore_n (lv' := [(2, .int (nI n_22)), (1, .int (nI i_1)), (0, .ref x)]) B dX12_sendPending_63 rfl (Nat.le_of_ble_eq_true rfl) rfl ?_
    refine z_aload_n B dX12_sendPending_64 rfl 2 rfl ?_
    refine z_iconst (v := 2) B dX12_sendPending_65 rfl ?_
    refine z_aload_n B dX12_sendPending_66 rfl 2 rfl ?_
    obtain ⟨n_23, v_12, n_24, h_19, b_120, b_108, b_109, b_110, b_111, b_112, b_113, b_114, b_115, b_116, b_117, b_118, b_119⟩ := im0 hI11
    replace b_108 : 1 ≤ rt := b_108
    replace b_109 : rt ≤ 1024 := b_109
    replace b_110 : fl ≤ 12 := b_110
    replace b_111 : pe ≤ 24 := b_111
    replace b_112 : n_21 ≤ 700 := b_112
    replace b_113 : i_3 ≤ 12 := b_113
    replace b_114 : n_23 ≤ 8 := b_114
    replace b_115 : n_24 ≤ 24 := b_115
    replace b_116 : tk ≤ 24 := b_116
    replace b_117 : il ≤ 700 := b_117
    replace b_118 : nx ≤ 701 := b_118
    replace b_119 : st ≤ 701 := b_119
    have h_20 : Φ9 x = some (o_ 14 [.int th, .ref (x + 1), .ref (x + 2), .int ti, .int ra, .int (nI rt), .int ex, .int ad, .ref (x + 3), .ref (x + 4), .int i_4, .long i_6, .ref (x + 5), .int (nI fl), .int i_5, .long ob, .long sa, .long i_7, .long us, .ref (x + 6), .ref (x + 7), .int (nI pe), .ref (x + 8), .int (nI n_21), .ref (x + 9), .ref (x + 10), .int (nI i_3), .ref (x + 11), .ref (x + 12), .ref (x + 13), .ref (x + 14), .ref (x + 15), .ref (x + 16), .int (nI n_23), .long v_12, .ref (x + 17), .ref (x + 18), .ref (x + 19), .ref (x + 20), .ref (x + 21), .ref (x + 22), .int (nI n_24), .ref (x + 23), .ref (x + 24), .int (nI tk), .ref (x + 25), .int (nI il), .int (nI nx), .int ec, .int ep, .int kn, .int (nI st), .int nu, .long va]) := h_19
    refine z_get (ref := "FlowExporterModel") (C := RX12) (T := TX12) (N := 54) (ci := 14) (v := .int (nI n_21)) B hu_X12_sendPending_X12 rfl 23 (Nat.le_of_ble_eq_true rfl) hv_X12_sendPending_280 rfl h_20 rfl dX12_sendPending_67 ?_
    refine z_callV (As := [.int 2, .int (nI n_21)]) (rest := []) B (r_putAt G l Φ9 sz x rd (NNq c) cr tp tt (SiQ v_7) (AtQ v_8) (PtQ pe P) (QlQ i_3 i_10) fl pe n_21 nx il i_3 kn ec nu va st ep ti ad ob ra rt ex sa us tk th i_4 i_5 i_6 i_7 2 n_21 hx hI11 (show 2 + 1 < 700 by omega) (show n_21 ≤ 700 by omega) (fun f9 h9 => h9.1)) (cwV 2 B.1.2.2.2.2 gX12_sendPending_X12_putAt rfl rfl rfl (by decide +kernel) ⟨Nat.le_of_ble_eq_true rfl, Nat.le_of_ble_eq_true rfl⟩) h_20 rfl rfl rfl rfl (Nat.le_of_ble_eq_true rfl) dX12_sendPending_70 ⟨Nat.le_of_ble_eq_true rfl, Nat.le_of_ble_eq_true rfl⟩ (fun r_10 Φ10 sz8 st8 hp8 hs8 => ?_)
    obtain ⟨rfl, hq9, hI12, hF9⟩ := hp8
    subst sz8
    replace hs8 : st8 = [] := hs8
    subst st8
    replace hI12 : Im G x (rd, (NNq c), cr, tp, tt, SiQ v_7, AtQ v_8, (PtQ pe P), (QlQ i_3 i_10), fl, pe, n_21, nx, il, i_3, kn, ec, nu, va, st, ep, ti, ad, ob, ra, rt, ex, sa, us, tk, th, i_4, i_5, i_6, i_7) Φ10 := hI12
    refine z_aload_n B dX12_sendPending_73 rfl 2 rfl ?_
    refine z_bipush (v := 14) B dX12_sendPending_74 rfl ?_
    refine z_iload_n B dX12_sendPending_76 rfl 0 rfl ?_
    refine z_iload_n B dX12_sendPending_77 rfl 1 rfl ?_
    refine z_isub B dX12_sendPending_78 ?_
    refine z_top (st1 := [.int (nI (n_22 - i_1)), .int 14, .ref x]) (congrArg (fun w9 : Int32 => ([.int w9, .int 14, .ref x] : List Value)) (nI_sub (show i_1 ≤ n_22 by omega))) ?_
    have h_21 : Φ10 x = some (o_ 14 [.int th, .ref (x + 1), .ref (x + 2), .int ti, .int ra, .int (nI rt), .int ex, .int ad, .ref (x + 3), .ref (x + 4), .int i_4, .long i_6, .ref (x + 5), .int (nI fl), .int i_5, .long ob, .long sa, .long i_7, .long us, .ref (x + 6), .ref (x + 7), .int (nI pe), .ref (x + 8), .int (nI n_21), .ref (x + 9), .ref (x + 10), .int (nI i_3), .ref (x + 11), .ref (x + 12), .ref (x + 13), .ref (x + 14), .ref (x + 15), .ref (x + 16), .int (nI n_23), .long v_12, .ref (x + 17), .ref (x + 18), .ref (x + 19), .ref (x + 20), .ref (x + 21), .ref (x + 22), .int (nI n_24), .ref (x + 23), .ref (x + 24), .int (nI tk), .ref (x + 25), .int (nI il), .int (nI nx), .int ec, .int ep, .int kn, .int (nI st), .int nu, .long va]) := ((hF9 x fq_983).trans h_20)
    refine z_callV (As := [.int 14, .int (nI (n_22 - i_1))]) (rest := []) B (r_putAt G l Φ10 sz x rd (NNq c) cr tp tt (SiQ v_7) (AtQ v_8) (PtQ pe P) (QlQ i_3 i_10) fl pe n_21 nx il i_3 kn ec nu va st ep ti ad ob ra rt ex sa us tk th i_4 i_5 i_6 i_7 14 (n_22 - i_1) hx hI12 (show 14 + 1 < 700 by omega) (show (n_22 - i_1) ≤ 700 by omega) (fun f9 h9 => h9.1)) (cwV 2 B.1.2.2.2.2 gX12_sendPending_X12_putAt rfl rfl rfl (by decide +kernel) ⟨Nat.le_of_ble_eq_true rfl, Nat.le_of_ble_eq_true rfl⟩) h_21 rfl rfl rfl rfl (Nat.le_of_ble_eq_true rfl) dX12_sendPending_79 ⟨Nat.le_of_ble_eq_true rfl, Nat.le_of_ble_eq_true rfl⟩ (fun r_11 Φ11 sz9 st9 hp9 hs9 => ?_)
    obtain ⟨rfl, hq10, hI13, hF10⟩ := hp9
    subst sz9
    replace hs9 : st9 = [] := hs9
    subst st9
    replace hI13 : Im G x (rd, (NNq c), cr, tp, tt, SiQ v_7, AtQ v_8, (PtQ pe P), (QlQ i_3 i_10), fl, pe, n_21, nx, il, i_3, kn, ec, nu, va, st, ep, ti, ad, ob, ra, rt, ex, sa, us, tk, th, i_4, i_5, i_6, i_7) Φ11 := hI13
    refine z_aload_n B dX12_sendPending_82 rfl 2 rfl ?_
    refine z_dup B dX12_sendPending_83 rfl ?_
    have h_22 : Φ11 x = some (o_ 14 [.int th, .ref (x + 1), .ref (x + 2), .int ti, .int ra, .int (nI rt), .int ex, .int ad, .ref (x + 3), .ref (x + 4), .int i_4, .long i_6, .ref (x + 5), .int (nI fl), .int i_5, .long ob, .long sa, .long i_7, .long us, .ref (x + 6), .ref (x + 7), .int (nI pe), .ref (x + 8), .int (nI n_21), .ref (x + 9), .ref (x + 10), .int (nI i_3), .ref (x + 11), .ref (x + 12), .ref (x + 13), .ref (x + 14), .ref (x + 15), .ref (x + 16), .int (nI n_23), .long v_12, .ref (x + 17), .ref (x + 18), .ref (x + 19), .ref (x + 20), .ref (x + 21), .ref (x + 22), .int (nI n_24), .ref (x + 23), .ref (x + 24), .int (nI tk), .ref (x + 25), .int (nI il), .int (nI nx), .int ec, .int ep, .int kn, .int (nI st), .int nu, .long va]) := ((hF10 x fq_983).trans h_21)
    refine z_get (ref := "FlowExporterModel") (C := RX12) (T := TX12) (N := 54) (ci := 14) (v := .int i_4) B hu_X12_sendPending_X12 rfl 10 (Nat.le_of_ble_eq_true rfl) hv_X12_sendPending_142 rfl h_22 rfl dX12_sendPending_84 ?_
    refine z_iconst (v := 1) B dX12_sendPending_87 rfl ?_
    refine z_iadd B dX12_sendPending_88 ?_
    refine z_put (ref := "FlowExporterModel") (C := RX12) (T := TX12) (N := 54) (ci := 14) (v := .int (i_4 + 1)) B hu_X12_sendPending_X12 tyX12 tyX12_ok nmX12 rfl 10 (Nat.le_of_ble_eq_true rfl) hv_X12_sendPending_142 rfl (Or.inl rfl) h_22 hx rfl rfl (Nat.le_of_ble_eq_true rfl) dX12_sendPending_89 (fun Φ12 hΦ3 => ?_)
    have h_23 : Φ12 x = some (o_ 14 [.int th, .ref (x + 1), .ref (x + 2), .int ti, .int ra, .int (nI rt), .int ex, .int ad, .ref (x + 3), .ref (x + 4), .int (i_4 + 1), .long i_6, .ref (x + 5), .int (nI fl), .int i_5, .long ob, .long sa, .long i_7, .long us, .ref (x + 6), .ref (x + 7), .int (nI pe), .ref (x + 8), .int (nI n_21), .ref (x + 9), .ref (x + 10), .int (nI i_3), .ref (x + 11), .ref (x + 12), .ref (x + 13), .ref (x + 14), .ref (x + 15), .ref (x + 16), .int (nI n_23), .long v_12, .ref (x + 17), .ref (x + 18), .ref (x + 19), .ref (x + 20), .ref (x + 21), .ref (x + 22), .int (nI n_24), .ref (x + 23), .ref (x + 24), .int (nI tk), .ref (x + 25), .int (nI il), .int (nI nx), .int ec, .int ep, .int kn, .int (nI st), .int nu, .long va]) := fset_at hΦ3
    have hI14 : Im G x (rd, (NNq c), cr, tp, tt, SiQ v_7, AtQ v_8, (PtQ pe P), (QlQ i_3 i_10), fl, pe, n_21, nx, il, i_3, kn, ec, nu, va, st, ep, ti, ad, ob, ra, rt, ex, sa, us, tk, th, i_4 + 1, i_5, i_6, i_7) Φ12 := Im.put0 hI13 hΦ3 ⟨n_23, v_12, n_24, rfl, b_120, b_108, b_109, b_110, b_111, b_112, b_113, b_114, b_115, b_116, b_117, b_118, b_119⟩
    refine z_aload_n B dX12_sendPending_92 rfl 2 rfl ?_
    refine z_dup B dX12_sendPending_93 rfl ?_
    refine z_get (ref := "FlowExporterModel") (C := RX12) (T := TX12) (N := 54) (ci := 14) (v := .long i_7) B hu_X12_sendPending_X12 rfl 17 (Nat.le_of_ble_eq_true rfl) hv_X12_sendPending_124 rfl h_23 rfl dX12_sendPending_94 ?_
    refine z_iload_n B dX12_sendPending_97 rfl 0 rfl ?_
    refine z_iload_n B dX12_sendPending_98 rfl 1 rfl ?_
    refine z_isub B dX12_sendPending_99 ?_
    refine z_top (st1 := [.int (nI (n_22 - i_1)), .long i_7, .ref x]) (congrArg (fun w9 : Int32 => ([.int w9, .long i_7, .ref x] : List Value)) (nI_sub (show i_1 ≤ n_22 by omega))) ?_
    refine z_i2l (v := (nI (n_22 - i_1)).toInt64) B dX12_sendPending_100 rfl ?_
    refine z_ladd B dX12_sendPending_101 ?_
    refine z_put (ref := "FlowExporterModel") (C := RX12) (T := TX12) (N := 54) (ci := 14) (v := .long (i_7 + ((nI (n_22 - i_1)).toInt64))) B hu_X12_sendPending_X12 tyX12 tyX12_ok nmX12 rfl 17 (Nat.le_of_ble_eq_true rfl) hv_X12_sendPending_124 rfl (Or.inl rfl) h_23 hx rfl rfl (Nat.le_of_ble_eq_true rfl) dX12_sendPending_102 (fun Φ13 hΦ4 => ?_)
    have h_24 : Φ13 x = some (o_ 14 [.int th, .ref (x + 1), .ref (x + 2), .int ti, .int ra, .int (nI rt), .int ex, .int ad, .ref (x + 3), .ref (x + 4), .int (i_4 + 1), .long i_6, .ref (x + 5), .int (nI fl), .int i_5, .long ob, .long sa, .long (i_7 + ((nI (n_22 - i_1)).toInt64)), .long us, .ref (x + 6), .ref (x + 7), .int (nI pe), .ref (x + 8), .int (nI n_21), .ref (x + 9), .ref (x + 10), .int (nI i_3), .ref (x + 11), .ref (x + 12), .ref (x + 13), .ref (x + 14), .ref (x + 15), .ref (x + 16), .int (nI n_23), .long v_12, .ref (x + 17), .ref (x + 18), .ref (x + 19), .ref (x + 20), .ref (x + 21), .ref (x + 22), .int (nI n_24), .ref (x + 23), .ref (x + 24), .int (nI tk), .ref (x + 25), .int (nI il), .int (nI nx), .int ec, .int ep, .int kn, .int (nI st), .int nu, .long va]) := fset_at hΦ4
    have hI15 : Im G x (rd, (NNq c), cr, tp, tt, SiQ v_7, AtQ v_8, (PtQ pe P), (QlQ i_3 i_10), fl, pe, n_21, nx, il, i_3, kn, ec, nu, va, st, ep, ti, ad, ob, ra, rt, ex, sa, us, tk, th, i_4 + 1, i_5, i_6, i_7 + ((nI (n_22 - i_1)).toInt64)) Φ13 := Im.put0 hI14 hΦ4 ⟨n_23, v_12, n_24, rfl, b_120, b_108, b_109, b_110, b_111, b_112, b_113, b_114, b_115, b_116, b_117, b_118, b_119⟩
    refine z_aload_n B dX12_sendPending_105 rfl 2 rfl ?_
    refine z_aload_n B dX12_sendPending_106 rfl 2 rfl ?_
    refine z_get (ref := "FlowExporterModel") (C := RX12) (T := TX12) (N := 54) (ci := 14) (v := .long i_6) B hu_X12_sendPending_X12 rfl 11 (Nat.le_of_ble_eq_true rfl) hv_X12_sendPending_201 rfl h_24 rfl dX12_sendPending_107 ?_
    refine z_iload_n B dX12_sendPending_110 rfl 0 rfl ?_
    refine z_i2l (v := (nI n_22).toInt64) B dX12_sendPending_111 rfl ?_
    refine z_ladd B dX12_sendPending_112 ?_
    refine z_iload_n B dX12_sendPending_113 rfl 1 rfl ?_
    refine z_i2l (v := (nI i_1).toInt64) B dX12_sendPending_114 rfl ?_
    refine z_lsub B dX12_sendPending_115 ?_
    refine z_ldc2 (v := 4294967295) B (by decide +kernel) dX12_sendPending_116 ?_
    refine z_land B dX12_sendPending_119 ?_
    refine z_top (st1 := [.long ((i_11 + nI (n_22 - i_1)).toInt64 &&& 4294967295), .ref x]) (congrArg (fun w9 : Int64 => ([.long w9, .ref x] : List Value)) ((congrArg (fun w9 : Int64 => w9 + (nI n_22).toInt64 - (nI i_1).toInt64 &&& 4294967295) b_3).trans (seq_k (by omega) (by omega)))) ?_
    refine z_put (ref := "FlowExporterModel") (C := RX12) (T := TX12) (N := 54) (ci := 14) (v := .long ((i_11 + nI (n_22 - i_1)).toInt64 &&& 4294967295)) B hu_X12_sendPending_X12 tyX12 tyX12_ok nmX12 rfl 11 (Nat.le_of_ble_eq_true rfl) hv_X12_sendPending_201 rfl (Or.inl rfl) h_24 hx rfl rfl (Nat.le_of_ble_eq_true rfl) dX12_sendPending_120 (fun Φ14 hΦ5 => ?_)
    have h_25 : Φ14 x = some (o_ 14 [.int th, .ref (x + 1), .ref (x + 2), .int ti, .int ra, .int (nI rt), .int ex, .int ad, .ref (x + 3), .ref (x + 4), .int (i_4 + 1), .long ((i_11 + nI (n_22 - i_1)).toInt64 &&& 4294967295), .ref (x + 5), .int (nI fl), .int i_5, .long ob, .long sa, .long (i_7 + ((nI (n_22 - i_1)).toInt64)), .long us, .ref (x + 6), .ref (x + 7), .int (nI pe), .ref (x + 8), .int (nI n_21), .ref (x + 9), .ref (x + 10), .int (nI i_3), .ref (x + 11), .ref (x + 12), .ref (x + 13), .ref (x + 14), .ref (x + 15), .ref (x + 16), .int (nI n_23), .long v_12, .ref (x + 17), .ref (x + 18), .ref (x + 19), .ref (x + 20), .ref (x + 21), .ref (x + 22), .int (nI n_24), .ref (x + 23), .ref (x + 24), .int (nI tk), .ref (x + 25), .int (nI il), .int (nI nx), .int ec, .int ep, .int kn, .int (nI st), .int nu, .long va]) := fset_at hΦ5
    have hI16 : Im G x (rd, (NNq c), cr, tp, tt, SiQ v_7, AtQ v_8, (PtQ pe P), (QlQ i_3 i_10), fl, pe, n_21, nx, il, i_3, kn, ec, nu, va, st, ep, ti, ad, ob, ra, rt, ex, sa, us, tk, th, i_4 + 1, i_5, (i_11 + nI (n_22 - i_1)).toInt64 &&& 4294967295, i_7 + ((nI (n_22 - i_1)).toInt64)) Φ14 := Im.put0 hI15 hΦ5 ⟨n_23, v_12, n_24, rfl, b_120, b_108, b_109, b_110, b_111, b_112, b_113, b_114, b_115, b_116, b_117, b_118, b_119⟩
    refine z_iload_n B dX12_sendPending_123 rfl 0 rfl ?_
    refine z_istore_n (lv' := [(1, .int (nI n_22)), (2, .int (nI n_22)), (0, .ref x)]) B dX12_sendPending_124 rfl (Nat.le_of_ble_eq_true rfl) rfl ?_
    refine z_aload_n B dX12_sendPending_125 rfl 2 rfl ?_
    refine z_callV (As := []) (rest := []) B (r_enqueue G l Φ14 sz x rd (NNq c) cr tp tt (SiQ v_7) (AtQ v_8) (PtQ pe P) fl pe n_21 nx il i_3 kn ec nu va st ep ti ad ob ra rt ex sa us tk th (i_4 + 1) i_5 ((i_11 + nI (n_22 - i_1)).toInt64 &&& 4294967295) (i_7 + ((nI (n_22 - i_1)).toInt64)) i_10 hx hI16 (show n_21 ≤ 600 by omega) (fun f9 h9 => h9.1)) (cwV 0 B.1.2.2.2.2 gX12_sendPending_X12_enqueue rfl rfl rfl (by decide +kernel) ⟨Nat.le_of_ble_eq_true rfl, Nat.le_of_ble_eq_true rfl⟩) h_25 rfl rfl rfl rfl (Nat.le_of_ble_eq_true rfl) dX12_sendPending_126 ⟨Nat.le_of_ble_eq_true rfl, Nat.le_of_ble_eq_true rfl⟩ (fun r_12 Φ15 sz10 st10 hp10 hs10 => ?_)
    obtain ⟨rfl, hq11, ⟨n_25, n_26, v_13, b_121, hI17⟩, hF11⟩ := hp10
    subst sz10
    replace hs10 : st10 = [] := hs10
    subst st10
    replace hI17 : Im G x (rd, (NNq c), cr, tp, tt, SiQ v_7, AtQ v_8, (PtQ pe P), QlQ n_25 n_26, fl, pe, n_21, nx, il, n_25, kn, ec, nu, va, st, ep, ti, ad, ob, ra, rt, ex, sa, us, tk, th, i_4 + 1, v_13, (i_11 + nI (n_22 - i_1)).toInt64 &&& 4294967295, i_7 + ((nI (n_22 - i_1)).toInt64)) Φ15 := hI17
    replace b_121 : enQ n_21 (i_3, i_10, i_5) = (n_25, n_26, v_13) := b_121
    refine z_goto (tgt := 2) B dX12_sendPending_129 rfl ?_
    refine z_lv [0, 2] rfl ?_
    exact ih1 (n_22, n_21, n_25, i_4 + 1, v_13, (i_11 + nI (n_22 - i_1)).toInt64 &&& 4294967295, i_7 + ((nI (n_22 - i_1)).toInt64), v_7, v_8, n_26, i_11 + nI (n_22 - i_1)) Φ15 (show pe - n_22 < pe - i_1 by omega) ⟨(Im.weak5 hI17 (fun _ q9 => q9) (fun _ q9 => q9) (fun _ q9 => q9) (fun _ q9 => q9) (fun _ q9 => q9) (fun _ q9 => q9) (fun _ q9 => q9) (fun _ q9 => q9) (fun _ q9 => q9)), (fun b9 h9 => ((hF11 b9 (fun j9 h8 h7 => h9 j9 h8 (fq_989 j9 h7))).trans ((fset_fr hΦ5 (fun h8 => h9 (0) h8 (show 0 = 0 ∨ 0 = 3 ∨ 0 = 4 ∨ 0 = 8 ∨ 0 = 9 ∨ 0 = 10 by decide))).trans ((fset_fr hΦ4 (fun h8 => h9 (0) h8 (show 0 = 0 ∨ 0 = 3 ∨ 0 = 4 ∨ 0 = 8 ∨ 0 = 9 ∨ 0 = 10 by decide))).trans ((fset_fr hΦ3 (fun h8 => h9 (0) h8 (show 0 = 0 ∨ 0 = 3 ∨ 0 = 4 ∨ 0 = 8 ∨ 0 = 9 ∨ 0 = 10 by decide))).trans ((hF10 b9 (fun j9 h8 h7 => h9 j9 h8 (fq_988 j9 h7))).trans ((hF9 b9 (fun j9 h8 h7 => h9 j9 h8 (fq_988 j9 h7))).trans ((hF8 b9 (fun j9 h8 h7 => h9 j9 h8 (fq_986 j9 h7))).trans ((hF7 b9 (fun j9 h8 h7 => h9 j9 h8 (fq_987 j9 h7))).trans ((hF6 b9 (fun j9 h8 h7 => h9 j9 h8 (fq_986 j9 h7))).trans ((hF5 b9 (fun j9 h8 h7 => h9 j9 h8 (fq_986 j9 h7))).trans ((hF4 b9 (fun j9 h8 h7 => h9 j9 h8 (fq_986 j9 h7))).trans ((hF3 b9 (fun j9 h8 h7 => h9 j9 h8 (fq_986 j9 h7))).trans ((hF2 b9 (fun j9 h8 h7 => h9 j9 h8 (fq_986 j9 h7))).trans ((fset_fr hΦ2 (fun h8 => h9 (0) h8 (show 0 = 0 ∨ 0 = 3 ∨ 0 = 4 ∨ 0 = 8 ∨ 0 = 9 ∨ 0 = 10 by decide))).trans ((hF1 b9 h9).trans rfl)))))))))))))))), (show n_22 ≤ pe by omega), (((congrArg (fun w9 : QN => spF c ti P pe n_22 (v_7, v_8, i_4 + 1, i_7 + ((nI (n_22 - i_1)).toInt64), i_11 + nI (n_22 - i_1)) w9) b_121).symm.trans (spF_s (t := v_11) hcw hg hP9 (by omega) (show n_22 = i_1 + (n_22 - i_1) by omega) (by omega) (by omega) (b_89 i_7 i_11) (hz1 _) ho1).symm).trans b_2), rfl, trivial⟩

set_option maxHeartbeats 4000000 in
set_option maxRecDepth 100000 in
theorem r_isPacket (G : EnvG) (l : Launch) (Φ : Hm) (sz x : Nat) (rd : (Nat → Int32) → Prop) (nw : (Nat → Int32) → Prop) (cr : (Nat → Int64) → Prop) (tp : (Nat → Int32) → Prop) (tt : (Nat → Int64) → Prop) (sI : (Nat → Int32) → Prop) (sT : (Nat → Int32) → Prop) (pt : (Nat → Int32) → Prop) (ql : (Nat → Int32) → Prop) (fl : Nat) (pe : Nat) (le : Nat) (nx : Nat) (il : Nat) (qu : Nat) (kn : Int32) (ec : Int32) (nu : Int32) (va : Int64) (st : Nat) (ep : Int32) (ti : Int32) (ad : Int32) (ob : Int64) (ra : Int32) (rt : Nat) (ex : Int32) (sa : Int64) (us : Int64) (tk : Nat) (th : Int32) (me : Int32) (dr : Int32) (se : Int64) (sn : Int64) (a : Int32) (b : Int32) (d : Int32) (f : Int32) (g : Int32) (hx : G.2.2.2 ≤ x) (hI : Im G x (rd, nw, cr, tp, tt, sI, sT, pt, ql, fl, pe, le, nx, il, qu, kn, ec, nu, va, st, ep, ti, ad, ob, ra, rt, ex, sa, us, tk, th, me, dr, se, sn) Φ) (hnw : ∀ f9 : Nat → Int32, nw f9 → NN f9) : Ct G l yX12_isPacket wsX12_isPacket ({ frames := 2, cells := 0, slots := 0, locals := 45 }) 0 0 [.int a, .int b, .int d, .int f, .int g] Φ sz (fun v Φ1 sz1 => ((v = some (.int 0) ∧ ¬ PkP a b d f g) ∨ (v = some (.int 1) ∧ PkP a b d f g ∧ ∃ n9 : Nat, n9 ≤ 255 ∧ f = nI n9)) ∧ sz1 = sz ∧ (Im G x (rd, nw, cr, tp, tt, sI, sT, pt, ql, fl, pe, le, nx, il, qu, kn, ec, nu, va, st, ep, ti, ad, ob, ra, rt, ex, sa, us, tk, th, me, dr, se, sn) Φ1) ∧ Fr x (fun j9 => False) Φ Φ1) := by
  refine Ct.of (cc := cX12_isPacket) (maxL := 5) (ret := (some .boolean)) (by decide) rfl (Nat.le_of_ble_eq_true rfl) ?_
  intro p9 e9 s9 m9 w9 t9 k9 B
  show Z p9 l e9 _ s9 m9 _ w9 t9 k9 _ G 5 0 [(0, .int a), (1, .int b), (2, .int d), (3, .int f), (4, .int g)] [] Φ sz 0 0
  refine z_iload_n B dX12_isPacket_0 rfl 0 rfl ?_
  refine z_callS (As := [.int a]) (rest := []) B (r_isByte G l Φ sz x rd nw cr tp tt sI sT pt ql fl pe le nx il qu kn ec nu va st ep ti ad ob ra rt ex sa us tk th me dr se sn a hx hI hnw) (va_cwS 1 B.1.2.2.2.2 gX12_isPacket_X12_isByte rfl rfl rfl (by decide +kernel) ⟨Nat.le_of_ble_eq_true rfl, Nat.le_of_ble_eq_true rfl⟩) rfl rfl (Nat.le_of_ble_eq_true rfl) dX12_isPacket_1 ⟨Nat.le_of_ble_eq_true rfl, Nat.le_of_ble_eq_true rfl⟩ (fun r_1 Φ1 sz1 st1 hp1 hs1 => ?_)
  obtain ⟨ha1, hq1, hI1, hF1⟩ := hp1
  subst sz1
  replace hI1 : Im G x (rd, nw, cr, tp, tt, sI, sT, pt, ql, fl, pe, le, nx, il, qu, kn, ec, nu, va, st, ep, ti, ad, ob, ra, rt, ex, sa, us, tk, th, me, dr, se, sn) Φ1 := hI1
  rcases ha1 with ⟨rfl, hP1⟩ | ⟨rfl, hP1⟩
  · replace hs1 : st1 = [.int 0] := hs1
    subst st1
    replace hP1 : ¬ (0 ≤ a.toInt ∧ a.toInt ≤ 255) := hP1
    refine z_if_eq (tgt := 50) B dX12_isPacket_4 rfl (fun c_1 => ?_) (fun h9 => absurd (by decide) h9)
    refine z_iconst (v := 0) B dX12_isPacket_50 rfl ?_
    exact z_ret_z B dX12_isPacket_51 (by decide) ⟨(Or.inl ⟨rfl, by first | omega | (unfold PkP; omega)⟩), rfl, hI1, (fun b9 h9 => ((hF1 b9 (fun j9 h8 h7 => (show False from h7).elim)).trans rfl))⟩
  · replace hs1 : st1 = [.int 1] := hs1
    subst st1
    replace hP1 : (0 ≤ a.toInt ∧ a.toInt ≤ 255) := hP1
    refine z_if_eq (tgt := 50) B dX12_isPacket_4 rfl (fun h9 => absurd h9 (by decide)) (fun c_2 => ?_)
    refine z_iload_n B dX12_isPacket_7 rfl 1 rfl ?_
    refine z_callS (As := [.int b]) (rest := []) B (r_isByte G l Φ1 sz x rd nw cr tp tt sI sT pt ql fl pe le nx il qu kn ec nu va st ep ti ad ob ra rt ex sa us tk th me dr se sn b hx hI1 hnw) (va_cwS 1 B.1.2.2.2.2 gX12_isPacket_X12_isByte rfl rfl rfl (by decide +kernel) ⟨Nat.le_of_ble_eq_true rfl, Nat.le_of_ble_eq_true rfl⟩) rfl rfl (Nat.le_of_ble_eq_true rfl) dX12_isPacket_8 ⟨Nat.le_of_ble_eq_true rfl, Nat.le_of_ble_eq_true rfl⟩ (fun r_2 Φ2 sz2 st2 hp2 hs2 => ?_)
    obtain ⟨ha2, hq2, hI2, hF2⟩ := hp2
    subst sz2
    replace hI2 : Im G x (rd, nw, cr, tp, tt, sI, sT, pt, ql, fl, pe, le, nx, il, qu, kn, ec, nu, va, st, ep, ti, ad, ob, ra, rt, ex, sa, us, tk, th, me, dr, se, sn) Φ2 := hI2
    rcases ha2 with ⟨rfl, hP2⟩ | ⟨rfl, hP2⟩
    · replace hs2 : st2 = [.int 0] := hs2
      subst st2
      replace hP2 : ¬ (0 ≤ b.toInt ∧ b.toInt ≤ 255) := hP2
      refine z_if_eq (tgt := 50) B dX12_isPacket_11 rfl (fun c_3 => ?_) (fun h9 => absurd (by decide) h9)
      refine z_iconst (v := 0) B dX12_isPacket_50 rfl ?_
      exact z_ret_z B dX12_isPacket_51 (by decide) ⟨(Or.inl ⟨rfl, by first | omega | (unfold PkP; omega)⟩), rfl, hI2, (fun b9 h9 => ((hF2 b9 (fun j9 h8 h7 => (show False from h7).elim)).trans ((hF1 b9 (fun j9 h8 h7 => (show False from h7).elim)).trans rfl)))⟩
    · replace hs2 : st2 = [.int 1] := hs2
      subst st2
      replace hP2 : (0 ≤ b.toInt ∧ b.toInt ≤ 255) := hP2
      refine z_if_eq (tgt := 50) B dX12_isPacket_11 rfl (fun h9 => absurd h9 (by decide)) (fun c_4 => ?_)
      refine z_iload_n B dX12_isPacket_14 rfl 2 rfl ?_
      refine z_i2l (v := d.toInt64) B dX12_isPacket_15 rfl ?_
      refine z_lconst (v := 0) B dX12_isPacket_16 rfl ?_
      refine z_ldc2 (v := 65535) B (by decide +kernel) dX12_isPacket_17 ?_
      by_cases hR1 : inP d.toInt64 0 65535
      · obtain ⟨n_1, e_1, e_2, e_3, rfl⟩ := in_get (L := 0) (H := 65535) (by decide) (by decide) hR1
        refine z_callS (As := [.long ((nI n_1).toInt64), .long 0, .long 65535]) (rest := []) B (c_inR1 G l Φ2 sz ((nI n_1).toInt64) 0 65535 hR1 (fun v8 Φ8 sz8 => v8 = some (.int 1) ∧ sz8 = sz ∧ Im G x (rd, nw, cr, tp, tt, sI, sT, pt, ql, fl, pe, le, nx, il, qu, kn, ec, nu, va, st, ep, ti, ad, ob, ra, rt, ex, sa, us, tk, th, me, dr, se, sn) Φ8 ∧ Fr x (fun j9 => False) Φ2 Φ8) ⟨rfl, rfl, hI2, fun _ _ => rfl⟩) (va_cwS 3 B.1.2.2.2.2 gX12_isPacket_X12_inRange rfl rfl rfl (by decide +kernel) ⟨Nat.le_of_ble_eq_true rfl, Nat.le_of_ble_eq_true rfl⟩) rfl rfl (Nat.le_of_ble_eq_true rfl) dX12_isPacket_20 ⟨Nat.le_of_ble_eq_true rfl, Nat.le_of_ble_eq_true rfl⟩ (fun r_3 Φ3 sz3 st3 hp3 hs3 => ?_)
        obtain ⟨rfl, hq3, hI3, hF3⟩ := hp3
        subst sz3
        replace hs3 : st3 = [.int 1] := hs3
        subst st3
        refine z_if_eq (tgt := 50) B dX12_isPacket_23 rfl (fun h9 => absurd h9 (by decide)) (fun c_5 => ?_)
        refine z_iload_n B dX12_isPacket_26 rfl 3 rfl ?_
        refine z_callS (As := [.int f]) (rest := []) B (r_isByte G l Φ3 sz x rd nw cr tp tt sI sT pt ql fl pe le nx il qu kn ec nu va st ep ti ad ob ra rt ex sa us tk th me dr se sn f hx hI3 hnw) (va_cwS 1 B.1.2.2.2.2 gX12_isPacket_X12_isByte rfl rfl rfl (by decide +kernel) ⟨Nat.le_of_ble_eq_true rfl, Nat.le_of_ble_eq_true rfl⟩) rfl rfl (Nat.le_of_ble_eq_true rfl) dX12_isPacket_27 ⟨Nat.le_of_ble_eq_true rfl, Nat.le_of_ble_eq_true rfl⟩ (fun r_4 Φ4 sz4 st4 hp4 hs4 => ?_)
        obtain ⟨ha3, hq4, hI4, hF4⟩ := hp4
        subst sz4
        replace hI4 : Im G x (rd, nw, cr, tp, tt, sI, sT, pt, ql, fl, pe, le, nx, il, qu, kn, ec, nu, va, st, ep, ti, ad, ob, ra, rt, ex, sa, us, tk, th, me, dr, se, sn) Φ4 := hI4
        rcases ha3 with ⟨rfl, hP3⟩ | ⟨rfl, hP3⟩
        · replace hs4 : st4 = [.int 0] := hs4
          subst st4
          replace hP3 : ¬ (0 ≤ f.toInt ∧ f.toInt ≤ 255) := hP3
          refine z_if_eq (tgt := 50) B dX12_isPacket_30 rfl (fun c_6 => ?_) (fun h9 => absurd (by decide) h9)
          refine z_iconst (v := 0) B dX12_isPacket_50 rfl ?_
          have k_1 : (nI n_1).toInt = ((n_1 : Nat) : Int) := nI_toInt (by omega)
          exact z_ret_z B dX12_isPacket_51 (by decide) ⟨(Or.inl ⟨rfl, by first | omega | (unfold PkP; omega)⟩), rfl, hI4, (fun b9 h9 => ((hF4 b9 (fun j9 h8 h7 => (show False from h7).elim)).trans ((hF3 b9 (fun j9 h8 h7 => (show False from h7).elim)).trans ((hF2 b9 (fun j9 h8 h7 => (show False from h7).elim)).trans ((hF1 b9 (fun j9 h8 h7 => (show False from h7).elim)).trans rfl)))))⟩
        · replace hs4 : st4 = [.int 1] := hs4
          subst st4
          replace hP3 : (0 ≤ f.toInt ∧ f.toInt ≤ 255) := hP3
          refine z_if_eq (tgt := 50) B dX12_isPacket_30 rfl (fun h9 => absurd h9 (by decide)) (fun c_7 => ?_)
          refine z_iload B dX12_isPacket_33 4 rfl ?_
          refine z_i2l (v := g.toInt64) B dX12_isPacket_35 rfl ?_
          refine z_lconst (v := 1) B dX12_isPacket_36 rfl ?_
          refine z_ldc2 (v := 65535) B (by decide +kernel) dX12_isPacket_37 ?_
          by_cases hR2 : inP g.toInt64 1 65535
          · obtain ⟨n_2, e_4, e_5, e_6, rfl⟩ := in_get (L := 1) (H := 65535) (by decide) (by decide) hR2
            refine z_callS (As := [.long ((nI n_2).toInt64), .long 1, .long 65535]) (rest := []) B (c_inR1 G l Φ4 sz ((nI n_2).toInt64) 1 65535 hR2 (fun v8 Φ8 sz8 => v8 = some (.int 1) ∧ sz8 = sz ∧ Im G x (rd, nw, cr, tp, tt, sI, sT, pt, ql, fl, pe, le, nx, il, qu, kn, ec, nu, va, st, ep, ti, ad, ob, ra, rt, ex, sa, us, tk, th, me, dr, se, sn) Φ8 ∧ Fr x (fun j9 => False) Φ4 Φ8) ⟨rfl, rfl, hI4, fun _ _ => rfl⟩) (va_cwS 3 B.1.2.2.2.2 gX12_isPacket_X12_inRange rfl rfl rfl (by decide +kernel) ⟨Nat.le_of_ble_eq_true rfl, Nat.le_of_ble_eq_true rfl⟩) rfl rfl (Nat.le_of_ble_eq_true rfl) dX12_isPacket_40 ⟨Nat.le_of_ble_eq_true rfl, Nat.le_of_ble_eq_true rfl⟩ (fun r_5 Φ5 sz5 st5 hp5 hs5 => ?_)
            obtain ⟨rfl, hq5, hI5, hF5⟩ := hp5
            subst sz5
            replace hs5 : st5 = [.int 1] := hs5
            subst st5
            refine z_if_eq (tgt := 50) B dX12_isPacket_43 rfl (fun h9 => absurd h9 (by decide)) (fun c_8 => ?_)
            refine z_iconst (v := 1) B dX12_isPacket_46 rfl ?_
            refine z_goto (tgt := 51) B dX12_isPacket_47 rfl ?_
            have k_2 : (nI n_1).toInt = ((n_1 : Nat) : Int) := nI_toInt (by omega)
            have k_3 : (nI n_2).toInt = ((n_2 : Nat) : Int) := nI_toInt (by omega)
            have hP4 : PkP a b (nI n_1) f (nI n_2) := by first | omega | (unfold PkP; omega)
            exact z_ret_z B dX12_isPacket_51 (by decide) ⟨(Or.inr ⟨rfl, hP4, PkP_f hP4⟩), rfl, hI5, (fun b9 h9 => ((hF5 b9 (fun j9 h8 h7 => (show False from h7).elim)).trans ((hF4 b9 (fun j9 h8 h7 => (show False from h7).elim)).trans ((hF3 b9 (fun j9 h8 h7 => (show False from h7).elim)).trans ((hF2 b9 (fun j9 h8 h7 => (show False from h7).elim)).trans ((hF1 b9 (fun j9 h8 h7 => (show False from h7).elim)).trans rfl))))))⟩
          · have q_1 : ¬ (1 ≤ g.toInt ∧ g.toInt ≤ 65535) := fun h9 => hR2 ((inP_i (by decide) (by decide)).mpr h9)
            refine z_callS (As := [.long g.toInt64, .long 1, .long 65535]) (rest := []) B (c_inR0 G l Φ4 sz g.toInt64 1 65535 hR2 (fun v8 Φ8 sz8 => v8 = some (.int 0) ∧ sz8 = sz ∧ Im G x (rd, nw, cr, tp, tt, sI, sT, pt, ql, fl, pe, le, nx, il, qu, kn, ec, nu, va, st, ep, ti, ad, ob, ra, rt, ex, sa, us, tk, th, me, dr, se, sn) Φ8 ∧ Fr x (fun j9 => False) Φ4 Φ8) ⟨rfl, rfl, hI4, fun _ _ => rfl⟩) (va_cwS 3 B.1.2.2.2.2 gX12_isPacket_X12_inRange rfl rfl rfl (by decide +kernel) ⟨Nat.le_of_ble_eq_true rfl, Nat.le_of_ble_eq_true rfl⟩) rfl rfl (Nat.le_of_ble_eq_true rfl) dX12_isPacket_40 ⟨Nat.le_of_ble_eq_true rfl, Nat.le_of_ble_eq_true rfl⟩ (fun r_6 Φ6 sz6 st6 hp6 hs6 => ?_)
            obtain ⟨rfl, hq6, hI6, hF6⟩ := hp6
            subst sz6
            replace hs6 : st6 = [.int 0] := hs6
            subst st6
            refine z_if_eq (tgt := 50) B dX12_isPacket_43 rfl (fun c_9 => ?_) (fun h9 => absurd (by decide) h9)
            refine z_iconst (v := 0) B dX12_isPacket_50 rfl ?_
            have k_4 : (nI n_1).toInt = ((n_1 : Nat) : Int) := nI_toInt (by omega)
            exact z_ret_z B dX12_isPacket_51 (by decide) ⟨(Or.inl ⟨rfl, by first | omega | (unfold PkP; omega)⟩), rfl, hI6, (fun b9 h9 => ((hF6 b9 (fun j9 h8 h7 => (show False from h7).elim)).trans ((hF4 b9 (fun j9 h8 h7 => (show False from h7).elim)).trans ((hF3 b9 (fun j9 h8 h7 => (show False from h7).elim)).trans ((hF2 b9 (fun j9 h8 h7 => (show False from h7).elim)).trans ((hF1 b9 (fun j9 h8 h7 => (show False from h7).elim)).trans rfl))))))⟩
      · have q_2 : ¬ (0 ≤ d.toInt ∧ d.toInt ≤ 65535) := fun h9 => hR1 ((inP_i (by decide) (by decide)).mpr h9)
        refine z_callS (As := [.long d.toInt64, .long 0, .long 65535]) (rest := []) B (c_inR0 G l Φ2 sz d.toInt64 0 65535 hR1 (fun v8 Φ8 sz8 => v8 = some (.int 0) ∧ sz8 = sz ∧ Im G x (rd, nw, cr, tp, tt, sI, sT, pt, ql, fl, pe, le, nx, il, qu, kn, ec, nu, va, st, ep, ti, ad, ob, ra, rt, ex, sa, us, tk, th, me, dr, se, sn) Φ8 ∧ Fr x (fun j9 => False) Φ2 Φ8) ⟨rfl, rfl, hI2, fun _ _ => rfl⟩) (va_cwS 3 B.1.2.2.2.2 gX12_isPacket_X12_inRange rfl rfl rfl (by decide +kernel) ⟨Nat.le_of_ble_eq_true rfl, Nat.le_of_ble_eq_true rfl⟩) rfl rfl (Nat.le_of_ble_eq_true rfl) dX12_isPacket_20 ⟨Nat.le_of_ble_eq_true rfl, Nat.le_of_ble_eq_true rfl⟩ (fun r_7 Φ7 sz7 st7 hp7 hs7 => ?_)
        obtain ⟨rfl, hq7, hI7, hF7⟩ := hp7
        subst sz7
        replace hs7 : st7 = [.int 0] := hs7
        subst st7
        refine z_if_eq (tgt := 50) B dX12_isPacket_23 rfl (fun c_10 => ?_) (fun h9 => absurd (by decide) h9)
        refine z_iconst (v := 0) B dX12_isPacket_50 rfl ?_
        exact z_ret_z B dX12_isPacket_51 (by decide) ⟨(Or.inl ⟨rfl, by first | omega | (unfold PkP; omega)⟩), rfl, hI7, (fun b9 h9 => ((hF7 b9 (fun j9 h8 h7 => (show False from h7).elim)).trans ((hF2 b9 (fun j9 h8 h7 => (show False from h7).elim)).trans ((hF1 b9 (fun j9 h8 h7 => (show False from h7).elim)).trans rfl))))⟩

theorem hu_X12_cached_X12 : ∀ w ∈ u_ws RX12 TX12 54, w ∈ wsX12_cached := fun _ h => List.mem_cons_of_mem _ (List.mem_append_left _ (List.mem_append_right _ (h)))

theorem hv_X12_cached_1 : Cond.fieldLink RX12 1 "FlowExporterModel" (TX12 0).2.1 (TX12 0).2.2.1 ∈ wsX12_cached := List.mem_cons_of_mem _ (List.mem_append_left _ (List.mem_append_left _ (List.mem_of_getElem? (i := 0) rfl)))

theorem hv_X12_cached_133 : Cond.fieldLink RX12 133 "FlowExporterModel" (TX12 13).2.1 (TX12 13).2.2.1 ∈ wsX12_cached := List.mem_cons_of_mem _ (List.mem_append_left _ (List.mem_append_left _ (List.mem_of_getElem? (i := 1) rfl)))

theorem hv_X12_cached_26 : Cond.fieldLink RX12 26 "FlowExporterModel" (TX12 12).2.1 (TX12 12).2.2.1 ∈ wsX12_cached := List.mem_cons_of_mem _ (List.mem_append_left _ (List.mem_append_left _ (List.mem_of_getElem? (i := 3) rfl)))

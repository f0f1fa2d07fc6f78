set_option maxRecDepth 20000 in
theorem ggX1_copyFrom_X10_copyFrom : GoodIn wsX1_copyFrom wsX10_copyFrom := goodIn_ca ((goodIn_ca (goodIn_r _ [14, 15, 16, 17, 18, 13, 19, 20, 21, 22, 23, 24, 25, 26, 27, 28, 29, 30] rfl (by decide +kernel)) (goodIn_sub (fun _ h => List.mem_cons_of_mem _ (List.mem_append_left _ (List.mem_append_right _ h))) gw_wsX100))) (goodIn_sub (fun _ h => List.mem_cons_of_mem _ (List.mem_append_right _ h)) (all_fg _))
set_option maxRecDepth 20000 in
theorem gX1_copyFrom_X10_copyFrom : GoodIn wsX1_copyFrom (wsV RX1 53 RX10 yX10_copyFrom wsX10_copyFrom) := goodIn_app (goodIn_m (mem_cA (List.mem_cons_of_mem _ (List.mem_append_left _ (List.mem_append_left _ (List.mem_append_left _ (List.mem_append_left _ (List.mem_of_getElem? (i := 9) rfl)))))) (mem_cA (List.mem_cons_of_mem _ (List.mem_append_left _ (List.mem_append_left _ (List.mem_append_left _ (List.mem_append_left _ (List.mem_of_getElem? (i := 10) rfl)))))) (mem_cA (List.mem_cons_of_mem _ (List.mem_append_left _ (List.mem_append_left _ (List.mem_append_left _ (List.mem_append_left _ (List.mem_of_getElem? (i := 11) rfl)))))) (mem_cA (List.mem_cons_of_mem _ (List.mem_append_left _ (List.mem_append_left _ (List.mem_append_left _ (List.mem_append_left _ (List.mem_of_getElem? (i := 12) rfl)))))) mem_cZ)))) (by decide +kernel)) ggX1_copyFrom_X10_copyFrom
set_option maxRecDepth 20000 in
theorem ggX1_copyFrom_X1_support : GoodIn wsX1_copyFrom wsX1_support := goodIn_ca ((goodIn_ca (goodIn_ca (goodIn_r _ [35, 9, 36, 7, 10, 11, 12, 13, 14, 15, 16, 17, 18, 19, 20, 21, 22, 23, 24, 25, 26, 27, 28, 29, 30] rfl (by decide +kernel)) (goodIn_sub (fun _ h => List.mem_cons_of_mem _ (List.mem_append_left _ (List.mem_append_left _ (List.mem_append_right _ h)))) gw_wsX10)) (goodIn_sub (fun _ h => List.mem_cons_of_mem _ (List.mem_append_left _ (List.mem_append_right _ h))) gw_wsX100))) (goodIn_sub (fun _ h => List.mem_cons_of_mem _ (List.mem_append_right _ h)) (all_fg _))
set_option maxRecDepth 20000 in
theorem gX1_copyFrom_X1_support : GoodIn wsX1_copyFrom (wsV RX1 57 RX1 yX1_support wsX1_support) := goodIn_app (goodIn_m (mem_cA (List.mem_cons_of_mem _ (List.mem_append_left _ (List.mem_append_left _ (List.mem_append_left _ (List.mem_append_right _ (List.mem_of_getElem? (i := 6) rfl)))))) (mem_cA (List.mem_cons_of_mem _ (List.mem_append_left _ (List.mem_append_left _ (List.mem_append_left _ (List.mem_append_right _ (List.mem_of_getElem? (i := 7) rfl)))))) (mem_cA (List.mem_cons_of_mem _ (List.mem_append_left _ (List.mem_append_left _ (List.mem_append_left _ (List.mem_append_right _ (List.mem_of_getElem? (i := 8) rfl)))))) (mem_cA (List.mem_cons_of_mem _ (List.mem_append_left _ (List.mem_append_left _ (List.mem_append_left _ (List.mem_append_right _ (List.mem_of_getElem? (i := 9) rfl)))))) mem_cZ)))) (by decide +kernel)) ggX1_copyFrom_X1_support
theorem dX1_copyFrom_0 : decode cX1_copyFrom 0 = .ok (.aload_n 1, 1) := by decide +kernel
theorem dX1_copyFrom_1 : decode cX1_copyFrom 1 = .ok (.getfield 9, 3) := by decide +kernel
theorem dX1_copyFrom_4 : decode cX1_copyFrom 4 = .ok (.iconst 0, 1) := by decide +kernel
theorem dX1_copyFrom_5 : decode cX1_copyFrom 5 = .ok (.aload_n 0, 1) := by decide +kernel
theorem dX1_copyFrom_6 : decode cX1_copyFrom 6 = .ok (.getfield 9, 3) := by decide +kernel
theorem dX1_copyFrom_9 : decode cX1_copyFrom 9 = .ok (.iconst 0, 1) := by decide +kernel
theorem dX1_copyFrom_10 : decode cX1_copyFrom 10 = .ok (.bipush 9, 2) := by decide +kernel
theorem dX1_copyFrom_12 : decode cX1_copyFrom 12 = .ok (.invokestatic 38, 3) := by decide +kernel
theorem dX1_copyFrom_15 : decode cX1_copyFrom 15 = .ok (.aload_n 1, 1) := by decide +kernel
theorem dX1_copyFrom_16 : decode cX1_copyFrom 16 = .ok (.getfield 15, 3) := by decide +kernel
theorem dX1_copyFrom_19 : decode cX1_copyFrom 19 = .ok (.iconst 0, 1) := by decide +kernel
theorem dX1_copyFrom_20 : decode cX1_copyFrom 20 = .ok (.aload_n 0, 1) := by decide +kernel
theorem dX1_copyFrom_21 : decode cX1_copyFrom 21 = .ok (.getfield 15, 3) := by decide +kernel
theorem dX1_copyFrom_24 : decode cX1_copyFrom 24 = .ok (.iconst 0, 1) := by decide +kernel
theorem dX1_copyFrom_25 : decode cX1_copyFrom 25 = .ok (.sipush 256, 3) := by decide +kernel
theorem dX1_copyFrom_28 : decode cX1_copyFrom 28 = .ok (.invokestatic 38, 3) := by decide +kernel
theorem dX1_copyFrom_31 : decode cX1_copyFrom 31 = .ok (.iconst 0, 1) := by decide +kernel
theorem dX1_copyFrom_32 : decode cX1_copyFrom 32 = .ok (.istore_n 2, 1) := by decide +kernel
theorem dX1_copyFrom_33 : decode cX1_copyFrom 33 = .ok (.iload_n 2, 1) := by decide +kernel
theorem dX1_copyFrom_34 : decode cX1_copyFrom 34 = .ok (.iconst 4, 1) := by decide +kernel
theorem dX1_copyFrom_35 : decode cX1_copyFrom 35 = .ok (.if_icmp .ge 27, 3) := by decide +kernel
theorem dX1_copyFrom_38 : decode cX1_copyFrom 38 = .ok (.aload_n 0, 1) := by decide +kernel
theorem dX1_copyFrom_39 : decode cX1_copyFrom 39 = .ok (.getfield 20, 3) := by decide +kernel
theorem dX1_copyFrom_42 : decode cX1_copyFrom 42 = .ok (.iload_n 2, 1) := by decide +kernel
theorem dX1_copyFrom_43 : decode cX1_copyFrom 43 = .ok (.aaload, 1) := by decide +kernel
theorem dX1_copyFrom_44 : decode cX1_copyFrom 44 = .ok (.aload_n 1, 1) := by decide +kernel
theorem dX1_copyFrom_45 : decode cX1_copyFrom 45 = .ok (.getfield 20, 3) := by decide +kernel
theorem dX1_copyFrom_48 : decode cX1_copyFrom 48 = .ok (.iload_n 2, 1) := by decide +kernel
theorem dX1_copyFrom_49 : decode cX1_copyFrom 49 = .ok (.aaload, 1) := by decide +kernel
theorem dX1_copyFrom_50 : decode cX1_copyFrom 50 = .ok (.sipush 511, 3) := by decide +kernel
theorem dX1_copyFrom_53 : decode cX1_copyFrom 53 = .ok (.invokevirtual 53, 3) := by decide +kernel
theorem dX1_copyFrom_56 : decode cX1_copyFrom 56 = .ok (.iinc 2 1, 3) := by decide +kernel
theorem dX1_copyFrom_59 : decode cX1_copyFrom 59 = .ok (.goto (-26), 3) := by decide +kernel
theorem dX1_copyFrom_62 : decode cX1_copyFrom 62 = .ok (.aload_n 0, 1) := by decide +kernel
theorem dX1_copyFrom_63 : decode cX1_copyFrom 63 = .ok (.aload_n 1, 1) := by decide +kernel
theorem dX1_copyFrom_64 : decode cX1_copyFrom 64 = .ok (.getfield 27, 3) := by decide +kernel
theorem dX1_copyFrom_67 : decode cX1_copyFrom 67 = .ok (.putfield 27, 3) := by decide +kernel
theorem dX1_copyFrom_70 : decode cX1_copyFrom 70 = .ok (.aload_n 0, 1) := by decide +kernel
theorem dX1_copyFrom_71 : decode cX1_copyFrom 71 = .ok (.aload_n 1, 1) := by decide +kernel
theorem dX1_copyFrom_72 : decode cX1_copyFrom 72 = .ok (.getfield 31, 3) := by decide +kernel
theorem dX1_copyFrom_75 : decode cX1_copyFrom 75 = .ok (.invokevirtual 57, 3) := by decide +kernel
theorem dX1_copyFrom_78 : decode cX1_copyFrom 78 = .ok (.return_, 1) := by decide +kernel
theorem dX3_partOf_0 : decode cX3_partOf 0 = .ok (.iload_n 2, 1) := by decide +kernel
theorem dX3_partOf_1 : decode cX3_partOf 1 = .ok (.ifCond .lt 19, 3) := by decide +kernel
theorem dX3_partOf_4 : decode cX3_partOf 4 = .ok (.iload_n 2, 1) := by decide +kernel
theorem dX3_partOf_5 : decode cX3_partOf 5 = .ok (.getstatic 31, 3) := by decide +kernel
theorem dX3_partOf_8 : decode cX3_partOf 8 = .ok (.arraylength, 1) := by decide +kernel
theorem dX3_partOf_9 : decode cX3_partOf 9 = .ok (.if_icmp .ge 11, 3) := by decide +kernel
theorem dX3_partOf_12 : decode cX3_partOf 12 = .ok (.iload_n 2, 1) := by decide +kernel
theorem dX3_partOf_13 : decode cX3_partOf 13 = .ok (.getstatic 35, 3) := by decide +kernel
theorem dX3_partOf_16 : decode cX3_partOf 16 = .ok (.arraylength, 1) := by decide +kernel
theorem dX3_partOf_17 : decode cX3_partOf 17 = .ok (.if_icmp .lt 5, 3) := by decide +kernel
theorem dX3_partOf_20 : decode cX3_partOf 20 = .ok (.iconst 0, 1) := by decide +kernel
theorem dX3_partOf_21 : decode cX3_partOf 21 = .ok (.ireturn, 1) := by decide +kernel
theorem dX3_partOf_22 : decode cX3_partOf 22 = .ok (.lload_n 0, 1) := by decide +kernel
theorem dX3_partOf_23 : decode cX3_partOf 23 = .ok (.getstatic 31, 3) := by decide +kernel
theorem dX3_partOf_26 : decode cX3_partOf 26 = .ok (.iload_n 2, 1) := by decide +kernel
theorem dX3_partOf_27 : decode cX3_partOf 27 = .ok (.iaload, 1) := by decide +kernel
theorem dX3_partOf_28 : decode cX3_partOf 28 = .ok (.lshr, 1) := by decide +kernel
theorem dX3_partOf_29 : decode cX3_partOf 29 = .ok (.l2i, 1) := by decide +kernel
theorem dX3_partOf_30 : decode cX3_partOf 30 = .ok (.getstatic 35, 3) := by decide +kernel
theorem dX3_partOf_33 : decode cX3_partOf 33 = .ok (.iload_n 2, 1) := by decide +kernel
theorem dX3_partOf_34 : decode cX3_partOf 34 = .ok (.iaload, 1) := by decide +kernel
theorem dX3_partOf_35 : decode cX3_partOf 35 = .ok (.iand, 1) := by decide +kernel
theorem dX3_partOf_36 : decode cX3_partOf 36 = .ok (.ireturn, 1) := by decide +kernel
theorem dX3_begin_0 : decode cX3_begin 0 = .ok (.aload_n 0, 1) := by decide +kernel
theorem dX3_begin_1 : decode cX3_begin 1 = .ok (.lload_n 1, 1) := by decide +kernel
theorem dX3_begin_2 : decode cX3_begin 2 = .ok (.putfield 9, 3) := by decide +kernel
theorem dX3_begin_5 : decode cX3_begin 5 = .ok (.aload_n 0, 1) := by decide +kernel
theorem dX3_begin_6 : decode cX3_begin 6 = .ok (.lconst 0, 1) := by decide +kernel
theorem dX3_begin_7 : decode cX3_begin 7 = .ok (.putfield 15, 3) := by decide +kernel
theorem dX3_begin_10 : decode cX3_begin 10 = .ok (.aload_n 0, 1) := by decide +kernel
theorem dX3_begin_11 : decode cX3_begin 11 = .ok (.lconst 0, 1) := by decide +kernel
theorem dX3_begin_12 : decode cX3_begin 12 = .ok (.putfield 18, 3) := by decide +kernel
theorem dX3_begin_15 : decode cX3_begin 15 = .ok (.aload_n 0, 1) := by decide +kernel
theorem dX3_begin_16 : decode cX3_begin 16 = .ok (.iload_n 3, 1) := by decide +kernel
theorem dX3_begin_17 : decode cX3_begin 17 = .ok (.putfield 21, 3) := by decide +kernel
theorem dX3_begin_20 : decode cX3_begin 20 = .ok (.aload_n 0, 1) := by decide +kernel
theorem dX3_begin_21 : decode cX3_begin 21 = .ok (.iload_n 3, 1) := by decide +kernel
theorem dX3_begin_22 : decode cX3_begin 22 = .ok (.putfield 25, 3) := by decide +kernel
theorem dX3_begin_25 : decode cX3_begin 25 = .ok (.return_, 1) := by decide +kernel
theorem dX4_isFull_0 : decode cX4_isFull 0 = .ok (.aload_n 0, 1) := by decide +kernel
theorem dX4_isFull_1 : decode cX4_isFull 1 = .ok (.getfield 9, 3) := by decide +kernel
theorem dX4_isFull_4 : decode cX4_isFull 4 = .ok (.aload_n 0, 1) := by decide +kernel
theorem dX4_isFull_5 : decode cX4_isFull 5 = .ok (.getfield 23, 3) := by decide +kernel
theorem dX4_isFull_8 : decode cX4_isFull 8 = .ok (.arraylength, 1) := by decide +kernel
theorem dX4_isFull_9 : decode cX4_isFull 9 = .ok (.if_icmp .lt 7, 3) := by decide +kernel
theorem dX4_isFull_12 : decode cX4_isFull 12 = .ok (.iconst 1, 1) := by decide +kernel
theorem dX4_isFull_13 : decode cX4_isFull 13 = .ok (.goto 4, 3) := by decide +kernel
theorem dX4_isFull_16 : decode cX4_isFull 16 = .ok (.iconst 0, 1) := by decide +kernel
theorem dX4_isFull_17 : decode cX4_isFull 17 = .ok (.ireturn, 1) := by decide +kernel
theorem dX4_flowAt_0 : decode cX4_flowAt 0 = .ok (.aload_n 0, 1) := by decide +kernel
theorem dX4_flowAt_1 : decode cX4_flowAt 1 = .ok (.getfield 23, 3) := by decide +kernel
theorem dX4_flowAt_4 : decode cX4_flowAt 4 = .ok (.iload_n 1, 1) := by decide +kernel
theorem dX4_flowAt_5 : decode cX4_flowAt 5 = .ok (.ifCond .lt 16, 3) := by decide +kernel
theorem dX4_flowAt_8 : decode cX4_flowAt 8 = .ok (.iload_n 1, 1) := by decide +kernel
theorem dX4_flowAt_9 : decode cX4_flowAt 9 = .ok (.aload_n 0, 1) := by decide +kernel
theorem dX4_flowAt_10 : decode cX4_flowAt 10 = .ok (.getfield 23, 3) := by decide +kernel
theorem dX4_flowAt_13 : decode cX4_flowAt 13 = .ok (.arraylength, 1) := by decide +kernel
theorem dX4_flowAt_14 : decode cX4_flowAt 14 = .ok (.if_icmp .ge 7, 3) := by decide +kernel
theorem dX4_flowAt_17 : decode cX4_flowAt 17 = .ok (.iload_n 1, 1) := by decide +kernel
theorem dX4_flowAt_18 : decode cX4_flowAt 18 = .ok (.goto 4, 3) := by decide +kernel
theorem dX4_flowAt_21 : decode cX4_flowAt 21 = .ok (.iconst 0, 1) := by decide +kernel
theorem dX4_flowAt_22 : decode cX4_flowAt 22 = .ok (.aaload, 1) := by decide +kernel
theorem dX4_flowAt_23 : decode cX4_flowAt 23 = .ok (.areturn, 1) := by decide +kernel
theorem dX4_indexOf_0 : decode cX4_indexOf 0 = .ok (.iconst 0, 1) := by decide +kernel
theorem dX4_indexOf_1 : decode cX4_indexOf 1 = .ok (.istore_n 3, 1) := by decide +kernel
theorem dX4_indexOf_2 : decode cX4_indexOf 2 = .ok (.iload_n 3, 1) := by decide +kernel
theorem dX4_indexOf_3 : decode cX4_indexOf 3 = .ok (.aload_n 0, 1) := by decide +kernel
theorem dX4_indexOf_4 : decode cX4_indexOf 4 = .ok (.getfield 9, 3) := by decide +kernel
theorem dX4_indexOf_7 : decode cX4_indexOf 7 = .ok (.if_icmp .ge 25, 3) := by decide +kernel
theorem dX4_indexOf_10 : decode cX4_indexOf 10 = .ok (.aload_n 0, 1) := by decide +kernel
theorem dX4_indexOf_11 : decode cX4_indexOf 11 = .ok (.getfield 23, 3) := by decide +kernel
theorem dX4_indexOf_14 : decode cX4_indexOf 14 = .ok (.iload_n 3, 1) := by decide +kernel
theorem dX4_indexOf_15 : decode cX4_indexOf 15 = .ok (.aaload, 1) := by decide +kernel
theorem dX4_indexOf_16 : decode cX4_indexOf 16 = .ok (.getfield 28, 3) := by decide +kernel
theorem dX4_indexOf_19 : decode cX4_indexOf 19 = .ok (.lload_n 1, 1) := by decide +kernel
theorem dX4_indexOf_20 : decode cX4_indexOf 20 = .ok (.lcmp, 1) := by decide +kernel
theorem dX4_indexOf_21 : decode cX4_indexOf 21 = .ok (.ifCond .ne 5, 3) := by decide +kernel
theorem dX4_indexOf_24 : decode cX4_indexOf 24 = .ok (.iload_n 3, 1) := by decide +kernel
theorem dX4_indexOf_25 : decode cX4_indexOf 25 = .ok (.ireturn, 1) := by decide +kernel
theorem dX4_indexOf_26 : decode cX4_indexOf 26 = .ok (.iinc 3 1, 3) := by decide +kernel
theorem dX4_indexOf_29 : decode cX4_indexOf 29 = .ok (.goto (-27), 3) := by decide +kernel
theorem dX4_indexOf_32 : decode cX4_indexOf 32 = .ok (.iconst (-1), 1) := by decide +kernel
theorem dX4_indexOf_33 : decode cX4_indexOf 33 = .ok (.ireturn, 1) := by decide +kernel
set_option maxRecDepth 20000 in
theorem ggX4_addFlow_X4_flowAt : GoodIn wsX4_addFlow wsX4_flowAt := (goodIn_ca (goodIn_r _ [11, 2] rfl (by decide +kernel)) (goodIn_sub (fun _ h => List.mem_cons_of_mem _ (List.mem_append_left _ (List.mem_append_right _ h))) gw_wsX40))
set_option maxRecDepth 20000 in
theorem gX4_addFlow_X4_flowAt : GoodIn wsX4_addFlow (wsV RX4 32 RX4 yX4_flowAt wsX4_flowAt) := goodIn_app (goodIn_m (mem_cA (List.mem_cons_of_mem _ (List.mem_append_left _ (List.mem_append_left _ (List.mem_of_getElem? (i := 6) rfl)))) (mem_cA (List.mem_cons_of_mem _ (List.mem_append_left _ (List.mem_append_left _ (List.mem_of_getElem? (i := 7) rfl)))) (mem_cA (List.mem_cons_of_mem _ (List.mem_append_left _ (List.mem_append_left _ (List.mem_of_getElem? (i := 8) rfl)))) (mem_cA (List.mem_cons_of_mem _ (List.mem_append_left _ (List.mem_append_left _ (List.mem_of_getElem? (i := 9) rfl)))) mem_cZ)))) (by decide +kernel)) ggX4_addFlow_X4_flowAt
set_option maxRecDepth 20000 in
theorem ggX4_addFlow_X3_begin : GoodIn wsX4_addFlow wsX3_begin := (goodIn_ca (goodIn_r _ [16, 17, 18, 19, 20, 21] rfl (by decide +kernel)) (goodIn_sub (fun _ h => List.mem_cons_of_mem _ (List.mem_append_right _ h)) gw_wsX30))
set_option maxRecDepth 20000 in
theorem gX4_addFlow_X3_begin : GoodIn wsX4_addFlow (wsV RX4 36 RX3 yX3_begin wsX3_begin) := goodIn_app (goodIn_m (mem_cA (List.mem_cons_of_mem _ (List.mem_append_left _ (List.mem_append_left _ (List.mem_of_getElem? (i := 11) rfl)))) (mem_cA (List.mem_cons_of_mem _ (List.mem_append_left _ (List.mem_append_left _ (List.mem_of_getElem? (i := 12) rfl)))) (mem_cA (List.mem_cons_of_mem _ (List.mem_append_left _ (List.mem_append_left _ (List.mem_of_getElem? (i := 13) rfl)))) (mem_cA (List.mem_cons_of_mem _ (List.mem_append_left _ (List.mem_append_left _ (List.mem_of_getElem? (i := 14) rfl)))) mem_cZ)))) (by decide +kernel)) ggX4_addFlow_X3_begin
theorem dX4_addFlow_0 : decode cX4_addFlow 0 = .ok (.aload_n 0, 1) := by decide +kernel
theorem dX4_addFlow_1 : decode cX4_addFlow 1 = .ok (.aload_n 0, 1) := by decide +kernel
theorem dX4_addFlow_2 : decode cX4_addFlow 2 = .ok (.getfield 9, 3) := by decide +kernel
theorem dX4_addFlow_5 : decode cX4_addFlow 5 = .ok (.invokevirtual 32, 3) := by decide +kernel
theorem dX4_addFlow_8 : decode cX4_addFlow 8 = .ok (.astore 4, 2) := by decide +kernel
theorem dX4_addFlow_10 : decode cX4_addFlow 10 = .ok (.aload 4, 2) := by decide +kernel
theorem dX4_addFlow_12 : decode cX4_addFlow 12 = .ok (.lload_n 1, 1) := by decide +kernel
theorem dX4_addFlow_13 : decode cX4_addFlow 13 = .ok (.iload_n 3, 1) := by decide +kernel
theorem dX4_addFlow_14 : decode cX4_addFlow 14 = .ok (.invokevirtual 36, 3) := by decide +kernel
theorem dX4_addFlow_17 : decode cX4_addFlow 17 = .ok (.aload_n 0, 1) := by decide +kernel
theorem dX4_addFlow_18 : decode cX4_addFlow 18 = .ok (.aload_n 0, 1) := by decide +kernel
theorem dX4_addFlow_19 : decode cX4_addFlow 19 = .ok (.getfield 9, 3) := by decide +kernel
theorem dX4_addFlow_22 : decode cX4_addFlow 22 = .ok (.iconst 1, 1) := by decide +kernel
theorem dX4_addFlow_23 : decode cX4_addFlow 23 = .ok (.iadd, 1) := by decide +kernel
theorem dX4_addFlow_24 : decode cX4_addFlow 24 = .ok (.aload_n 0, 1) := by decide +kernel
theorem dX4_addFlow_25 : decode cX4_addFlow 25 = .ok (.getfield 23, 3) := by decide +kernel
theorem dX4_addFlow_28 : decode cX4_addFlow 28 = .ok (.arraylength, 1) := by decide +kernel
theorem dX4_addFlow_29 : decode cX4_addFlow 29 = .ok (.invokestatic 40, 3) := by decide +kernel
theorem dX4_addFlow_32 : decode cX4_addFlow 32 = .ok (.putfield 9, 3) := by decide +kernel
theorem dX4_addFlow_35 : decode cX4_addFlow 35 = .ok (.aload 4, 2) := by decide +kernel
theorem dX4_addFlow_37 : decode cX4_addFlow 37 = .ok (.areturn, 1) := by decide +kernel
set_option maxRecDepth 20000 in
theorem ggX4_removeAt_X4_flowAt : GoodIn wsX4_removeAt wsX4_flowAt := (goodIn_ca (goodIn_r _ [7, 2] rfl (by decide +kernel)) (goodIn_sub (fun _ h => List.mem_cons_of_mem _ (List.mem_append_right _ h)) gw_wsX40))
set_option maxRecDepth 20000 in
theorem gX4_removeAt_X4_flowAt : GoodIn wsX4_removeAt (wsV RX4 32 RX4 yX4_flowAt wsX4_flowAt) := goodIn_app (goodIn_m (mem_cA (List.mem_cons_of_mem _ (List.mem_append_left _ (List.mem_of_getElem? (i := 2) rfl))) (mem_cA (List.mem_cons_of_mem _ (List.mem_append_left _ (List.mem_of_getElem? (i := 3) rfl))) (mem_cA (List.mem_cons_of_mem _ (List.mem_append_left _ (List.mem_of_getElem? (i := 4) rfl))) (mem_cA (List.mem_cons_of_mem _ (List.mem_append_left _ (List.mem_of_getElem? (i := 5) rfl))) mem_cZ)))) (by decide +kernel)) ggX4_removeAt_X4_flowAt
theorem dX4_removeAt_0 : decode cX4_removeAt 0 = .ok (.aload_n 0, 1) := by decide +kernel
theorem dX4_removeAt_1 : decode cX4_removeAt 1 = .ok (.iload_n 1, 1) := by decide +kernel
theorem dX4_removeAt_2 : decode cX4_removeAt 2 = .ok (.invokevirtual 32, 3) := by decide +kernel
theorem dX4_removeAt_5 : decode cX4_removeAt 5 = .ok (.astore_n 2, 1) := by decide +kernel
theorem dX4_removeAt_6 : decode cX4_removeAt 6 = .ok (.iload_n 1, 1) := by decide +kernel
theorem dX4_removeAt_7 : decode cX4_removeAt 7 = .ok (.ifCond .lt 11, 3) := by decide +kernel
theorem dX4_removeAt_10 : decode cX4_removeAt 10 = .ok (.iload_n 1, 1) := by decide +kernel
theorem dX4_removeAt_11 : decode cX4_removeAt 11 = .ok (.aload_n 0, 1) := by decide +kernel
theorem dX4_removeAt_12 : decode cX4_removeAt 12 = .ok (.getfield 9, 3) := by decide +kernel
theorem dX4_removeAt_15 : decode cX4_removeAt 15 = .ok (.if_icmp .lt 5, 3) := by decide +kernel
theorem dX4_removeAt_18 : decode cX4_removeAt 18 = .ok (.aload_n 2, 1) := by decide +kernel
theorem dX4_removeAt_19 : decode cX4_removeAt 19 = .ok (.areturn, 1) := by decide +kernel
theorem dX4_removeAt_20 : decode cX4_removeAt 20 = .ok (.iload_n 1, 1) := by decide +kernel
theorem dX4_removeAt_21 : decode cX4_removeAt 21 = .ok (.istore_n 3, 1) := by decide +kernel
theorem dX4_removeAt_22 : decode cX4_removeAt 22 = .ok (.iload_n 3, 1) := by decide +kernel
theorem dX4_removeAt_23 : decode cX4_removeAt 23 = .ok (.aload_n 0, 1) := by decide +kernel
theorem dX4_removeAt_24 : decode cX4_removeAt 24 = .ok (.getfield 9, 3) := by decide +kernel
theorem dX4_removeAt_27 : decode cX4_removeAt 27 = .ok (.iconst 1, 1) := by decide +kernel
theorem dX4_removeAt_28 : decode cX4_removeAt 28 = .ok (.isub, 1) := by decide +kernel
theorem dX4_removeAt_29 : decode cX4_removeAt 29 = .ok (.if_icmp .ge 23, 3) := by decide +kernel
theorem dX4_removeAt_32 : decode cX4_removeAt 32 = .ok (.aload_n 0, 1) := by decide +kernel
theorem dX4_removeAt_33 : decode cX4_removeAt 33 = .ok (.getfield 23, 3) := by decide +kernel
theorem dX4_removeAt_36 : decode cX4_removeAt 36 = .ok (.iload_n 3, 1) := by decide +kernel
theorem dX4_removeAt_37 : decode cX4_removeAt 37 = .ok (.aload_n 0, 1) := by decide +kernel
theorem dX4_removeAt_38 : decode cX4_removeAt 38 = .ok (.getfield 23, 3) := by decide +kernel
theorem dX4_removeAt_41 : decode cX4_removeAt 41 = .ok (.iload_n 3, 1) := by decide +kernel
theorem dX4_removeAt_42 : decode cX4_removeAt 42 = .ok (.iconst 1, 1) := by decide +kernel
theorem dX4_removeAt_43 : decode cX4_removeAt 43 = .ok (.iadd, 1) := by decide +kernel
theorem dX4_removeAt_44 : decode cX4_removeAt 44 = .ok (.aaload, 1) := by decide +kernel
theorem dX4_removeAt_45 : decode cX4_removeAt 45 = .ok (.aastore, 1) := by decide +kernel
theorem dX4_removeAt_46 : decode cX4_removeAt 46 = .ok (.iinc 3 1, 3) := by decide +kernel
theorem dX4_removeAt_49 : decode cX4_removeAt 49 = .ok (.goto (-27), 3) := by decide +kernel
theorem dX4_removeAt_52 : decode cX4_removeAt 52 = .ok (.aload_n 0, 1) := by decide +kernel
theorem dX4_removeAt_53 : decode cX4_removeAt 53 = .ok (.dup, 1) := by decide +kernel
theorem dX4_removeAt_54 : decode cX4_removeAt 54 = .ok (.getfield 9, 3) := by decide +kernel
theorem dX4_removeAt_57 : decode cX4_removeAt 57 = .ok (.iconst 1, 1) := by decide +kernel
theorem dX4_removeAt_58 : decode cX4_removeAt 58 = .ok (.isub, 1) := by decide +kernel
theorem dX4_removeAt_59 : decode cX4_removeAt 59 = .ok (.putfield 9, 3) := by decide +kernel
theorem dX4_removeAt_62 : decode cX4_removeAt 62 = .ok (.aload_n 0, 1) := by decide +kernel
theorem dX4_removeAt_63 : decode cX4_removeAt 63 = .ok (.getfield 23, 3) := by decide +kernel
theorem dX4_removeAt_66 : decode cX4_removeAt 66 = .ok (.aload_n 0, 1) := by decide +kernel
theorem dX4_removeAt_67 : decode cX4_removeAt 67 = .ok (.getfield 9, 3) := by decide +kernel
theorem dX4_removeAt_70 : decode cX4_removeAt 70 = .ok (.aload_n 2, 1) := by decide +kernel
theorem dX4_removeAt_71 : decode cX4_removeAt 71 = .ok (.aastore, 1) := by decide +kernel
theorem dX4_removeAt_72 : decode cX4_removeAt 72 = .ok (.aload_n 2, 1) := by decide +kernel
theorem dX4_removeAt_73 : decode cX4_removeAt 73 = .ok (.areturn, 1) := by decide +kernel
theorem dX4_indexOfEarliestLast_0 : decode cX4_indexOfEarliestLast 0 = .ok (.iconst 0, 1) := by decide +kernel
theorem dX4_indexOfEarliestLast_1 : decode cX4_indexOfEarliestLast 1 = .ok (.istore_n 1, 1) := by decide +kernel
theorem dX4_indexOfEarliestLast_2 : decode cX4_indexOfEarliestLast 2 = .ok (.iconst 1, 1) := by decide +kernel
theorem dX4_indexOfEarliestLast_3 : decode cX4_indexOfEarliestLast 3 = .ok (.istore_n 2, 1) := by decide +kernel
theorem dX4_indexOfEarliestLast_4 : decode cX4_indexOfEarliestLast 4 = .ok (.iload_n 2, 1) := by decide +kernel
theorem dX4_indexOfEarliestLast_5 : decode cX4_indexOfEarliestLast 5 = .ok (.aload_n 0, 1) := by decide +kernel
theorem dX4_indexOfEarliestLast_6 : decode cX4_indexOfEarliestLast 6 = .ok (.getfield 9, 3) := by decide +kernel
theorem dX4_indexOfEarliestLast_9 : decode cX4_indexOfEarliestLast 9 = .ok (.if_icmp .ge 32, 3) := by decide +kernel
theorem dX4_indexOfEarliestLast_12 : decode cX4_indexOfEarliestLast 12 = .ok (.aload_n 0, 1) := by decide +kernel
theorem dX4_indexOfEarliestLast_13 : decode cX4_indexOfEarliestLast 13 = .ok (.getfield 23, 3) := by decide +kernel
theorem dX4_indexOfEarliestLast_16 : decode cX4_indexOfEarliestLast 16 = .ok (.iload_n 2, 1) := by decide +kernel
theorem dX4_indexOfEarliestLast_17 : decode cX4_indexOfEarliestLast 17 = .ok (.aaload, 1) := by decide +kernel
theorem dX4_indexOfEarliestLast_18 : decode cX4_indexOfEarliestLast 18 = .ok (.getfield 43, 3) := by decide +kernel
theorem dX4_indexOfEarliestLast_21 : decode cX4_indexOfEarliestLast 21 = .ok (.aload_n 0, 1) := by decide +kernel
theorem dX4_indexOfEarliestLast_22 : decode cX4_indexOfEarliestLast 22 = .ok (.getfield 23, 3) := by decide +kernel
theorem dX4_indexOfEarliestLast_25 : decode cX4_indexOfEarliestLast 25 = .ok (.iload_n 1, 1) := by decide +kernel
theorem dX4_indexOfEarliestLast_26 : decode cX4_indexOfEarliestLast 26 = .ok (.aaload, 1) := by decide +kernel
theorem dX4_indexOfEarliestLast_27 : decode cX4_indexOfEarliestLast 27 = .ok (.getfield 43, 3) := by decide +kernel
theorem dX4_indexOfEarliestLast_30 : decode cX4_indexOfEarliestLast 30 = .ok (.if_icmp .ge 5, 3) := by decide +kernel
theorem dX4_indexOfEarliestLast_33 : decode cX4_indexOfEarliestLast 33 = .ok (.iload_n 2, 1) := by decide +kernel
theorem dX4_indexOfEarliestLast_34 : decode cX4_indexOfEarliestLast 34 = .ok (.istore_n 1, 1) := by decide +kernel
theorem dX4_indexOfEarliestLast_35 : decode cX4_indexOfEarliestLast 35 = .ok (.iinc 2 1, 3) := by decide +kernel
theorem dX4_indexOfEarliestLast_38 : decode cX4_indexOfEarliestLast 38 = .ok (.goto (-34), 3) := by decide +kernel
theorem dX4_indexOfEarliestLast_41 : decode cX4_indexOfEarliestLast 41 = .ok (.iload_n 1, 1) := by decide +kernel
theorem dX4_indexOfEarliestLast_42 : decode cX4_indexOfEarliestLast 42 = .ok (.ireturn, 1) := by decide +kernel
theorem dX7_clear_0 : decode cX7_clear 0 = .ok (.aload_n 0, 1) := by decide +kernel
theorem dX7_clear_1 : decode cX7_clear 1 = .ok (.iconst 0, 1) := by decide +kernel
theorem dX7_clear_2 : decode cX7_clear 2 = .ok (.putfield 17, 3) := by decide +kernel
theorem dX7_clear_5 : decode cX7_clear 5 = .ok (.aload_n 0, 1) := by decide +kernel
theorem dX7_clear_6 : decode cX7_clear 6 = .ok (.iconst 0, 1) := by decide +kernel
theorem dX7_clear_7 : decode cX7_clear 7 = .ok (.putfield 21, 3) := by decide +kernel
theorem dX7_clear_10 : decode cX7_clear 10 = .ok (.return_, 1) := by decide +kernel
theorem dX7_messageAt_0 : decode cX7_messageAt 0 = .ok (.aload_n 0, 1) := by decide +kernel
theorem dX7_messageAt_1 : decode cX7_messageAt 1 = .ok (.getfield 11, 3) := by decide +kernel
theorem dX7_messageAt_4 : decode cX7_messageAt 4 = .ok (.iload_n 1, 1) := by decide +kernel
theorem dX7_messageAt_5 : decode cX7_messageAt 5 = .ok (.ifCond .lt 16, 3) := by decide +kernel
theorem dX7_messageAt_8 : decode cX7_messageAt 8 = .ok (.iload_n 1, 1) := by decide +kernel
theorem dX7_messageAt_9 : decode cX7_messageAt 9 = .ok (.aload_n 0, 1) := by decide +kernel
theorem dX7_messageAt_10 : decode cX7_messageAt 10 = .ok (.getfield 11, 3) := by decide +kernel
theorem dX7_messageAt_13 : decode cX7_messageAt 13 = .ok (.arraylength, 1) := by decide +kernel
theorem dX7_messageAt_14 : decode cX7_messageAt 14 = .ok (.if_icmp .ge 7, 3) := by decide +kernel
theorem dX7_messageAt_17 : decode cX7_messageAt 17 = .ok (.iload_n 1, 1) := by decide +kernel
theorem dX7_messageAt_18 : decode cX7_messageAt 18 = .ok (.goto 4, 3) := by decide +kernel
theorem dX7_messageAt_21 : decode cX7_messageAt 21 = .ok (.iconst 0, 1) := by decide +kernel
theorem dX7_messageAt_22 : decode cX7_messageAt 22 = .ok (.aaload, 1) := by decide +kernel
theorem dX7_messageAt_23 : decode cX7_messageAt 23 = .ok (.areturn, 1) := by decide +kernel
set_option maxRecDepth 20000 in
theorem ggX7_freeMessage_X7_messageAt : GoodIn wsX7_freeMessage wsX7_messageAt := (goodIn_ca (goodIn_r _ [7, 8] rfl (by decide +kernel)) (goodIn_sub (fun _ h => List.mem_cons_of_mem _ (List.mem_append_left _ (List.mem_append_right _ h))) gw_wsX70))
set_option maxRecDepth 20000 in
theorem gX7_freeMessage_X7_messageAt : GoodIn wsX7_freeMessage (wsV RX7 27 RX7 yX7_messageAt wsX7_messageAt) := goodIn_app (goodIn_m (mem_cA (List.mem_cons_of_mem _ (List.mem_append_left _ (List.mem_append_left _ (List.mem_of_getElem? (i := 2) rfl)))) (mem_cA (List.mem_cons_of_mem _ (List.mem_append_left _ (List.mem_append_left _ (List.mem_of_getElem? (i := 3) rfl)))) (mem_cA (List.mem_cons_of_mem _ (List.mem_append_left _ (List.mem_append_left _ (List.mem_of_getElem? (i := 4) rfl)))) (mem_cA (List.mem_cons_of_mem _ (List.mem_append_left _ (List.mem_append_left _ (List.mem_of_getElem? (i := 5) rfl)))) mem_cZ)))) (by decide +kernel)) ggX7_freeMessage_X7_messageAt
theorem dX7_freeMessage_0 : decode cX7_freeMessage 0 = .ok (.aload_n 0, 1) := by decide +kernel
theorem dX7_freeMessage_1 : decode cX7_freeMessage 1 = .ok (.aload_n 0, 1) := by decide +kernel
theorem dX7_freeMessage_2 : decode cX7_freeMessage 2 = .ok (.getfield 17, 3) := by decide +kernel
theorem dX7_freeMessage_5 : decode cX7_freeMessage 5 = .ok (.invokevirtual 27, 3) := by decide +kernel
theorem dX7_freeMessage_8 : decode cX7_freeMessage 8 = .ok (.astore_n 1, 1) := by decide +kernel
theorem dX7_freeMessage_9 : decode cX7_freeMessage 9 = .ok (.aload_n 1, 1) := by decide +kernel
theorem dX7_freeMessage_10 : decode cX7_freeMessage 10 = .ok (.iconst 0, 1) := by decide +kernel
theorem dX7_freeMessage_11 : decode cX7_freeMessage 11 = .ok (.putfield 31, 3) := by decide +kernel
theorem dX7_freeMessage_14 : decode cX7_freeMessage 14 = .ok (.aload_n 1, 1) := by decide +kernel
theorem dX7_freeMessage_15 : decode cX7_freeMessage 15 = .ok (.areturn, 1) := by decide +kernel
theorem dX7_addFreeMessage_0 : decode cX7_addFreeMessage 0 = .ok (.aload_n 0, 1) := by decide +kernel
theorem dX7_addFreeMessage_1 : decode cX7_addFreeMessage 1 = .ok (.getfield 17, 3) := by decide +kernel
theorem dX7_addFreeMessage_4 : decode cX7_addFreeMessage 4 = .ok (.bipush 12, 2) := by decide +kernel
theorem dX7_addFreeMessage_6 : decode cX7_addFreeMessage 6 = .ok (.if_icmp .ge 16, 3) := by decide +kernel
theorem dX7_addFreeMessage_9 : decode cX7_addFreeMessage 9 = .ok (.aload_n 0, 1) := by decide +kernel
theorem dX7_addFreeMessage_10 : decode cX7_addFreeMessage 10 = .ok (.dup, 1) := by decide +kernel
theorem dX7_addFreeMessage_11 : decode cX7_addFreeMessage 11 = .ok (.getfield 17, 3) := by decide +kernel
theorem dX7_addFreeMessage_14 : decode cX7_addFreeMessage 14 = .ok (.iconst 1, 1) := by decide +kernel
theorem dX7_addFreeMessage_15 : decode cX7_addFreeMessage 15 = .ok (.iadd, 1) := by decide +kernel
theorem dX7_addFreeMessage_16 : decode cX7_addFreeMessage 16 = .ok (.putfield 17, 3) := by decide +kernel
theorem dX7_addFreeMessage_19 : decode cX7_addFreeMessage 19 = .ok (.goto 13, 3) := by decide +kernel
theorem dX7_addFreeMessage_22 : decode cX7_addFreeMessage 22 = .ok (.aload_n 0, 1) := by decide +kernel
theorem dX7_addFreeMessage_23 : decode cX7_addFreeMessage 23 = .ok (.dup, 1) := by decide +kernel
theorem dX7_addFreeMessage_24 : decode cX7_addFreeMessage 24 = .ok (.getfield 21, 3) := by decide +kernel
theorem dX7_addFreeMessage_27 : decode cX7_addFreeMessage 27 = .ok (.iconst 1, 1) := by decide +kernel
theorem dX7_addFreeMessage_28 : decode cX7_addFreeMessage 28 = .ok (.iadd, 1) := by decide +kernel
theorem dX7_addFreeMessage_29 : decode cX7_addFreeMessage 29 = .ok (.putfield 21, 3) := by decide +kernel
theorem dX7_addFreeMessage_32 : decode cX7_addFreeMessage 32 = .ok (.return_, 1) := by decide +kernel
set_option maxRecDepth 20000 in
theorem ggX7_takeOut_X7_messageAt : GoodIn wsX7_takeOut wsX7_messageAt := (goodIn_ca (goodIn_r _ [7, 2] rfl (by decide +kernel)) (goodIn_sub (fun _ h => List.mem_cons_of_mem _ (List.mem_append_right _ h)) gw_wsX70))
set_option maxRecDepth 20000 in
theorem gX7_takeOut_X7_messageAt : GoodIn wsX7_takeOut (wsV RX7 27 RX7 yX7_messageAt wsX7_messageAt) := goodIn_app (goodIn_m (mem_cA (List.mem_cons_of_mem _ (List.mem_append_left _ (List.mem_of_getElem? (i := 2) rfl))) (mem_cA (List.mem_cons_of_mem _ (List.mem_append_left _ (List.mem_of_getElem? (i := 3) rfl))) (mem_cA (List.mem_cons_of_mem _ (List.mem_append_left _ (List.mem_of_getElem? (i := 4) rfl))) (mem_cA (List.mem_cons_of_mem _ (List.mem_append_left _ (List.mem_of_getElem? (i := 5) rfl))) mem_cZ)))) (by decide +kernel)) ggX7_takeOut_X7_messageAt
theorem dX7_takeOut_0 : decode cX7_takeOut 0 = .ok (.aload_n 0, 1) := by decide +kernel
theorem dX7_takeOut_1 : decode cX7_takeOut 1 = .ok (.iload_n 1, 1) := by decide +kernel
theorem dX7_takeOut_2 : decode cX7_takeOut 2 = .ok (.invokevirtual 27, 3) := by decide +kernel
theorem dX7_takeOut_5 : decode cX7_takeOut 5 = .ok (.astore_n 2, 1) := by decide +kernel
theorem dX7_takeOut_6 : decode cX7_takeOut 6 = .ok (.iload_n 1, 1) := by decide +kernel
theorem dX7_takeOut_7 : decode cX7_takeOut 7 = .ok (.ifCond .lt 11, 3) := by decide +kernel
theorem dX7_takeOut_10 : decode cX7_takeOut 10 = .ok (.iload_n 1, 1) := by decide +kernel
theorem dX7_takeOut_11 : decode cX7_takeOut 11 = .ok (.aload_n 0, 1) := by decide +kernel
theorem dX7_takeOut_12 : decode cX7_takeOut 12 = .ok (.getfield 17, 3) := by decide +kernel
theorem dX7_takeOut_15 : decode cX7_takeOut 15 = .ok (.if_icmp .lt 5, 3) := by decide +kernel
theorem dX7_takeOut_18 : decode cX7_takeOut 18 = .ok (.aload_n 2, 1) := by decide +kernel
theorem dX7_takeOut_19 : decode cX7_takeOut 19 = .ok (.areturn, 1) := by decide +kernel
theorem dX7_takeOut_20 : decode cX7_takeOut 20 = .ok (.iload_n 1, 1) := by decide +kernel
theorem dX7_takeOut_21 : decode cX7_takeOut 21 = .ok (.istore_n 3, 1) := by decide +kernel
theorem dX7_takeOut_22 : decode cX7_takeOut 22 = .ok (.iload_n 3, 1) := by decide +kernel
theorem dX7_takeOut_23 : decode cX7_takeOut 23 = .ok (.aload_n 0, 1) := by decide +kernel
theorem dX7_takeOut_24 : decode cX7_takeOut 24 = .ok (.getfield 17, 3) := by decide +kernel
theorem dX7_takeOut_27 : decode cX7_takeOut 27 = .ok (.iconst 1, 1) := by decide +kernel
theorem dX7_takeOut_28 : decode cX7_takeOut 28 = .ok (.isub, 1) := by decide +kernel
theorem dX7_takeOut_29 : decode cX7_takeOut 29 = .ok (.if_icmp .ge 23, 3) := by decide +kernel
theorem dX7_takeOut_32 : decode cX7_takeOut 32 = .ok (.aload_n 0, 1) := by decide +kernel
theorem dX7_takeOut_33 : decode cX7_takeOut 33 = .ok (.getfield 11, 3) := by decide +kernel
theorem dX7_takeOut_36 : decode cX7_takeOut 36 = .ok (.iload_n 3, 1) := by decide +kernel
theorem dX7_takeOut_37 : decode cX7_takeOut 37 = .ok (.aload_n 0, 1) := by decide +kernel
theorem dX7_takeOut_38 : decode cX7_takeOut 38 = .ok (.getfield 11, 3) := by decide +kernel
theorem dX7_takeOut_41 : decode cX7_takeOut 41 = .ok (.iload_n 3, 1) := by decide +kernel
theorem dX7_takeOut_42 : decode cX7_takeOut 42 = .ok (.iconst 1, 1) := by decide +kernel
theorem dX7_takeOut_43 : decode cX7_takeOut 43 = .ok (.iadd, 1) := by decide +kernel
theorem dX7_takeOut_44 : decode cX7_takeOut 44 = .ok (.aaload, 1) := by decide +kernel
theorem dX7_takeOut_45 : decode cX7_takeOut 45 = .ok (.aastore, 1) := by decide +kernel
theorem dX7_takeOut_46 : decode cX7_takeOut 46 = .ok (.iinc 3 1, 3) := by decide +kernel
theorem dX7_takeOut_49 : decode cX7_takeOut 49 = .ok (.goto (-27), 3) := by decide +kernel
theorem dX7_takeOut_52 : decode cX7_takeOut 52 = .ok (.aload_n 0, 1) := by decide +kernel
theorem dX7_takeOut_53 : decode cX7_takeOut 53 = .ok (.dup, 1) := by decide +kernel
theorem dX7_takeOut_54 : decode cX7_takeOut 54 = .ok (.getfield 17, 3) := by decide +kernel
theorem dX7_takeOut_57 : decode cX7_takeOut 57 = .ok (.iconst 1, 1) := by decide +kernel
theorem dX7_takeOut_58 : decode cX7_takeOut 58 = .ok (.isub, 1) := by decide +kernel
theorem dX7_takeOut_59 : decode cX7_takeOut 59 = .ok (.putfield 17, 3) := by decide +kernel
theorem dX7_takeOut_62 : decode cX7_takeOut 62 = .ok (.aload_n 0, 1) := by decide +kernel
theorem dX7_takeOut_63 : decode cX7_takeOut 63 = .ok (.getfield 11, 3) := by decide +kernel
theorem dX7_takeOut_66 : decode cX7_takeOut 66 = .ok (.aload_n 0, 1) := by decide +kernel
theorem dX7_takeOut_67 : decode cX7_takeOut 67 = .ok (.getfield 17, 3) := by decide +kernel
theorem dX7_takeOut_70 : decode cX7_takeOut 70 = .ok (.aload_n 2, 1) := by decide +kernel
theorem dX7_takeOut_71 : decode cX7_takeOut 71 = .ok (.aastore, 1) := by decide +kernel
theorem dX7_takeOut_72 : decode cX7_takeOut 72 = .ok (.aload_n 2, 1) := by decide +kernel
theorem dX7_takeOut_73 : decode cX7_takeOut 73 = .ok (.areturn, 1) := by decide +kernel
theorem hv_X1_copyFrom_20 : Cond.fieldLink RX1 20 "FlowExporter$Config" (TX1 2).2.1 (TX1 2).2.2.1 ∈ wsX1_copyFrom := List.mem_cons_of_mem _ (List.mem_append_left _ (List.mem_append_left _ (List.mem_append_left _ (List.mem_append_left _ (List.mem_of_getElem? (i := 6) rfl)))))

set_option maxHeartbeats 4000000 in
set_option maxRecDepth 100000 in
theorem s_X1_copyFrom (G : EnvG) (l : Launch) (Φ : Hm) (sz x ca : Nat)  (hx : G.2.2.2 ≤ x) (hI : In G x ca Φ)  : Ct G l yX1_copyFrom wsX1_copyFrom ({ frames := 3, cells := 0, slots := 0, locals := 67 }) 0 0 [.ref (x + 3), .ref (x + 25)] Φ sz (fun v Φ1 sz1 => (v = none) ∧ sz1 = sz ∧ In G x (ca) Φ1 ∧ Fr x (fun j9 => 3 ≤ j9 ∧ j9 < 24) Φ Φ1) := by
  refine Ct.of (cc := cX1_copyFrom) (maxL := 3) (ret := none) (by decide) rfl (Nat.le_of_ble_eq_true rfl) ?_
  intro p9 e9 s9 m9 w9 t9 k9 B
  show Z p9 l e9 _ s9 m9 _ w9 t9 k9 _ G 3 0 [(0, .ref (x + 3)), (1, .ref (x + 25))] [] Φ sz 0 0
  refine z_aload_n B dX1_copyFrom_0 rfl 1 rfl ?_
  obtain ⟨v_1, v_2, h_1⟩ := in3 (k := 25) hI rfl
  have h_2 : Φ (x + 25) = some (o_ 3 [.ref (x + 26), .ref (x + 27), .ref (x + 28), .ref (x + 29), .int v_1, .int v_2]) := h_1
  refine z_get (ref := "FlowExporter$Config") (C := RX1) (T := TX1) (N := 6) (ci := 3) (v := .ref (x + 26)) B hu_X1_copyFrom_X1 rfl 0 (Nat.le_of_ble_eq_true rfl) hv_X1_copyFrom_9 rfl h_2 rfl dX1_copyFrom_1 ?_
  refine z_iconst (v := 0) B dX1_copyFrom_4 rfl ?_
  refine z_aload_n B dX1_copyFrom_5 rfl 0 rfl ?_
  obtain ⟨v_3, v_4, h_3⟩ := in3 (k := 3) hI rfl
  have h_4 : Φ (x + 3) = some (o_ 3 [.ref (x + 4), .ref (x + 5), .ref (x + 6), .ref (x + 7), .int v_3, .int v_4]) := h_3
  refine z_get (ref := "FlowExporter$Config") (C := RX1) (T := TX1) (N := 6) (ci := 3) (v := .ref (x + 4)) B hu_X1_copyFrom_X1 rfl 0 (Nat.le_of_ble_eq_true rfl) hv_X1_copyFrom_9 rfl h_4 rfl dX1_copyFrom_6 ?_
  refine z_iconst (v := 0) B dX1_copyFrom_9 rfl ?_
  refine z_bipush (v := 9) B dX1_copyFrom_10 rfl ?_
  obtain ⟨f_1, h_5, r_1⟩ := in4 (k := 4) hI rfl
  have h_6 : Φ (x + 4) = some (ai_ G 9 f_1) := h_5
  obtain ⟨f_2, h_7, r_2⟩ := in4 (k := 26) hI rfl
  have h_8 : Φ (x + 26) = some (ai_ G 9 f_2) := h_7
  refine z_copy (t := 0) (ty := .int) B (by decide +kernel) (by decide +kernel) (by decide +kernel) (by decide +kernel) rfl rfl h_8 h_6 (Nat.le_trans hx (Nat.le_add_right x 4)) (by decide) (by decide) (by decide) (by decide) (by decide) (fun _ _ => rfl) (Nat.le_of_ble_eq_true rfl) (by decide +kernel) dX1_copyFrom_12 (fun Φ1 hΦ1 => ?_)
  have h_9 : Φ1 (x + 4) = some (ai_ G 9 (va_cpy f_2 f_1 (0 : Int32).toNatClampNeg (0 : Int32).toNatClampNeg (9 : Int32).toNatClampNeg)) := fset_at hΦ1
  have hI1 : In G x (ca) Φ1 := In.put (k := 4) hI hΦ1 (ok4 (k := 4) rfl ⟨_, rfl, cpy_nn r_2 r_1⟩)
  refine z_aload_n B dX1_copyFrom_15 rfl 1 rfl ?_
  have h_10 : Φ1 (x + 25) = some (o_ 3 [.ref (x + 26), .ref (x + 27), .ref (x + 28), .ref (x + 29), .int v_1, .int v_2]) := ((fset_fr hΦ1 (ne_off (x := x) (i := 25) (j := 4) rfl)).trans h_2)
  refine z_get (ref := "FlowExporter$Config") (C := RX1) (T := TX1) (N := 6) (ci := 3) (v := .ref (x + 27)) B hu_X1_copyFrom_X1 rfl 1 (Nat.le_of_ble_eq_true rfl) hv_X1_copyFrom_15 rfl h_10 rfl dX1_copyFrom_16 ?_
  refine z_iconst (v := 0) B dX1_copyFrom_19 rfl ?_
  refine z_aload_n B dX1_copyFrom_20 rfl 0 rfl ?_
  have h_11 : Φ1 (x + 3) = some (o_ 3 [.ref (x + 4), .ref (x + 5), .ref (x + 6), .ref (x + 7), .int v_3, .int v_4]) := ((fset_fr hΦ1 (ne_off (x := x) (i := 3) (j := 4) rfl)).trans h_4)
  refine z_get (ref := "FlowExporter$Config") (C := RX1) (T := TX1) (N := 6) (ci := 3) (v := .ref (x + 5)) B hu_X1_copyFrom_X1 rfl 1 (Nat.le_of_ble_eq_true rfl) hv_X1_copyFrom_15 rfl h_11 rfl dX1_copyFrom_21 ?_
  refine z_iconst (v := 0) B dX1_copyFrom_24 rfl ?_
  refine z_sipush (v := 256) B dX1_copyFrom_25 rfl ?_
  obtain ⟨f_3, h_12⟩ := in5 (k := 5) hI1 rfl
  have h_13 : Φ1 (x + 5) = some (ai_ G 256 f_3) := h_12
  obtain ⟨f_4, h_14⟩ := in5 (k := 27) hI1 rfl
  have h_15 : Φ1 (x + 27) = some (ai_ G 256 f_4) := h_14
  refine z_copy (t := 0) (ty := .int) B (by decide +kernel) (by decide +kernel) (by decide +kernel) (by decide +kernel) rfl rfl h_15 h_13 (Nat.le_trans hx (Nat.le_add_right x 5)) (by decide) (by decide) (by decide) (by decide) (by decide) (fun _ _ => rfl) (Nat.le_of_ble_eq_true rfl) (by decide +kernel) dX1_copyFrom_28 (fun Φ2 hΦ2 => ?_)
  have h_16 : Φ2 (x + 5) = some (ai_ G 256 (va_cpy f_4 f_3 (0 : Int32).toNatClampNeg (0 : Int32).toNatClampNeg (256 : Int32).toNatClampNeg)) := fset_at hΦ2
  have hI2 : In G x (ca) Φ2 := In.put (k := 5) hI1 hΦ2 (ok5 (k := 5) rfl ⟨_, rfl⟩)
  refine z_iconst (v := 0) B dX1_copyFrom_31 rfl ?_
  refine z_istore_n (lv' := [(2, .int 0), (0, .ref (x + 3)), (1, .ref (x + 25))]) B dX1_copyFrom_32 rfl (Nat.le_of_ble_eq_true rfl) rfl ?_
  refine z_lv [0, 1, 2] rfl ?_
  refine z_loop (α := Nat) (fun (a9 : Nat) Φi => In G x (ca) Φi ∧ Fr x (fun j9 => 3 ≤ j9 ∧ j9 < 24) Φ2 Φi ∧ (a9 ≤ 4) ∧ True) (fun a9 => [(2, .int (nI a9)), (0, .ref (x + 3)), (1, .ref (x + 25))]) (fun a9 => 4 - a9) ?_ (0) ⟨hI2, fun _ _ => rfl, (show 0 ≤ 4 by omega), trivial⟩
  rintro i_1 Φl1 ⟨hI3, hF1, b_1, -⟩ ih1
  replace hI3 : In G x (ca) Φl1 := hI3
  replace b_1 : i_1 ≤ 4 := b_1
  show Z p9 l e9 _ s9 m9 _ w9 t9 k9 _ G 3 33 [(2, .int (nI i_1)), (0, .ref (x + 3)), (1, .ref (x + 25))] [] Φl1 _ _ _
  refine z_iload_n B dX1_copyFrom_33 rfl 0 rfl ?_
  refine z_iconst (v := 4) B dX1_copyFrom_34 rfl ?_
  refine z_icmp_ge (tgt := 62) B dX1_copyFrom_35 rfl (fun c_1 => ?_) (fun c_1 => ?_)
  · have e_1 : 4 ≤ i_1 := (nI_leI (a := 4) (b := i_1) (by omega) (by omega)).mp c_1
    refine z_aload_n B dX1_copyFrom_62 rfl 1 rfl ?_
    refine z_aload_n B dX1_copyFrom_63 rfl 2 rfl ?_
    have h_17 : Φl1 (x + 25) = some (o_ 3 [.ref (x + 26), .ref (x + 27), .ref (x + 28), .ref (x + 29), .int v_1, .int v_2]) := ((hF1 (x + 25) fq_53).trans ((fset_fr hΦ2 (ne_off (x := x) (i := 25) (j := 5) rfl)).trans h_10))
    refine z_get (ref := "FlowExporter$Config") (C := RX1) (T := TX1) (N := 6) (ci := 3) (v := .int v_1) B hu_X1_copyFrom_X1 rfl 4 (Nat.le_of_ble_eq_true rfl) hv_X1_copyFrom_27 rfl h_17 rfl dX1_copyFrom_64 ?_
    obtain ⟨v_5, v_6, h_18⟩ := in3 (k := 3) hI3 rfl
    have h_19 : Φl1 (x + 3) = some (o_ 3 [.ref (x + 4), .ref (x + 5), .ref (x + 6), .ref (x + 7), .int v_5, .int v_6]) := h_18
    refine z_put (ref := "FlowExporter$Config") (C := RX1) (T := TX1) (N := 6) (ci := 3) (v := .int v_1) B hu_X1_copyFrom_X1 tyX1 tyX1_ok nmX1 rfl 4 (Nat.le_of_ble_eq_true rfl) hv_X1_copyFrom_27 rfl (Or.inl rfl) h_19 (Nat.le_trans hx (Nat.le_add_right x 3)) rfl rfl (Nat.le_of_ble_eq_true rfl) dX1_copyFrom_67 (fun Φ3 hΦ3 => ?_)
    have h_20 : Φ3 (x + 3) = some (o_ 3 [.ref (x + 4), .ref (x + 5), .ref (x + 6), .ref (x + 7), .int v_1, .int v_6]) := fset_at hΦ3
    have hI4 : In G x (ca) Φ3 := In.put (k := 3) hI3 hΦ3 (ok3 (k := 3) rfl ⟨v_1, v_6, rfl⟩)
    refine z_aload_n B dX1_copyFrom_70 rfl 1 rfl ?_
    refine z_aload_n B dX1_copyFrom_71 rfl 2 rfl ?_
    have h_21 : Φ3 (x + 25) = some (o_ 3 [.ref (x + 26), .ref (x + 27), .ref (x + 28), .ref (x + 29), .int v_1, .int v_2]) := ((fset_fr hΦ3 (ne_off (x := x) (i := 25) (j := 3) rfl)).trans h_17)
    refine z_get (ref := "FlowExporter$Config") (C := RX1) (T := TX1) (N := 6) (ci := 3) (v := .int v_2) B hu_X1_copyFrom_X1 rfl 5 (Nat.le_of_ble_eq_true rfl) hv_X1_copyFrom_31 rfl h_21 rfl dX1_copyFrom_72 ?_
    refine z_callV (As := [.int v_2]) (rest := []) B (s_X1_support G l Φ3 sz x (ca) 3 v_2 hx hI4 rfl) (cwV 1 B.1.2.2.2.2 gX1_copyFrom_X1_support rfl rfl rfl (by decide +kernel) ⟨Nat.le_of_ble_eq_true rfl, Nat.le_of_ble_eq_true rfl⟩) h_20 rfl rfl rfl rfl (Nat.le_of_ble_eq_true rfl) dX1_copyFrom_75 ⟨Nat.le_of_ble_eq_true rfl, Nat.le_of_ble_eq_true rfl⟩ (fun r_3 Φ4 sz1 st1 hp1 hs1 => ?_)
    obtain ⟨rfl, hq1, hI5, hF2⟩ := hp1
    subst sz1
    replace hs1 : st1 = [] := hs1
    subst st1
    replace hI5 : In G x (ca) Φ4 := hI5
    exact z_ret_v B dX1_copyFrom_78 ⟨rfl, rfl, hI5, (fun b9 h9 => ((hF2 b9 (fun j9 h8 h7 => h9 j9 h8 (fq_56 j9 h7))).trans ((fset_fr hΦ3 (fun h8 => h9 (3) h8 (show 3 ≤ 3 ∧ 3 < 24 by decide))).trans ((hF1 b9 h9).trans ((fset_fr hΦ2 (fun h8 => h9 (5) h8 (show 3 ≤ 5 ∧ 5 < 24 by decide))).trans ((fset_fr hΦ1 (fun h8 => h9 (4) h8 (show 3 ≤ 4 ∧ 4 < 24 by decide))).trans rfl))))))⟩
  · have e_2 : ¬ (4 ≤ i_1) := fun h9 => c_1 ((nI_leI (a := 4) (b := i_1) (by omega) (by omega)).mpr h9)
    refine z_aload_n B dX1_copyFrom_38 rfl 1 rfl ?_
    obtain ⟨v_7, v_8, h_22⟩ := in3 (k := 3) hI3 rfl
    have h_23 : Φl1 (x + 3) = some (o_ 3 [.ref (x + 4), .ref (x + 5), .ref (x + 6), .ref (x + 7), .int v_7, .int v_8]) := h_22
    refine z_get (ref := "FlowExporter$Config") (C := RX1) (T := TX1) (N := 6) (ci := 3) (v := .ref (x + 6)) B hu_X1_copyFrom_X1 rfl 2 (Nat.le_of_ble_eq_true rfl) hv_X1_copyFrom_20 rfl h_23 rfl dX1_copyFrom_39 ?_
    refine z_iload_n B dX1_copyFrom_42 rfl 0 rfl ?_
    obtain ⟨f_5, h_24, r_4⟩ := in6 (k := 6) hI3 rfl
    have h_25 : Φl1 (x + 6) = some (aq_ G 4 4 f_5) := h_24
    refine z_aald (b := x + (6 + 2 + 4 * i_1)) B rfl h_25 (vp_in_nI (by omega) (by omega)) ((congrArg f_5 (nI_clamp (by omega))).trans (r_4 i_1 (by omega))) dX1_copyFrom_43 ?_
    refine z_aload_n B dX1_copyFrom_44 rfl 2 rfl ?_
    have h_26 : Φl1 (x + 25) = some (o_ 3 [.ref (x + 26), .ref (x + 27), .ref (x + 28), .ref (x + 29), .int v_1, .int v_2]) := ((hF1 (x + 25) fq_53).trans ((fset_fr hΦ2 (ne_off (x := x) (i := 25) (j := 5) rfl)).trans h_10))
    refine z_get (ref := "FlowExporter$Config") (C := RX1) (T := TX1) (N := 6) (ci := 3) (v := .ref (x + 28)) B hu_X1_copyFrom_X1 rfl 2 (Nat.le_of_ble_eq_true rfl) hv_X1_copyFrom_20 rfl h_26 rfl dX1_copyFrom_45 ?_
    refine z_iload_n B dX1_copyFrom_48 rfl 0 rfl ?_
    obtain ⟨f_6, h_27, r_5⟩ := in6 (k := 28) hI3 rfl
    have h_28 : Φl1 (x + 28) = some (aq_ G 4 4 f_6) := h_27
    refine z_aald (b := x + (28 + 2 + 4 * i_1)) B rfl h_28 (vp_in_nI (by omega) (by omega)) ((congrArg f_6 (nI_clamp (by omega))).trans (r_5 i_1 (by omega))) dX1_copyFrom_49 ?_
    refine z_sipush (v := 511) B dX1_copyFrom_50 rfl ?_
    obtain ⟨n_1, v_9, v_10, h_29, b_2⟩ := in8 (k := 6 + 2 + 4 * i_1) hI3 (kd_w rfl (by omega))
    have h_30 : Φl1 (x + (6 + 2 + 4 * i_1)) = some (o_ 12 [.ref (x + (6 + 2 + 4 * i_1 + 1)), .int (nI n_1), .int v_9, .int v_10]) := h_29
    refine z_callV (As := [.ref (x + (28 + 2 + 4 * i_1)), .int 511]) (rest := []) B (s_X10_copyFrom G l Φl1 sz x (ca) (6 + 2 + 4 * i_1) (28 + 2 + 4 * i_1) 511 hx hI3 (kd_w rfl (by omega)) (kd_w rfl (by omega)) (show (6 + 2 + 4 * i_1) ≠ (28 + 2 + 4 * i_1) by omega) (show (6 + 2 + 4 * i_1) + 1 ≠ (28 + 2 + 4 * i_1) by omega)) (cwV 2 B.1.2.2.2.2 gX1_copyFrom_X10_copyFrom rfl rfl rfl (by decide +kernel) ⟨Nat.le_of_ble_eq_true rfl, Nat.le_of_ble_eq_true rfl⟩) h_30 rfl rfl rfl rfl (Nat.le_of_ble_eq_true rfl) dX1_copyFrom_53 ⟨Nat.le_of_ble_eq_true rfl, Nat.le_of_ble_eq_true rfl⟩ (fun r_6 Φ5 sz2 st2 hp2 hs2 => ?_)
    obtain ⟨rfl, hq2, hI6, hF3⟩ := hp2
    subst sz2
    replace hs2 : st2 = [] := hs2
    subst st2
    replace hI6 : In G x (ca) Φ5 := hI6
    refine z_iinc (k := 0) (v := nI (i_1 + 1)) (lv' := [(2, .int (nI (i_1 + 1))), (0, .ref (x + 3)), (1, .ref (x + 25))]) B dX1_copyFrom_56 rfl (nI_add i_1 1) (Nat.le_of_ble_eq_true rfl) rfl ?_
    refine z_goto (tgt := 33) B dX1_copyFrom_59 rfl ?_
    refine z_lv [0, 1, 2] rfl ?_
    exact ih1 (i_1 + 1) Φ5 (show 4 - (i_1 + 1) < 4 - i_1 by omega) ⟨hI6, (fun b9 h9 => ((hF3 b9 (fun j9 h8 h7 => h9 j9 h8 (show 3 ≤ j9 ∧ j9 < 24 by have h6 : j9 = (6 + 2 + 4 * i_1) ∨ j9 = (6 + 2 + 4 * i_1) + 1 := h7; omega))).trans ((hF1 b9 h9).trans rfl))), (show (i_1 + 1) ≤ 4 by omega), trivial⟩

theorem hu_X3_begin_X3 : ∀ w ∈ u_ws RX3 TX3 5, w ∈ wsX3_begin := fun _ h => List.mem_cons_of_mem _ (List.mem_append_right _ (h))

theorem hv_X3_begin_9 : Cond.fieldLink RX3 9 "FlowExporter$Flow" (TX3 0).2.1 (TX3 0).2.2.1 ∈ wsX3_begin := List.mem_cons_of_mem _ (List.mem_append_left _ (List.mem_of_getElem? (i := 0) rfl))

theorem hv_X3_begin_15 : Cond.fieldLink RX3 15 "FlowExporter$Flow" (TX3 1).2.1 (TX3 1).2.2.1 ∈ wsX3_begin := List.mem_cons_of_mem _ (List.mem_append_left _ (List.mem_of_getElem? (i := 1) rfl))

theorem hv_X3_begin_18 : Cond.fieldLink RX3 18 "FlowExporter$Flow" (TX3 2).2.1 (TX3 2).2.2.1 ∈ wsX3_begin := List.mem_cons_of_mem _ (List.mem_append_left _ (List.mem_of_getElem? (i := 2) rfl))

theorem hv_X3_begin_21 : Cond.fieldLink RX3 21 "FlowExporter$Flow" (TX3 3).2.1 (TX3 3).2.2.1 ∈ wsX3_begin := List.mem_cons_of_mem _ (List.mem_append_left _ (List.mem_of_getElem? (i := 3) rfl))

theorem hv_X3_begin_25 : Cond.fieldLink RX3 25 "FlowExporter$Flow" (TX3 4).2.1 (TX3 4).2.2.1 ∈ wsX3_begin := List.mem_cons_of_mem _ (List.mem_append_left _ (List.mem_of_getElem? (i := 4) rfl))

set_option maxHeartbeats 4000000 in
set_option maxRecDepth 100000 in
theorem s_X3_begin (G : EnvG) (l : Launch) (Φ : Hm) (sz x ca : Nat) (k : Nat) (a : Int64) (b : Int32) (hx : G.2.2.2 ≤ x) (hI : In G x ca Φ) (hk_k : kd k = 19) : Ct G l yX3_begin wsX3_begin ({ frames := 0, cells := 0, slots := 0, locals := 0 }) 0 0 [.ref (x + (k)), .long a, .int b] Φ sz (fun v Φ1 sz1 => (v = none) ∧ sz1 = sz ∧ In G x (ca) Φ1 ∧ Fr x (fun j9 => j9 = k) Φ Φ1) := by
  refine Ct.of (cc := cX3_begin) (maxL := 4) (ret := none) (by decide) rfl (Nat.le_of_ble_eq_true rfl) ?_
  intro p9 e9 s9 m9 w9 t9 k9 B
  show Z p9 l e9 _ s9 m9 _ w9 t9 k9 _ G 4 0 [(0, .ref (x + (k))), (1, .long a), (3, .int b)] [] Φ sz 0 0
  refine z_aload_n B dX3_begin_0 rfl 0 rfl ?_
  refine z_lload_n B dX3_begin_1 rfl 1 rfl ?_
  obtain ⟨v_1, v_2, v_3, v_4, v_5, h_1⟩ := in19 (k := k) hI hk_k
  have h_2 : Φ (x + (k)) = some (o_ 5 [.long v_1, .long v_2, .long v_3, .int v_4, .int v_5]) := h_1
  refine z_put (ref := "FlowExporter$Flow") (C := RX3) (T := TX3) (N := 5) (ci := 5) (v := .long a) B hu_X3_begin_X3 tyX3 tyX3_ok nmX3 rfl 0 (Nat.le_of_ble_eq_true rfl) hv_X3_begin_9 rfl (Or.inl rfl) h_2 (by omega) rfl rfl (Nat.le_of_ble_eq_true rfl) dX3_begin_2 (fun Φ1 hΦ1 => ?_)
  have h_3 : Φ1 (x + (k)) = some (o_ 5 [.long a, .long v_2, .long v_3, .int v_4, .int v_5]) := fset_at hΦ1
  have hI1 : In G x (ca) Φ1 := In.put (k := k) hI hΦ1 (ok19 (k := k) hk_k ⟨a, v_2, v_3, v_4, v_5, rfl⟩)
  refine z_aload_n B dX3_begin_5 rfl 0 rfl ?_
  refine z_lconst (v := 0) B dX3_begin_6 rfl ?_
  refine z_put (ref := "FlowExporter$Flow") (C := RX3) (T := TX3) (N := 5) (ci := 5) (v := .long 0) B hu_X3_begin_X3 tyX3 tyX3_ok nmX3 rfl 1 (Nat.le_of_ble_eq_true rfl) hv_X3_begin_15 rfl (Or.inl rfl) h_3 (by omega) rfl rfl (Nat.le_of_ble_eq_true rfl) dX3_begin_7 (fun Φ2 hΦ2 => ?_)
  have h_4 : Φ2 (x + (k)) = some (o_ 5 [.long a, .long 0, .long v_3, .int v_4, .int v_5]) := fset_at hΦ2
  have hI2 : In G x (ca) Φ2 := In.put (k := k) hI1 hΦ2 (ok19 (k := k) hk_k ⟨a, 0, v_3, v_4, v_5, rfl⟩)
  refine z_aload_n B dX3_begin_10 rfl 0 rfl ?_
  refine z_lconst (v := 0) B dX3_begin_11 rfl ?_
  refine z_put (ref := "FlowExporter$Flow") (C := RX3) (T := TX3) (N := 5) (ci := 5) (v := .long 0) B hu_X3_begin_X3 tyX3 tyX3_ok nmX3 rfl 2 (Nat.le_of_ble_eq_true rfl) hv_X3_begin_18 rfl (Or.inl rfl) h_4 (by omega) rfl rfl (Nat.le_of_ble_eq_true rfl) dX3_begin_12 (fun Φ3 hΦ3 => ?_)
  have h_5 : Φ3 (x + (k)) = some (o_ 5 [.long a, .long 0, .long 0, .int v_4, .int v_5]) := fset_at hΦ3
  have hI3 : In G x (ca) Φ3 := In.put (k := k) hI2 hΦ3 (ok19 (k := k) hk_k ⟨a, 0, 0, v_4, v_5, rfl⟩)
  refine z_aload_n B dX3_begin_15 rfl 0 rfl ?_
  refine z_iload_n B dX3_begin_16 rfl 2 rfl ?_
  refine z_put (ref := "FlowExporter$Flow") (C := RX3) (T := TX3) (N := 5) (ci := 5) (v := .int b) B hu_X3_begin_X3 tyX3 tyX3_ok nmX3 rfl 3 (Nat.le_of_ble_eq_true rfl) hv_X3_begin_21 rfl (Or.inl rfl) h_5 (by omega) rfl rfl (Nat.le_of_ble_eq_true rfl) dX3_begin_17 (fun Φ4 hΦ4 => ?_)
  have h_6 : Φ4 (x + (k)) = some (o_ 5 [.long a, .long 0, .long 0, .int b, .int v_5]) := fset_at hΦ4
  have hI4 : In G x (ca) Φ4 := In.put (k := k) hI3 hΦ4 (ok19 (k := k) hk_k ⟨a, 0, 0, b, v_5, rfl⟩)
  refine z_aload_n B dX3_begin_20 rfl 0 rfl ?_
  refine z_iload_n B dX3_begin_21 rfl 2 rfl ?_
  refine z_put (ref := "FlowExporter$Flow") (C := RX3) (T := TX3) (N := 5) (ci := 5) (v := .int b) B hu_X3_begin_X3 tyX3 tyX3_ok nmX3 rfl 4 (Nat.le_of_ble_eq_true rfl) hv_X3_begin_25 rfl (Or.inl rfl) h_6 (by omega) rfl rfl (Nat.le_of_ble_eq_true rfl) dX3_begin_22 (fun Φ5 hΦ5 => ?_)
  have h_7 : Φ5 (x + (k)) = some (o_ 5 [.long a, .long 0, .long 0, .int b, .int b]) := fset_at hΦ5
  have hI5 : In G x (ca) Φ5 := In.put (k := k) hI4 hΦ5 (ok19 (k := k) hk_k ⟨a, 0, 0, b, b, rfl⟩)
  exact z_ret_v B dX3_begin_25 ⟨rfl, rfl, hI5, (fun b9 h9 => ((fset_fr hΦ5 (fun h8 => h9 (k) h8 (show k = k by omega))).trans ((fset_fr hΦ4 (fun h8 => h9 (k) h8 (show k = k by omega))).trans ((fset_fr hΦ3 (fun h8 => h9 (k) h8 (show k = k by omega))).trans ((fset_fr hΦ2 (fun h8 => h9 (k) h8 (show k = k by omega))).trans ((fset_fr hΦ1 (fun h8 => h9 (k) h8 (show k = k by omega))).trans rfl))))))⟩

set_option maxHeartbeats 4000000 in
set_option maxRecDepth 100000 in
theorem s_X3_partOf (G : EnvG) (l : Launch) (Φ : Hm) (sz x ca : Nat) (a : Int64) (b : Int32) (hx : G.2.2.2 ≤ x) (hI : In G x ca Φ)  : Ct G l yX3_partOf wsX3_partOf ({ frames := 0, cells := 0, slots := 0, locals := 0 }) 0 0 [.long a, .int b] Φ sz (fun v Φ1 sz1 => (∃ r9 : Int32, v = some (.int r9)) ∧ sz1 = sz ∧ In G x (ca) Φ1 ∧ Fr x (fun j9 => False) Φ Φ1) := by
  refine Ct.of (cc := cX3_partOf) (maxL := 3) (ret := (some .int)) (by decide) rfl (Nat.le_of_ble_eq_true rfl) ?_
  intro p9 e9 s9 m9 w9 t9 k9 B
  show Z p9 l e9 _ s9 m9 _ w9 t9 k9 _ G 3 0 [(0, .long a), (2, .int b)] [] Φ sz 0 0
  refine z_iload_n B dX3_partOf_0 rfl 1 rfl ?_
  refine z_if_lt (tgt := 20) B dX3_partOf_1 rfl (fun c_1 => ?_) (fun c_1 => ?_)
  · refine z_iconst (v := 0) B dX3_partOf_20 rfl ?_
    exact z_ret_i B dX3_partOf_21 ⟨⟨_, rfl⟩, rfl, hI, (fun b9 h9 => rfl)⟩
  · obtain ⟨n_1, e_1, rfl⟩ := nI_of c_1
    refine z_iload_n B dX3_partOf_4 rfl 1 rfl ?_
    refine z_sta B B.2.2.2.2.2.1.1.2.2.2.2.1 (by decide +kernel) rfl dX3_partOf_5 ?_
    refine z_slen (v := 4) B B.2.2.2.2.2.1.2.2.2.1.2.2.2.2.1 (B.2.2.2.2.2.1.2.2.2.2 4 (by decide)) rfl dX3_partOf_8 ?_
    refine z_icmp_ge (tgt := 20) B dX3_partOf_9 rfl (fun c_2 => ?_) (fun c_2 => ?_)
    · have e_2 : 4 ≤ n_1 := (nI_leI (a := 4) (b := n_1) (by omega) (by omega)).mp c_2
      refine z_iconst (v := 0) B dX3_partOf_20 rfl ?_
      exact z_ret_i B dX3_partOf_21 ⟨⟨_, rfl⟩, rfl, hI, (fun b9 h9 => rfl)⟩
    · have e_3 : ¬ (4 ≤ n_1) := fun h9 => c_2 ((nI_leI (a := 4) (b := n_1) (by omega) (by omega)).mpr h9)
      refine z_iload_n B dX3_partOf_12 rfl 1 rfl ?_
      refine z_sta B B.2.2.2.2.2.1.1.2.2.2.2.2 (by decide +kernel) rfl dX3_partOf_13 ?_
      refine z_slen (v := 4) B B.2.2.2.2.2.1.2.2.2.1.2.2.2.2.2 (B.2.2.2.2.2.1.2.2.2.2 5 (by decide)) rfl dX3_partOf_16 ?_
      refine z_icmp_lt (tgt := 22) B dX3_partOf_17 rfl (fun c_3 => ?_) (fun c_3 => ?_)
      · have e_4 : n_1 < 4 := (nI_ltI (a := n_1) (b := 4) (by omega) (by omega)).mp c_3
        refine z_lload_n B dX3_partOf_22 rfl 0 rfl ?_
        refine z_sta B B.2.2.2.2.2.1.1.2.2.2.2.1 (by decide +kernel) rfl dX3_partOf_23 ?_
        refine z_iload_n B dX3_partOf_26 rfl 1 rfl ?_
        refine z_sald B B.2.2.2.2.2.1.2.2.2.1.2.2.2.2.1 (B.2.2.2.2.2.1.2.2.2.2 4 (by decide)) (vp_in_nI (by omega) (by omega)) dX3_partOf_27 ?_
        refine z_fi (fun v_1 => ?_)
        refine z_lshr (v := a >>> ((v_1 : Int32).toInt64 &&& 63)) B dX3_partOf_28 rfl ?_
        refine z_fl (fun v_2 => ?_)
        refine z_l2i (v := v_2.toInt32) B dX3_partOf_29 rfl ?_
        refine z_fi (fun v_3 => ?_)
        refine z_sta B B.2.2.2.2.2.1.1.2.2.2.2.2 (by decide +kernel) rfl dX3_partOf_30 ?_
        refine z_iload_n B dX3_partOf_33 rfl 1 rfl ?_
        refine z_sald B B.2.2.2.2.2.1.2.2.2.1.2.2.2.2.2 (B.2.2.2.2.2.1.2.2.2.2 5 (by decide)) (vp_in_nI (by omega) (by omega)) dX3_partOf_34 ?_
        refine z_fi (fun v_4 => ?_)
        refine z_iand B dX3_partOf_35 ?_
        refine z_fi (fun v_5 => ?_)
        exact z_ret_i B dX3_partOf_36 ⟨⟨_, rfl⟩, rfl, hI, (fun b9 h9 => rfl)⟩
      · have e_5 : ¬ (n_1 < 4) := fun h9 => c_3 ((nI_ltI (a := n_1) (b := 4) (by omega) (by omega)).mpr h9)
        refine z_iconst (v := 0) B dX3_partOf_20 rfl ?_
        exact z_ret_i B dX3_partOf_21 ⟨⟨_, rfl⟩, rfl, hI, (fun b9 h9 => rfl)⟩

theorem hu_X4_isFull_X4 : ∀ w ∈ u_ws RX4 TX4 2, w ∈ wsX4_isFull := fun _ h => List.mem_cons_of_mem _ (List.mem_append_right _ (h))

theorem hv_X4_isFull_9 : Cond.fieldLink RX4 9 "FlowExporter$FlowTable" (TX4 1).2.1 (TX4 1).2.2.1 ∈ wsX4_isFull := List.mem_cons_of_mem _ (List.mem_append_left _ (List.mem_of_getElem? (i := 0) rfl))

theorem hv_X4_isFull_23 : Cond.fieldLink RX4 23 "FlowExporter$FlowTable" (TX4 0).2.1 (TX4 0).2.2.1 ∈ wsX4_isFull := List.mem_cons_of_mem _ (List.mem_append_left _ (List.mem_of_getElem? (i := 1) rfl))

set_option maxHeartbeats 4000000 in
set_option maxRecDepth 100000 in
theorem s_X4_isFull (G : EnvG) (l : Launch) (Φ : Hm) (sz x ca : Nat) (k : Nat) (hx : G.2.2.2 ≤ x) (hI : In G x ca Φ) (hk_k : kd k = 17) : Ct G l yX4_isFull wsX4_isFull ({ frames := 0, cells := 0, slots := 0, locals := 0 }) 0 0 [.ref (x + (k))] Φ sz (fun v Φ1 sz1 => (∃ r9 : Int32, v = some (.int r9) ∧ (r9 = 0 ∨ r9 = 1)) ∧ sz1 = sz ∧ In G x (ca) Φ1 ∧ Fr x (fun j9 => False) Φ Φ1) := by
  refine Ct.of (cc := cX4_isFull) (maxL := 1) (ret := (some .boolean)) (by decide) rfl (Nat.le_of_ble_eq_true rfl) ?_
  intro p9 e9 s9 m9 w9 t9 k9 B
  show Z p9 l e9 _ s9 m9 _ w9 t9 k9 _ G 1 0 [(0, .ref (x + (k)))] [] Φ sz 0 0
  refine z_aload_n B dX4_isFull_0 rfl 0 rfl ?_
  obtain ⟨n_1, h_1, b_1⟩ := in17 (k := k) hI hk_k
  replace b_1 : n_1 ≤ fcap (k) := b_1
  have b_2 := fcap_le (k)
  have b_3 := fcap_pos (k)
  have h_2 : Φ (x + (k)) = some (o_ 6 [.ref (x + (k + 1)), .int (nI n_1)]) := h_1
  refine z_get (ref := "FlowExporter$FlowTable") (C := RX4) (T := TX4) (N := 2) (ci := 6) (v := .int (nI n_1)) B hu_X4_isFull_X4 rfl 1 (Nat.le_of_ble_eq_true rfl) hv_X4_isFull_9 rfl h_2 rfl dX4_isFull_1 ?_
  refine z_aload_n B dX4_isFull_4 rfl 0 rfl ?_
  refine z_get (ref := "FlowExporter$FlowTable") (C := RX4) (T := TX4) (N := 2) (ci := 6) (v := .ref (x + (k + 1))) B hu_X4_isFull_X4 rfl 0 (Nat.le_of_ble_eq_true rfl) hv_X4_isFull_23 rfl h_2 rfl dX4_isFull_5 ?_
  obtain ⟨f_1, h_3, r_1⟩ := in18 (k := k + 1) hI (kd_r hk_k)
  replace r_1 : ∀ j, j < fcap (k) → ∃ m, m < fcap (k) ∧ f_1 j = some (x + (k + 1 + 1 + m)) := r_1
  have b_4 := fcap_le (k)
  have b_5 := fcap_pos (k)
  have h_4 : Φ (x + (k + 1)) = some (aq_ G 5 (fcap (k)) f_1) := h_3
  refine z_alen (t := 5) (v := nI (fcap (k))) B rfl h_4 rfl dX4_isFull_8 ?_
  refine z_icmp_lt (tgt := 16) B dX4_isFull_9 rfl (fun c_1 => ?_) (fun c_1 => ?_)
  · have e_1 : n_1 < fcap (k) := (nI_ltI (a := n_1) (b := fcap (k)) (by omega) (by omega)).mp c_1
    refine z_iconst (v := 0) B dX4_isFull_16 rfl ?_
    exact z_ret_z B dX4_isFull_17 (by decide) ⟨⟨_, rfl, by decide⟩, rfl, hI, (fun b9 h9 => rfl)⟩
  · have e_2 : ¬ (n_1 < fcap (k)) := fun h9 => c_1 ((nI_ltI (a := n_1) (b := fcap (k)) (by omega) (by omega)).mpr h9)
    refine z_iconst (v := 1) B dX4_isFull_12 rfl ?_
    refine z_goto (tgt := 17) B dX4_isFull_13 rfl ?_
    exact z_ret_z B dX4_isFull_17 (by decide) ⟨⟨_, rfl, by decide⟩, rfl, hI, (fun b9 h9 => rfl)⟩

theorem hu_X4_flowAt_X4 : ∀ w ∈ u_ws RX4 TX4 2, w ∈ wsX4_flowAt := fun _ h => List.mem_cons_of_mem _ (List.mem_append_right _ (h))

theorem hv_X4_flowAt_23 : Cond.fieldLink RX4 23 "FlowExporter$FlowTable" (TX4 0).2.1 (TX4 0).2.2.1 ∈ wsX4_flowAt := List.mem_cons_of_mem _ (List.mem_append_left _ (List.mem_of_getElem? (i := 0) rfl))

set_option maxHeartbeats 4000000 in
set_option maxRecDepth 100000 in
theorem s_X4_flowAt (G : EnvG) (l : Launch) (Φ : Hm) (sz x ca : Nat) (k : Nat) (a : Int32) (hx : G.2.2.2 ≤ x) (hI : In G x ca Φ) (hk_k : kd k = 17) : Ct G l yX4_flowAt wsX4_flowAt ({ frames := 0, cells := 0, slots := 0, locals := 0 }) 0 0 [.ref (x + (k)), .int a] Φ sz (fun v Φ1 sz1 => (∃ m9 : Nat, m9 < fcap (k) ∧ v = some (.ref (x + (k + 2 + m9)))) ∧ sz1 = sz ∧ In G x (ca) Φ1 ∧ Fr x (fun j9 => False) Φ Φ1) := by
  refine Ct.of (cc := cX4_flowAt) (maxL := 2) (ret := (some (.object "FlowExporter$Flow"))) (by decide) rfl (Nat.le_of_ble_eq_true rfl) ?_
  intro p9 e9 s9 m9 w9 t9 k9 B
  show Z p9 l e9 _ s9 m9 _ w9 t9 k9 _ G 2 0 [(0, .ref (x + (k))), (1, .int a)] [] Φ sz 0 0
  refine z_aload_n B dX4_flowAt_0 rfl 0 rfl ?_
  obtain ⟨n_1, h_1, b_1⟩ := in17 (k := k) hI hk_k
  replace b_1 : n_1 ≤ fcap (k) := b_1
  have b_2 := fcap_le (k)
  have b_3 := fcap_pos (k)
  have h_2 : Φ (x + (k)) = some (o_ 6 [.ref (x + (k + 1)), .int (nI n_1)]) := h_1
  refine z_get (ref := "FlowExporter$FlowTable") (C := RX4) (T := TX4) (N := 2) (ci := 6) (v := .ref (x + (k + 1))) B hu_X4_flowAt_X4 rfl 0 (Nat.le_of_ble_eq_true rfl) hv_X4_flowAt_23 rfl h_2 rfl dX4_flowAt_1 ?_
  refine z_iload_n B dX4_flowAt_4 rfl 1 rfl ?_
  refine z_if_lt (tgt := 21) B dX4_flowAt_5 rfl (fun c_1 => ?_) (fun c_1 => ?_)
  · refine z_iconst (v := 0) B dX4_flowAt_21 rfl ?_
    obtain ⟨f_1, h_3, r_1⟩ := in18 (k := k + 1) hI (kd_r hk_k)
    replace r_1 : ∀ j, j < fcap (k) → ∃ m, m < fcap (k) ∧ f_1 j = some (x + (k + 1 + 1 + m)) := r_1
    have b_4 := fcap_le (k)
    have b_5 := fcap_pos (k)
    have h_4 : Φ (x + (k + 1)) = some (aq_ G 5 (fcap (k)) f_1) := h_3
    obtain ⟨m_1, hm_1, hf_1⟩ := r_1 0 (by omega)
    refine z_aald (b := x + (k + 1 + 1 + m_1)) B rfl h_4 (vp_in_nI (n := 0) (by omega) (by omega)) (hf_1) dX4_flowAt_22 ?_
    exact z_ret_a B dX4_flowAt_23 ⟨⟨m_1, by omega, rfl⟩, rfl, hI, (fun b9 h9 => rfl)⟩
  · obtain ⟨n_2, e_1, rfl⟩ := nI_of c_1
    refine z_iload_n B dX4_flowAt_8 rfl 1 rfl ?_
    refine z_aload_n B dX4_flowAt_9 rfl 0 rfl ?_
    refine z_get (ref := "FlowExporter$FlowTable") (C := RX4) (T := TX4) (N := 2) (ci := 6) (v := .ref (x + (k + 1))) B hu_X4_flowAt_X4 rfl 0 (Nat.le_of_ble_eq_true rfl) hv_X4_flowAt_23 rfl h_2 rfl dX4_flowAt_10 ?_
    obtain ⟨f_2, h_5, r_2⟩ := in18 (k := k + 1) hI (kd_r hk_k)
    replace r_2 : ∀ j, j < fcap (k) → ∃ m, m < fcap (k) ∧ f_2 j = some (x + (k + 1 + 1 + m)) := r_2
    have b_6 := fcap_le (k)
    have b_7 := fcap_pos (k)
    have h_6 : Φ (x + (k + 1)) = some (aq_ G 5 (fcap (k)) f_2) := h_5
    refine z_alen (t := 5) (v := nI (fcap (k))) B rfl h_6 rfl dX4_flowAt_13 ?_
    refine z_icmp_ge (tgt := 21) B dX4_flowAt_14 rfl (fun c_2 => ?_) (fun c_2 => ?_)
    · have e_2 : fcap (k) ≤ n_2 := (nI_leI (a := fcap (k)) (b := n_2) (by omega) (by omega)).mp c_2
      refine z_iconst (v := 0) B dX4_flowAt_21 rfl ?_
      obtain ⟨m_2, hm_2, hf_2⟩ := r_2 0 (by omega)
      refine z_aald (b := x + (k + 1 + 1 + m_2)) B rfl h_6 (vp_in_nI (n := 0) (by omega) (by omega)) (hf_2) dX4_flowAt_22 ?_
      exact z_ret_a B dX4_flowAt_23 ⟨⟨m_2, by omega, rfl⟩, rfl, hI, (fun b9 h9 => rfl)⟩
    · have e_3 : ¬ (fcap (k) ≤ n_2) := fun h9 => c_2 ((nI_leI (a := fcap (k)) (b := n_2) (by omega) (by omega)).mpr h9)
      refine z_iload_n B dX4_flowAt_17 rfl 1 rfl ?_
      refine z_goto (tgt := 22) B dX4_flowAt_18 rfl ?_
      obtain ⟨m_3, hm_3, hf_3⟩ := r_2 n_2 (by omega)
      refine z_aald (b := x + (k + 1 + 1 + m_3)) B rfl h_6 (vp_in_nI (by omega) (by omega)) ((congrArg f_2 (nI_clamp (by omega))).trans hf_3) dX4_flowAt_22 ?_
      exact z_ret_a B dX4_flowAt_23 ⟨⟨m_3, by omega, rfl⟩, rfl, hI, (fun b9 h9 => rfl)⟩

theorem hu_X4_indexOf_X4 : ∀ w ∈ u_ws RX4 TX4 2, w ∈ wsX4_indexOf := fun _ h => List.mem_cons_of_mem _ (List.mem_append_left _ (List.mem_append_right _ (h)))

theorem hv_X4_indexOf_9 : Cond.fieldLink RX4 9 "FlowExporter$FlowTable" (TX4 1).2.1 (TX4 1).2.2.1 ∈ wsX4_indexOf := List.mem_cons_of_mem _ (List.mem_append_left _ (List.mem_append_left _ (List.mem_of_getElem? (i := 0) rfl)))

theorem hv_X4_indexOf_23 : Cond.fieldLink RX4 23 "FlowExporter$FlowTable" (TX4 0).2.1 (TX4 0).2.2.1 ∈ wsX4_indexOf := List.mem_cons_of_mem _ (List.mem_append_left _ (List.mem_append_left _ (List.mem_of_getElem? (i := 1) rfl)))

theorem hu_X4_indexOf_X3 : ∀ w ∈ u_ws RX3 TX3 5, w ∈ wsX4_indexOf := fun _ h => List.mem_cons_of_mem _ (List.mem_append_right _ (h))

theorem hv_X4_indexOf_28 : Cond.fieldLink RX4 28 "FlowExporter$Flow" (TX3 0).2.1 (TX3 0).2.2.1 ∈ wsX4_indexOf := List.mem_cons_of_mem _ (List.mem_append_left _ (List.mem_append_left _ (List.mem_of_getElem? (i := 2) rfl)))

set_option maxHeartbeats 4000000 in
set_option maxRecDepth 100000 in
theorem s_X4_indexOf (G : EnvG) (l : Launch) (Φ : Hm) (sz x ca : Nat) (k : Nat) (a : Int64) (hx : G.2.2.2 ≤ x) (hI : In G x ca Φ) (hk_k : kd k = 17) : Ct G l yX4_indexOf wsX4_indexOf ({ frames := 0, cells := 0, slots := 0, locals := 0 }) 0 0 [.ref (x + (k)), .long a] Φ sz (fun v Φ1 sz1 => (∃ r9 : Int32, v = some (.int r9)) ∧ sz1 = sz ∧ In G x (ca) Φ1 ∧ Fr x (fun j9 => False) Φ Φ1) := by
  refine Ct.of (cc := cX4_indexOf) (maxL := 4) (ret := (some .int)) (by decide) rfl (Nat.le_of_ble_eq_true rfl) ?_
  intro p9 e9 s9 m9 w9 t9 k9 B
  show Z p9 l e9 _ s9 m9 _ w9 t9 k9 _ G 4 0 [(0, .ref (x + (k))), (1, .long a)] [] Φ sz 0 0
  refine z_iconst (v := 0) B dX4_indexOf_0 rfl ?_
  refine z_istore_n (lv' := [(3, .int 0), (0, .ref (x + (k))), (1, .long a)]) B dX4_indexOf_1 rfl (Nat.le_of_ble_eq_true rfl) rfl ?_
  refine z_lv [0, 1, 2] rfl ?_
  refine z_loop (α := Nat) (fun (a9 : Nat) Φi => In G x (ca) Φi ∧ Fr x (fun j9 => False) Φ Φi ∧ (a9 ≤ 24) ∧ True) (fun a9 => [(3, .int (nI a9)), (0, .ref (x + (k))), (1, .long a)]) (fun a9 => 24 - a9) ?_ (0) ⟨hI, fun _ _ => rfl, (show 0 ≤ 24 by omega), trivial⟩
  rintro i_1 Φl1 ⟨hI1, hF1, b_1, -⟩ ih1
  replace hI1 : In G x (ca) Φl1 := hI1
  replace b_1 : i_1 ≤ 24 := b_1
  show Z p9 l e9 _ s9 m9 _ w9 t9 k9 _ G 4 2 [(3, .int (nI i_1)), (0, .ref (x + (k))), (1, .long a)] [] Φl1 _ _ _
  refine z_iload_n B dX4_indexOf_2 rfl 0 rfl ?_
  refine z_aload_n B dX4_indexOf_3 rfl 1 rfl ?_
  obtain ⟨n_1, h_1, b_2⟩ := in17 (k := k) hI1 hk_k
  replace b_2 : n_1 ≤ fcap (k) := b_2
  have b_3 := fcap_le (k)
  have b_4 := fcap_pos (k)
  have h_2 : Φl1 (x + (k)) = some (o_ 6 [.ref (x + (k + 1)), .int (nI n_1)]) := h_1
  refine z_get (ref := "FlowExporter$FlowTable") (C := RX4) (T := TX4) (N := 2) (ci := 6) (v := .int (nI n_1)) B hu_X4_indexOf_X4 rfl 1 (Nat.le_of_ble_eq_true rfl) hv_X4_indexOf_9 rfl h_2 rfl dX4_indexOf_4 ?_
  refine z_icmp_ge (tgt := 32) B dX4_indexOf_7 rfl (fun c_1 => ?_) (fun c_1 => ?_)
  · have e_1 : n_1 ≤ i_1 := (nI_leI (a := n_1) (b := i_1) (by omega) (by omega)).mp c_1
    refine z_iconst (v := (-1)) B dX4_indexOf_32 rfl ?_
    exact z_ret_i B dX4_indexOf_33 ⟨⟨_, rfl⟩, rfl, hI1, (fun b9 h9 => ((hF1 b9 (fun j9 h8 h7 => (show False from h7).elim)).trans rfl))⟩
  · have e_2 : ¬ (n_1 ≤ i_1) := fun h9 => c_1 ((nI_leI (a := n_1) (b := i_1) (by omega) (by omega)).mpr h9)
    refine z_aload_n B dX4_indexOf_10 rfl 1 rfl ?_
    refine z_get (ref := "FlowExporter$FlowTable") (C := RX4) (T := TX4) (N := 2) (ci := 6) (v := .ref (x + (k + 1))) B hu_X4_indexOf_X4 rfl 0 (Nat.le_of_ble_eq_true rfl) hv_X4_indexOf_23 rfl h_2 rfl dX4_indexOf_11 ?_
    refine z_iload_n B dX4_indexOf_14 rfl 0 rfl ?_
    obtain ⟨f_1, h_3, r_1⟩ := in18 (k := k + 1) hI1 (kd_r hk_k)
    replace r_1 : ∀ j, j < fcap (k) → ∃ m, m < fcap (k) ∧ f_1 j = some (x + (k + 1 + 1 + m)) := r_1
    have b_5 := fcap_le (k)
    have b_6 := fcap_pos (k)
    have h_4 : Φl1 (x + (k + 1)) = some (aq_ G 5 (fcap (k)) f_1) := h_3
    obtain ⟨m_1, hm_1, hf_1⟩ := r_1 i_1 (by omega)
    refine z_aald (b := x + (k + 1 + 1 + m_1)) B rfl h_4 (vp_in_nI (by omega) (by omega)) ((congrArg f_1 (nI_clamp (by omega))).trans hf_1) dX4_indexOf_15 ?_
    obtain ⟨v_1, v_2, v_3, v_4, v_5, h_5⟩ := in19 (k := k + 1 + 1 + m_1) hI1 (kd_f (kd_r hk_k) hm_1)
    have h_6 : Φl1 (x + (k + 1 + 1 + m_1)) = some (o_ 5 [.long v_1, .long v_2, .long v_3, .int v_4, .int v_5]) := h_5
    refine z_get (ref := "FlowExporter$Flow") (C := RX3) (T := TX3) (N := 5) (ci := 5) (v := .long v_1) B hu_X4_indexOf_X3 rfl 0 (Nat.le_of_ble_eq_true rfl) hv_X4_indexOf_28 rfl h_6 rfl dX4_indexOf_16 ?_
    refine z_lload_n B dX4_indexOf_19 rfl 2 rfl ?_
    refine z_lcmp B dX4_indexOf_20 ?_
    refine z_fi (fun v_6 => ?_)
    refine z_if_ne (tgt := 26) B dX4_indexOf_21 rfl (fun c_2 => ?_) (fun c_2 => ?_)
    · refine z_iinc (k := 0) (v := nI (i_1 + 1)) (lv' := [(3, .int (nI (i_1 + 1))), (0, .ref (x + (k))), (1, .long a)]) B dX4_indexOf_26 rfl (nI_add i_1 1) (Nat.le_of_ble_eq_true rfl) rfl ?_
      refine z_goto (tgt := 2) B dX4_indexOf_29 rfl ?_
      refine z_lv [0, 1, 2] rfl ?_
      exact ih1 (i_1 + 1) Φl1 (show 24 - (i_1 + 1) < 24 - i_1 by omega) ⟨hI1, (fun b9 h9 => ((hF1 b9 (fun j9 h8 h7 => (show False from h7).elim)).trans rfl)), (show (i_1 + 1) ≤ 24 by omega), trivial⟩
    · refine z_iload_n B dX4_indexOf_24 rfl 0 rfl ?_
      exact z_ret_i B dX4_indexOf_25 ⟨⟨_, rfl⟩, rfl, hI1, (fun b9 h9 => ((hF1 b9 (fun j9 h8 h7 => (show False from h7).elim)).trans rfl))⟩

theorem hu_X4_addFlow_X4 : ∀ w ∈ u_ws RX4 TX4 2, w ∈ wsX4_addFlow := fun _ h => List.mem_cons_of_mem _ (List.mem_append_left _ (List.mem_append_right _ (h)))

theorem hv_X4_addFlow_9 : Cond.fieldLink RX4 9 "FlowExporter$FlowTable" (TX4 1).2.1 (TX4 1).2.2.1 ∈ wsX4_addFlow := List.mem_cons_of_mem _ (List.mem_append_left _ (List.mem_append_left _ (List.mem_of_getElem? (i := 0) rfl)))

theorem hv_X4_addFlow_23 : Cond.fieldLink RX4 23 "FlowExporter$FlowTable" (TX4 0).2.1 (TX4 0).2.2.1 ∈ wsX4_addFlow := List.mem_cons_of_mem _ (List.mem_append_left _ (List.mem_append_left _ (List.mem_of_getElem? (i := 1) rfl)))

set_option maxHeartbeats 4000000 in
set_option maxRecDepth 100000 in
theorem s_X4_addFlow (G : EnvG) (l : Launch) (Φ : Hm) (sz x ca : Nat) (k : Nat) (a : Int64) (b : Int32) (hx : G.2.2.2 ≤ x) (hI : In G x ca Φ) (hk_k : kd k = 17) : Ct G l yX4_addFlow wsX4_addFlow ({ frames := 1, cells := 0, slots := 0, locals := 23 }) 0 0 [.ref (x + (k)), .long a, .int b] Φ sz (fun v Φ1 sz1 => (∃ m9 : Nat, m9 < fcap (k) ∧ v = some (.ref (x + (k + 2 + m9)))) ∧ sz1 = sz ∧ In G x (ca) Φ1 ∧ Fr x (fun j9 => k ≤ j9 ∧ j9 < k + 2 + fcap k) Φ Φ1) := by
  refine Ct.of (cc := cX4_addFlow) (maxL := 5) (ret := (some (.object "FlowExporter$Flow"))) (by decide) rfl (Nat.le_of_ble_eq_true rfl) ?_
  intro p9 e9 s9 m9 w9 t9 k9 B
  show Z p9 l e9 _ s9 m9 _ w9 t9 k9 _ G 5 0 [(0, .ref (x + (k))), (1, .long a), (3, .int b)] [] Φ sz 0 0
  refine z_aload_n B dX4_addFlow_0 rfl 0 rfl ?_
  refine z_aload_n B dX4_addFlow_1 rfl 0 rfl ?_
  obtain ⟨n_1, h_1, b_1⟩ := in17 (k := k) hI hk_k
  replace b_1 : n_1 ≤ fcap (k) := b_1
  have b_2 := fcap_le (k)
  have b_3 := fcap_pos (k)
  have h_2 : Φ (x + (k)) = some (o_ 6 [.ref (x + (k + 1)), .int (nI n_1)]) := h_1
  refine z_get (ref := "FlowExporter$FlowTable") (C := RX4) (T := TX4) (N := 2) (ci := 6) (v := .int (nI n_1)) B hu_X4_addFlow_X4 rfl 1 (Nat.le_of_ble_eq_true rfl) hv_X4_addFlow_9 rfl h_2 rfl dX4_addFlow_2 ?_
  refine z_callV (As := [.int (nI n_1)]) (rest := []) B (s_X4_flowAt G l Φ sz x (ca) k (nI n_1) hx hI hk_k) (cwV 1 B.1.2.2.2.2 gX4_addFlow_X4_flowAt rfl rfl rfl (by decide +kernel) ⟨Nat.le_of_ble_eq_true rfl, Nat.le_of_ble_eq_true rfl⟩) h_2 rfl rfl rfl rfl (Nat.le_of_ble_eq_true rfl) dX4_addFlow_5 ⟨Nat.le_of_ble_eq_true rfl, Nat.le_of_ble_eq_true rfl⟩ (fun r_1 Φ1 sz1 st1 hp1 hs1 => ?_)
  obtain ⟨⟨m_1, hm_1, rfl⟩, hq1, hI1, hF1⟩ := hp1
  subst sz1
  replace hs1 : st1 = [.ref (x + (k + 2 + m_1))] := hs1
  subst st1
  replace hI1 : In G x (ca) Φ1 := hI1
  replace hm_1 : m_1 < fcap (k) := hm_1
  refine z_astore (lv' := [(4, .ref (x + (k + 2 + m_1))), (0, .ref (x + (k))), (1, .long a), (3, .int b)]) B dX4_addFlow_8 (Nat.le_of_ble_eq_true rfl) rfl ?_
  refine z_aload B dX4_addFlow_10 0 rfl ?_
  refine z_lload_n B dX4_addFlow_12 rfl 2 rfl ?_
  refine z_iload_n B dX4_addFlow_13 rfl 3 rfl ?_
  obtain ⟨v_1, v_2, v_3, v_4, v_5, h_3⟩ := in19 (k := k + 2 + m_1) hI1 (kd_f (kd_r hk_k) hm_1)
  have h_4 : Φ1 (x + (k + 2 + m_1)) = some (o_ 5 [.long v_1, .long v_2, .long v_3, .int v_4, .int v_5]) := h_3
  refine z_callV (As := [.long a, .int b]) (rest := []) B (s_X3_begin G l Φ1 sz x (ca) (k + 2 + m_1) a b hx hI1 (kd_f (kd_r hk_k) hm_1)) (cwV 2 B.1.2.2.2.2 gX4_addFlow_X3_begin rfl rfl rfl (by decide +kernel) ⟨Nat.le_of_ble_eq_true rfl, Nat.le_of_ble_eq_true rfl⟩) h_4 rfl rfl rfl rfl (Nat.le_of_ble_eq_true rfl) dX4_addFlow_14 ⟨Nat.le_of_ble_eq_true rfl, Nat.le_of_ble_eq_true rfl⟩ (fun r_2 Φ2 sz2 st2 hp2 hs2 => ?_)
  obtain ⟨rfl, hq2, hI2, hF2⟩ := hp2
  subst sz2
  replace hs2 : st2 = [] := hs2
  subst st2
  replace hI2 : In G x (ca) Φ2 := hI2
  refine z_aload_n B dX4_addFlow_17 rfl 1 rfl ?_
  refine z_aload_n B dX4_addFlow_18 rfl 1 rfl ?_
  have h_5 : Φ2 (x + (k)) = some (o_ 6 [.ref (x + (k + 1)), .int (nI n_1)]) := ((hF2 (x + (k)) (fun j9 h8 h7 => by have h6 : j9 = (k + 2 + m_1) := h7; omega)).trans ((hF1 (x + (k)) (fun j9 h8 h7 => (show False from h7).elim)).trans h_2))
  refine z_get (ref := "FlowExporter$FlowTable") (C := RX4) (T := TX4) (N := 2) (ci := 6) (v := .int (nI n_1)) B hu_X4_addFlow_X4 rfl 1 (Nat.le_of_ble_eq_true rfl) hv_X4_addFlow_9 rfl h_5 rfl dX4_addFlow_19 ?_
  refine z_iconst (v := 1) B dX4_addFlow_22 rfl ?_
  refine z_iadd B dX4_addFlow_23 ?_
  refine z_top (st1 := [.int (nI (n_1 + 1)), .ref (x + (k))]) (congrArg (fun w9 : Int32 => ([.int w9, .ref (x + (k))] : List Value)) (nI_add n_1 1)) ?_
  refine z_aload_n B dX4_addFlow_24 rfl 1 rfl ?_
  refine z_get (ref := "FlowExporter$FlowTable") (C := RX4) (T := TX4) (N := 2) (ci := 6) (v := .ref (x + (k + 1))) B hu_X4_addFlow_X4 rfl 0 (Nat.le_of_ble_eq_true rfl) hv_X4_addFlow_23 rfl h_5 rfl dX4_addFlow_25 ?_
  obtain ⟨f_1, h_6, r_3⟩ := in18 (k := k + 1) hI2 (kd_r hk_k)
  replace r_3 : ∀ j, j < fcap (k) → ∃ m, m < fcap (k) ∧ f_1 j = some (x + (k + 1 + 1 + m)) := r_3
  have b_4 := fcap_le (k)
  have b_5 := fcap_pos (k)
  have h_7 : Φ2 (x + (k + 1)) = some (aq_ G 5 (fcap (k)) f_1) := h_6
  refine z_alen (t := 5) (v := nI (fcap (k))) B rfl h_7 rfl dX4_addFlow_28 ?_
  refine z_mmin (v := nI (min (n_1 + 1) (fcap (k)))) B (by decide +kernel) (by decide +kernel) (by decide +kernel) (by decide +kernel) (nI_min (by omega) (by omega)) ⟨Nat.le_of_ble_eq_true rfl, Nat.le_of_ble_eq_true rfl⟩ ⟨Nat.le_of_ble_eq_true rfl, Nat.le_of_ble_eq_true rfl⟩ dX4_addFlow_29 ?_
  refine z_put (ref := "FlowExporter$FlowTable") (C := RX4) (T := TX4) (N := 2) (ci := 6) (v := .int (nI (min (n_1 + 1) (fcap (k))))) B hu_X4_addFlow_X4 tyX4 tyX4_ok nmX4 rfl 1 (Nat.le_of_ble_eq_true rfl) hv_X4_addFlow_9 rfl (Or.inl rfl) h_5 (by omega) rfl rfl (Nat.le_of_ble_eq_true rfl) dX4_addFlow_32 (fun Φ3 hΦ1 => ?_)
  have h_8 : Φ3 (x + (k)) = some (o_ 6 [.ref (x + (k + 1)), .int (nI (min (n_1 + 1) (fcap (k))))]) := fset_at hΦ1
  have hI3 : In G x (ca) Φ3 := In.put (k := k) hI2 hΦ1 (ok17 (k := k) hk_k ⟨min (n_1 + 1) (fcap (k)), rfl, (show min (n_1 + 1) (fcap (k)) ≤ fcap (k) by omega)⟩)
  refine z_aload B dX4_addFlow_35 0 rfl ?_
  exact z_ret_a B dX4_addFlow_37 ⟨⟨m_1, by omega, rfl⟩, rfl, hI3, (fun b9 h9 => ((fset_fr hΦ1 (fun h8 => h9 (k) h8 (show k ≤ k ∧ k < k + 2 + fcap k by omega))).trans ((hF2 b9 (fun j9 h8 h7 => h9 j9 h8 (show k ≤ j9 ∧ j9 < k + 2 + fcap k by have h6 : j9 = (k + 2 + m_1) := h7; omega))).trans ((hF1 b9 (fun j9 h8 h7 => (show False from h7).elim)).trans rfl))))⟩

theorem hu_X4_removeAt_X4 : ∀ w ∈ u_ws RX4 TX4 2, w ∈ wsX4_removeAt := fun _ h => List.mem_cons_of_mem _ (List.mem_append_right _ (h))

theorem hv_X4_removeAt_9 : Cond.fieldLink RX4 9 "FlowExporter$FlowTable" (TX4 1).2.1 (TX4 1).2.2.1 ∈ wsX4_removeAt := List.mem_cons_of_mem _ (List.mem_append_left _ (List.mem_of_getElem? (i := 0) rfl))

theorem hv_X4_removeAt_23 : Cond.fieldLink RX4 23 "FlowExporter$FlowTable" (TX4 0).2.1 (TX4 0).2.2.1 ∈ wsX4_removeAt := List.mem_cons_of_mem _ (List.mem_append_left _ (List.mem_of_getElem? (i := 1) rfl))

set_option maxHeartbeats 4000000 in
set_option maxRecDepth 100000 in
theorem s_X4_removeAt (G : EnvG) (l : Launch) (Φ : Hm) (sz x ca : Nat) (k : Nat) (a : Int32) (hx : G.2.2.2 ≤ x) (hI : In G x ca Φ) (hk_k : kd k = 17) : Ct G l yX4_removeAt wsX4_removeAt ({ frames := 1, cells := 0, slots := 0, locals := 21 }) 0 0 [.ref (x + (k)), .int a] Φ sz (fun v Φ1 sz1 => (∃ m9 : Nat, m9 < fcap (k) ∧ v = some (.ref (x + (k + 2 + m9)))) ∧ sz1 = sz ∧ In G x (ca) Φ1 ∧ Fr x (fun j9 => j9 = k ∨ j9 = k + 1) Φ Φ1) := by
  refine Ct.of (cc := cX4_removeAt) (maxL := 4) (ret := (some (.object "FlowExporter$Flow"))) (by decide) rfl (Nat.le_of_ble_eq_true rfl) ?_
  intro p9 e9 s9 m9 w9 t9 k9 B
  show Z p9 l e9 _ s9 m9 _ w9 t9 k9 _ G 4 0 [(0, .ref (x + (k))), (1, .int a)] [] Φ sz 0 0
  refine z_aload_n B dX4_removeAt_0 rfl 0 rfl ?_
  refine z_iload_n B dX4_removeAt_1 rfl 1 rfl ?_
  obtain ⟨n_1, h_1, b_1⟩ := in17 (k := k) hI hk_k
  replace b_1 : n_1 ≤ fcap (k) := b_1
  have b_2 := fcap_le (k)
  have b_3 := fcap_pos (k)
  have h_2 : Φ (x + (k)) = some (o_ 6 [.ref (x + (k + 1)), .int (nI n_1)]) := h_1
  refine z_callV (As := [.int a]) (rest := []) B (s_X4_flowAt G l Φ sz x (ca) k a hx hI hk_k) (cwV 1 B.1.2.2.2.2 gX4_removeAt_X4_flowAt rfl rfl rfl (by decide +kernel) ⟨Nat.le_of_ble_eq_true rfl, Nat.le_of_ble_eq_true rfl⟩) h_2 rfl rfl rfl rfl (Nat.le_of_ble_eq_true rfl) dX4_removeAt_2 ⟨Nat.le_of_ble_eq_true rfl, Nat.le_of_ble_eq_true rfl⟩ (fun r_1 Φ1 sz1 st1 hp1 hs1 => ?_)
  obtain ⟨⟨m_1, hm_1, rfl⟩, hq1, hI1, hF1⟩ := hp1
  subst sz1
  replace hs1 : st1 = [.ref (x + (k + 2 + m_1))] := hs1
  subst st1
  replace hI1 : In G x (ca) Φ1 := hI1
  replace hm_1 : m_1 < fcap (k) := hm_1
  refine z_astore_n (lv' := [(2, .ref (x + (k + 2 + m_1))), (0, .ref (x + (k))), (1, .int a)]) B dX4_removeAt_5 rfl (Nat.le_of_ble_eq_true rfl) rfl ?_
  refine z_iload_n B dX4_removeAt_6 rfl 2 rfl ?_
  refine z_if_lt (tgt := 18) B dX4_removeAt_7 rfl (fun c_1 => ?_) (fun c_1 => ?_)
  · refine z_aload_n B dX4_removeAt_18 rfl 0 rfl ?_
    exact z_ret_a B dX4_removeAt_19 ⟨⟨m_1, by omega, rfl⟩, rfl, hI1, (fun b9 h9 => ((hF1 b9 (fun j9 h8 h7 => (show False from h7).elim)).trans rfl))⟩
  · obtain ⟨n_2, e_1, rfl⟩ := nI_of c_1
    refine z_iload_n B dX4_removeAt_10 rfl 2 rfl ?_
    refine z_aload_n B dX4_removeAt_11 rfl 1 rfl ?_
    have h_3 : Φ1 (x + (k)) = some (o_ 6 [.ref (x + (k + 1)), .int (nI n_1)]) := ((hF1 (x + (k)) (fun j9 h8 h7 => (show False from h7).elim)).trans h_2)
    refine z_get (ref := "FlowExporter$FlowTable") (C := RX4) (T := TX4) (N := 2) (ci := 6) (v := .int (nI n_1)) B hu_X4_removeAt_X4 rfl 1 (Nat.le_of_ble_eq_true rfl) hv_X4_removeAt_9 rfl h_3 rfl dX4_removeAt_12 ?_
    refine z_icmp_lt (tgt := 20) B dX4_removeAt_15 rfl (fun c_2 => ?_) (fun c_2 => ?_)
    · have e_2 : n_2 < n_1 := (nI_ltI (a := n_2) (b := n_1) (by omega) (by omega)).mp c_2
      refine z_iload_n B dX4_removeAt_20 rfl 2 rfl ?_
      refine z_istore_n (lv' := [(3, .int (nI n_2)), (2, .ref (x + (k + 2 + m_1))), (0, .ref (x + (k))), (1, .int (nI n_2))]) B dX4_removeAt_21 rfl (Nat.le_of_ble_eq_true rfl) rfl ?_
      refine z_lv [0, 1, 2, 3] rfl ?_
      refine z_loop (α := Nat) (fun (a9 : Nat) Φi => In G x (ca) Φi ∧ Fr x (fun j9 => j9 = k + 1) Φ1 Φi ∧ (a9 ≤ 24) ∧ True) (fun a9 => [(3, .int (nI a9)), (2, .ref (x + (k + 2 + m_1))), (0, .ref (x + (k))), (1, .int (nI n_2))]) (fun a9 => 24 - a9) ?_ (n_2) ⟨hI1, fun _ _ => rfl, (show n_2 ≤ 24 by omega), trivial⟩
      rintro i_1 Φl1 ⟨hI2, hF2, b_4, -⟩ ih1
      replace hI2 : In G x (ca) Φl1 := hI2
      replace b_4 : i_1 ≤ 24 := b_4
      show Z p9 l e9 _ s9 m9 _ w9 t9 k9 _ G 4 22 [(3, .int (nI i_1)), (2, .ref (x + (k + 2 + m_1))), (0, .ref (x + (k))), (1, .int (nI n_2))] [] Φl1 _ _ _
      refine z_iload_n B dX4_removeAt_22 rfl 0 rfl ?_
      refine z_aload_n B dX4_removeAt_23 rfl 2 rfl ?_
      have h_4 : Φl1 (x + (k)) = some (o_ 6 [.ref (x + (k + 1)), .int (nI n_1)]) := ((hF2 (x + (k)) (fun j9 h8 h7 => by have h6 : j9 = k + 1 := h7; omega)).trans h_3)
      refine z_get (ref := "FlowExporter$FlowTable") (C := RX4) (T := TX4) (N := 2) (ci := 6) (v := .int (nI n_1)) B hu_X4_removeAt_X4 rfl 1 (Nat.le_of_ble_eq_true rfl) hv_X4_removeAt_9 rfl h_4 rfl dX4_removeAt_24 ?_
      refine z_iconst (v := 1) B dX4_removeAt_27 rfl ?_
      refine z_isub B dX4_removeAt_28 ?_
      refine z_top (st1 := [.int (nI (n_1 - 1)), .int (nI i_1)]) (congrArg (fun w9 : Int32 => ([.int w9, .int (nI i_1)] : List Value)) (nI_sub (show 1 ≤ n_1 by omega))) ?_
      refine z_icmp_ge (tgt := 52) B dX4_removeAt_29 rfl (fun c_3 => ?_) (fun c_3 => ?_)
      · have e_3 : n_1 - 1 ≤ i_1 := (nI_leI (a := n_1 - 1) (b := i_1) (by omega) (by omega)).mp c_3
        refine z_aload_n B dX4_removeAt_52 rfl 2 rfl ?_
        refine z_dup B dX4_removeAt_53 rfl ?_
        refine z_get (ref := "FlowExporter$FlowTable") (C := RX4) (T := TX4) (N := 2) (ci := 6) (v := .int (nI n_1)) B hu_X4_removeAt_X4 rfl 1 (Nat.le_of_ble_eq_true rfl) hv_X4_removeAt_9 rfl h_4 rfl dX4_removeAt_54 ?_
        refine z_iconst (v := 1) B dX4_removeAt_57 rfl ?_
        refine z_isub B dX4_removeAt_58 ?_
        refine z_top (st1 := [.int (nI (n_1 - 1)), .ref (x + (k))]) (congrArg (fun w9 : Int32 => ([.int w9, .ref (x + (k))] : List Value)) (nI_sub (show 1 ≤ n_1 by omega))) ?_
        refine z_put (ref := "FlowExporter$FlowTable") (C := RX4) (T := TX4) (N := 2) (ci := 6) (v := .int (nI (n_1 - 1))) B hu_X4_removeAt_X4 tyX4 tyX4_ok nmX4 rfl 1 (Nat.le_of_ble_eq_true rfl) hv_X4_removeAt_9 rfl (Or.inl rfl) h_4 (by omega) rfl rfl (Nat.le_of_ble_eq_true rfl) dX4_removeAt_59 (fun Φ2 hΦ1 => ?_)
        have h_5 : Φ2 (x + (k)) = some (o_ 6 [.ref (x + (k + 1)), .int (nI (n_1 - 1))]) := fset_at hΦ1
        have hI3 : In G x (ca) Φ2 := In.put (k := k) hI2 hΦ1 (ok17 (k := k) hk_k ⟨n_1 - 1, rfl, (show n_1 - 1 ≤ fcap (k) by omega)⟩)
        refine z_aload_n B dX4_removeAt_62 rfl 2 rfl ?_
        refine z_get (ref := "FlowExporter$FlowTable") (C := RX4) (T := TX4) (N := 2) (ci := 6) (v := .ref (x + (k + 1))) B hu_X4_removeAt_X4 rfl 0 (Nat.le_of_ble_eq_true rfl) hv_X4_removeAt_23 rfl h_5 rfl dX4_removeAt_63 ?_
        refine z_aload_n B dX4_removeAt_66 rfl 2 rfl ?_
        refine z_get (ref := "FlowExporter$FlowTable") (C := RX4) (T := TX4) (N := 2) (ci := 6) (v := .int (nI (n_1 - 1))) B hu_X4_removeAt_X4 rfl 1 (Nat.le_of_ble_eq_true rfl) hv_X4_removeAt_9 rfl h_5 rfl dX4_removeAt_67 ?_
        refine z_aload_n B dX4_removeAt_70 rfl 1 rfl ?_
        obtain ⟨f_1, h_6, r_2⟩ := in18 (k := k + 1) hI3 (kd_r hk_k)
        replace r_2 : ∀ j, j < fcap (k) → ∃ m, m < fcap (k) ∧ f_1 j = some (x + (k + 1 + 1 + m)) := r_2
        have b_5 := fcap_le (k)
        have b_6 := fcap_pos (k)
        have h_7 : Φ2 (x + (k + 1)) = some (aq_ G 5 (fcap (k)) f_1) := h_6
        obtain ⟨v_1, v_2, v_3, v_4, v_5, h_8⟩ := in19 (k := k + 2 + m_1) hI3 (kd_f (kd_r hk_k) hm_1)
        have h_9 : Φ2 (x + (k + 2 + m_1)) = some (o_ 5 [.long v_1, .long v_2, .long v_3, .int v_4, .int v_5]) := h_8
        refine z_aast B rfl h_7 (by omega) h_9 rfl (vp_in_nI (by omega) (by omega)) dX4_removeAt_71 (fun Φ3 hΦ2 => ?_)
        have h_10 : Φ3 (x + (k + 1)) = some (aq_ G 5 (fcap (k)) (va_up f_1 (nI (n_1 - 1)).toNatClampNeg (some (x + (k + 2 + m_1))))) := fset_at hΦ2
        have hI4 : In G x (ca) Φ3 := In.put (k := k + 1) hI3 hΦ2 (ok18 (k := k + 1) (kd_r hk_k) ⟨_, rfl, row_up r_2 ⟨m_1, (show m_1 < fcap (k) by omega), rfl⟩⟩)
        refine z_aload_n B dX4_removeAt_72 rfl 1 rfl ?_
        exact z_ret_a B dX4_removeAt_73 ⟨⟨m_1, by omega, rfl⟩, rfl, hI4, (fun b9 h9 => ((fset_fr hΦ2 (fun h8 => h9 (k + 1) h8 (show (k + 1) = k ∨ (k + 1) = k + 1 by omega))).trans ((fset_fr hΦ1 (fun h8 => h9 (k) h8 (show k = k ∨ k = k + 1 by omega))).trans ((hF2 b9 (fun j9 h8 h7 => h9 j9 h8 (show j9 = k ∨ j9 = k + 1 by have h6 : j9 = k + 1 := h7; omega))).trans ((hF1 b9 (fun j9 h8 h7 => (show False from h7).elim)).trans rfl)))))⟩
      · have e_4 : ¬ (n_1 - 1 ≤ i_1) := fun h9 => c_3 ((nI_leI (a := n_1 - 1) (b := i_1) (by omega) (by omega)).mpr h9)
        refine z_aload_n B dX4_removeAt_32 rfl 2 rfl ?_
        refine z_get (ref := "FlowExporter$FlowTable") (C := RX4) (T := TX4) (N := 2) (ci := 6) (v := .ref (x + (k + 1))) B hu_X4_removeAt_X4 rfl 0 (Nat.le_of_ble_eq_true rfl) hv_X4_removeAt_23 rfl h_4 rfl dX4_removeAt_33 ?_
        refine z_iload_n B dX4_removeAt_36 rfl 0 rfl ?_
        refine z_aload_n B dX4_removeAt_37 rfl 2 rfl ?_
        refine z_get (ref := "FlowExporter$FlowTable") (C := RX4) (T := TX4) (N := 2) (ci := 6) (v := .ref (x + (k + 1))) B hu_X4_removeAt_X4 rfl 0 (Nat.le_of_ble_eq_true rfl) hv_X4_removeAt_23 rfl h_4 rfl dX4_removeAt_38 ?_
        refine z_iload_n B dX4_removeAt_41 rfl 0 rfl ?_
        refine z_iconst (v := 1) B dX4_removeAt_42 rfl ?_
        refine z_iadd B dX4_removeAt_43 ?_
        refine z_top (st1 := [.int (nI (i_1 + 1)), .ref (x + (k + 1)), .int (nI i_1), .ref (x + (k + 1))]) (congrArg (fun w9 : Int32 => ([.int w9, .ref (x + (k + 1)), .int (nI i_1), .ref (x + (k + 1))] : List Value)) (nI_add i_1 1)) ?_
        obtain ⟨f_2, h_11, r_3⟩ := in18 (k := k + 1) hI2 (kd_r hk_k)
        replace r_3 : ∀ j, j < fcap (k) → ∃ m, m < fcap (k) ∧ f_2 j = some (x + (k + 1 + 1 + m)) := r_3
        have b_7 := fcap_le (k)
        have b_8 := fcap_pos (k)
        have h_12 : Φl1 (x + (k + 1)) = some (aq_ G 5 (fcap (k)) f_2) := h_11
        obtain ⟨m_2, hm_2, hf_1⟩ := r_3 (i_1 + 1) (by omega)
        refine z_aald (b := x + (k + 1 + 1 + m_2)) B rfl h_12 (vp_in_nI (by omega) (by omega)) ((congrArg f_2 (nI_clamp (by omega))).trans hf_1) dX4_removeAt_44 ?_
        obtain ⟨v_6, v_7, v_8, v_9, v_10, h_13⟩ := in19 (k := k + 1 + 1 + m_2) hI2 (kd_f (kd_r hk_k) hm_2)
        have h_14 : Φl1 (x + (k + 1 + 1 + m_2)) = some (o_ 5 [.long v_6, .long v_7, .long v_8, .int v_9, .int v_10]) := h_13
        refine z_aast B rfl h_12 (by omega) h_14 rfl (vp_in_nI (by omega) (by omega)) dX4_removeAt_45 (fun Φ4 hΦ3 => ?_)
        have h_15 : Φ4 (x + (k + 1)) = some (aq_ G 5 (fcap (k)) (va_up f_2 (nI i_1).toNatClampNeg (some (x + (k + 1 + 1 + m_2))))) := fset_at hΦ3
        have hI5 : In G x (ca) Φ4 := In.put (k := k + 1) hI2 hΦ3 (ok18 (k := k + 1) (kd_r hk_k) ⟨_, rfl, row_up r_3 ⟨m_2, (show m_2 < fcap (k) by omega), rfl⟩⟩)
        refine z_iinc (k := 0) (v := nI (i_1 + 1)) (lv' := [(3, .int (nI (i_1 + 1))), (2, .ref (x + (k + 2 + m_1))), (0, .ref (x + (k))), (1, .int (nI n_2))]) B dX4_removeAt_46 rfl (nI_add i_1 1) (Nat.le_of_ble_eq_true rfl) rfl ?_
        refine z_goto (tgt := 22) B dX4_removeAt_49 rfl ?_
        refine z_lv [0, 1, 2, 3] rfl ?_
        exact ih1 (i_1 + 1) Φ4 (show 24 - (i_1 + 1) < 24 - i_1 by omega) ⟨hI5, (fun b9 h9 => ((fset_fr hΦ3 (fun h8 => h9 (k + 1) h8 (show (k + 1) = k + 1 by omega))).trans ((hF2 b9 h9).trans rfl))), (show (i_1 + 1) ≤ 24 by omega), trivial⟩
    · have e_5 : ¬ (n_2 < n_1) := fun h9 => c_2 ((nI_ltI (a := n_2) (b := n_1) (by omega) (by omega)).mpr h9)
      refine z_aload_n B dX4_removeAt_18 rfl 0 rfl ?_
      exact z_ret_a B dX4_removeAt_19 ⟨⟨m_1, by omega, rfl⟩, rfl, hI1, (fun b9 h9 => ((hF1 b9 (fun j9 h8 h7 => (show False from h7).elim)).trans rfl))⟩

theorem hu_X4_indexOfEarliestLast_X4 : ∀ w ∈ u_ws RX4 TX4 2, w ∈ wsX4_indexOfEarliestLast := fun _ h => List.mem_cons_of_mem _ (List.mem_append_left _ (List.mem_append_right _ (h)))

theorem hv_X4_indexOfEarliestLast_9 : Cond.fieldLink RX4 9 "FlowExporter$FlowTable" (TX4 1).2.1 (TX4 1).2.2.1 ∈ wsX4_indexOfEarliestLast := List.mem_cons_of_mem _ (List.mem_append_left _ (List.mem_append_left _ (List.mem_of_getElem? (i := 0) rfl)))

theorem hv_X4_indexOfEarliestLast_23 : Cond.fieldLink RX4 23 "FlowExporter$FlowTable" (TX4 0).2.1 (TX4 0).2.2.1 ∈ wsX4_indexOfEarliestLast := List.mem_cons_of_mem _ (List.mem_append_left _ (List.mem_append_left _ (List.mem_of_getElem? (i := 1) rfl)))

theorem hu_X4_indexOfEarliestLast_X3 : ∀ w ∈ u_ws RX3 TX3 5, w ∈ wsX4_indexOfEarliestLast := fun _ h => List.mem_cons_of_mem _ (List.mem_append_right _ (h))

theorem hv_X4_indexOfEarliestLast_43 : Cond.fieldLink RX4 43 "FlowExporter$Flow" (TX3 4).2.1 (TX3 4).2.2.1 ∈ wsX4_indexOfEarliestLast := List.mem_cons_of_mem _ (List.mem_append_left _ (List.mem_append_left _ (List.mem_of_getElem? (i := 2) rfl)))

set_option maxHeartbeats 4000000 in
set_option maxRecDepth 100000 in
theorem s_X4_indexOfEarliestLast (G : EnvG) (l : Launch) (Φ : Hm) (sz x ca : Nat) (k : Nat) (hx : G.2.2.2 ≤ x) (hI : In G x ca Φ) (hk_k : kd k = 17) : Ct G l yX4_indexOfEarliestLast wsX4_indexOfEarliestLast ({ frames := 0, cells := 0, slots := 0, locals := 0 }) 0 0 [.ref (x + (k))] Φ sz (fun v Φ1 sz1 => (∃ r9 : Int32, v = some (.int r9)) ∧ sz1 = sz ∧ In G x (ca) Φ1 ∧ Fr x (fun j9 => False) Φ Φ1) := by
  refine Ct.of (cc := cX4_indexOfEarliestLast) (maxL := 3) (ret := (some .int)) (by decide) rfl (Nat.le_of_ble_eq_true rfl) ?_
  intro p9 e9 s9 m9 w9 t9 k9 B
  show Z p9 l e9 _ s9 m9 _ w9 t9 k9 _ G 3 0 [(0, .ref (x + (k)))] [] Φ sz 0 0
  refine z_iconst (v := 0) B dX4_indexOfEarliestLast_0 rfl ?_
  refine z_istore_n (lv' := [(1, .int 0), (0, .ref (x + (k)))]) B dX4_indexOfEarliestLast_1 rfl (Nat.le_of_ble_eq_true rfl) rfl ?_
  refine z_iconst (v := 1) B dX4_indexOfEarliestLast_2 rfl ?_
  refine z_istore_n (lv' := [(2, .int 1), (1, .int 0), (0, .ref (x + (k)))]) B dX4_indexOfEarliestLast_3 rfl (Nat.le_of_ble_eq_true rfl) rfl ?_
  refine z_lv [0, 1, 2] rfl ?_
  refine z_loop (α := Nat × Nat) (fun (a9 : Nat × Nat) Φi => In G x (ca) Φi ∧ Fr x (fun j9 => False) Φ Φi ∧ (a9.1 ≤ 25) ∧ (a9.2 < a9.1) ∧ True) (fun a9 => [(2, .int (nI (a9.1))), (1, .int (nI (a9.2))), (0, .ref (x + (k)))]) (fun a9 => 25 - a9.1) ?_ (1, 0) ⟨hI, fun _ _ => rfl, (show 1 ≤ 25 by omega), (show 0 < 1 by omega), trivial⟩
  rintro ⟨i_1, i_2⟩ Φl1 ⟨hI1, hF1, b_1, b_2, -⟩ ih1
  replace hI1 : In G x (ca) Φl1 := hI1
  replace b_1 : i_1 ≤ 25 := b_1
  replace b_2 : i_2 < i_1 := b_2
  show Z p9 l e9 _ s9 m9 _ w9 t9 k9 _ G 3 4 [(2, .int (nI i_1)), (1, .int (nI i_2)), (0, .ref (x + (k)))] [] Φl1 _ _ _
  refine z_iload_n B dX4_indexOfEarliestLast_4 rfl 0 rfl ?_
  refine z_aload_n B dX4_indexOfEarliestLast_5 rfl 2 rfl ?_
  obtain ⟨n_1, h_1, b_3⟩ := in17 (k := k) hI1 hk_k
  replace b_3 : n_1 ≤ fcap (k) := b_3
  have b_4 := fcap_le (k)
  have b_5 := fcap_pos (k)
  have h_2 : Φl1 (x + (k)) = some (o_ 6 [.ref (x + (k + 1)), .int (nI n_1)]) := h_1
  refine z_get (ref := "FlowExporter$FlowTable") (C := RX4) (T := TX4) (N := 2) (ci := 6) (v := .int (nI n_1)) B hu_X4_indexOfEarliestLast_X4 rfl 1 (Nat.le_of_ble_eq_true rfl) hv_X4_indexOfEarliestLast_9 rfl h_2 rfl dX4_indexOfEarliestLast_6 ?_
  refine z_icmp_ge (tgt := 41) B dX4_indexOfEarliestLast_9 rfl (fun c_1 => ?_) (fun c_1 => ?_)
  · have e_1 : n_1 ≤ i_1 := (nI_leI (a := n_1) (b := i_1) (by omega) (by omega)).mp c_1
    refine z_iload_n B dX4_indexOfEarliestLast_41 rfl 1 rfl ?_
    exact z_ret_i B dX4_indexOfEarliestLast_42 ⟨⟨_, rfl⟩, rfl, hI1, (fun b9 h9 => ((hF1 b9 (fun j9 h8 h7 => (show False from h7).elim)).trans rfl))⟩
  · have e_2 : ¬ (n_1 ≤ i_1) := fun h9 => c_1 ((nI_leI (a := n_1) (b := i_1) (by omega) (by omega)).mpr h9)
    refine z_aload_n B dX4_indexOfEarliestLast_12 rfl 2 rfl ?_
    refine z_get (ref := "FlowExporter$FlowTable") (C := RX4) (T := TX4) (N := 2) (ci := 6) (v := .ref (x + (k + 1))) B hu_X4_indexOfEarliestLast_X4 rfl 0 (Nat.le_of_ble_eq_true rfl) hv_X4_indexOfEarliestLast_23 rfl h_2 rfl dX4_indexOfEarliestLast_13 ?_
    refine z_iload_n B dX4_indexOfEarliestLast_16 rfl 0 rfl ?_
    obtain ⟨f_1, h_3, r_1⟩ := in18 (k := k + 1) hI1 (kd_r hk_k)
    replace r_1 : ∀ j, j < fcap (k) → ∃ m, m < fcap (k) ∧ f_1 j = some (x + (k + 1 + 1 + m)) := r_1
    have b_6 := fcap_le (k)
    have b_7 := fcap_pos (k)
    have h_4 : Φl1 (x + (k + 1)) = some (aq_ G 5 (fcap (k)) f_1) := h_3
    obtain ⟨m_1, hm_1, hf_1⟩ := r_1 i_1 (by omega)
    refine z_aald (b := x + (k + 1 + 1 + m_1)) B rfl h_4 (vp_in_nI (by omega) (by omega)) ((congrArg f_1 (nI_clamp (by omega))).trans hf_1) dX4_indexOfEarliestLast_17 ?_
    obtain ⟨v_1, v_2, v_3, v_4, v_5, h_5⟩ := in19 (k := k + 1 + 1 + m_1) hI1 (kd_f (kd_r hk_k) hm_1)
    have h_6 : Φl1 (x + (k + 1 + 1 + m_1)) = some (o_ 5 [.long v_1, .long v_2, .long v_3, .int v_4, .int v_5]) := h_5
    refine z_get (ref := "FlowExporter$Flow") (C := RX3) (T := TX3) (N := 5) (ci := 5) (v := .int v_5) B hu_X4_indexOfEarliestLast_X3 rfl 4 (Nat.le_of_ble_eq_true rfl) hv_X4_indexOfEarliestLast_43 rfl h_6 rfl dX4_indexOfEarliestLast_18 ?_
    refine z_aload_n B dX4_indexOfEarliestLast_21 rfl 2 rfl ?_
    refine z_get (ref := "FlowExporter$FlowTable") (C := RX4) (T := TX4) (N := 2) (ci := 6) (v := .ref (x + (k + 1))) B hu_X4_indexOfEarliestLast_X4 rfl 0 (Nat.le_of_ble_eq_true rfl) hv_X4_indexOfEarliestLast_23 rfl h_2 rfl dX4_indexOfEarliestLast_22 ?_
    refine z_iload_n B dX4_indexOfEarliestLast_25 rfl 1 rfl ?_
    obtain ⟨m_2, hm_2, hf_2⟩ := r_1 i_2 (by omega)
    refine z_aald (b := x + (k + 1 + 1 + m_2)) B rfl h_4 (vp_in_nI (by omega) (by omega)) ((congrArg f_1 (nI_clamp (by omega))).trans hf_2) dX4_indexOfEarliestLast_26 ?_
    obtain ⟨v_6, v_7, v_8, v_9, v_10, h_7⟩ := in19 (k := k + 1 + 1 + m_2) hI1 (kd_f (kd_r hk_k) hm_2)
    have h_8 : Φl1 (x + (k + 1 + 1 + m_2)) = some (o_ 5 [.long v_6, .long v_7, .long v_8, .int v_9, .int v_10]) := h_7
    refine z_get (ref := "FlowExporter$Flow") (C := RX3) (T := TX3) (N := 5) (ci := 5) (v := .int v_10) B hu_X4_indexOfEarliestLast_X3 rfl 4 (Nat.le_of_ble_eq_true rfl) hv_X4_indexOfEarliestLast_43 rfl h_8 rfl dX4_indexOfEarliestLast_27 ?_
    refine z_icmp_ge (tgt := 35) B dX4_indexOfEarliestLast_30 rfl (fun c_2 => ?_) (fun c_2 => ?_)
    · refine z_iinc (k := 0) (v := nI (i_1 + 1)) (lv' := [(2, .int (nI (i_1 + 1))), (1, .int (nI i_2)), (0, .ref (x + (k)))]) B dX4_indexOfEarliestLast_35 rfl (nI_add i_1 1) (Nat.le_of_ble_eq_true rfl) rfl ?_
      refine z_goto (tgt := 4) B dX4_indexOfEarliestLast_38 rfl ?_
      refine z_lv [0, 1, 2] rfl ?_
      exact ih1 (i_1 + 1, i_2) Φl1 (show 25 - (i_1 + 1) < 25 - i_1 by omega) ⟨hI1, (fun b9 h9 => ((hF1 b9 (fun j9 h8 h7 => (show False from h7).elim)).trans rfl)), (show (i_1 + 1) ≤ 25 by omega), (show i_2 < (i_1 + 1) by omega), trivial⟩
    · refine z_iload_n B dX4_indexOfEarliestLast_33 rfl 0 rfl ?_
      refine z_istore_n (lv' := [(1, .int (nI i_1)), (2, .int (nI i_1)), (0, .ref (x + (k)))]) B dX4_indexOfEarliestLast_34 rfl (Nat.le_of_ble_eq_true rfl) rfl ?_
      refine z_iinc (k := 1) (v := nI (i_1 + 1)) (lv' := [(2, .int (nI (i_1 + 1))), (1, .int (nI i_1)), (0, .ref (x + (k)))]) B dX4_indexOfEarliestLast_35 rfl (nI_add i_1 1) (Nat.le_of_ble_eq_true rfl) rfl ?_
      refine z_goto (tgt := 4) B dX4_indexOfEarliestLast_38 rfl ?_
      refine z_lv [0, 1, 2] rfl ?_
      exact ih1 (i_1 + 1, i_1) Φl1 (show 25 - (i_1 + 1) < 25 - i_1 by omega) ⟨hI1, (fun b9 h9 => ((hF1 b9 (fun j9 h8 h7 => (show False from h7).elim)).trans rfl)), (show (i_1 + 1) ≤ 25 by omega), (show i_1 < (i_1 + 1) by omega), trivial⟩

theorem hu_X7_clear_X7 : ∀ w ∈ u_ws RX7 TX7 3, w ∈ wsX7_clear := fun _ h => List.mem_cons_of_mem _ (List.mem_append_right _ (h))

theorem hv_X7_clear_17 : Cond.fieldLink RX7 17 "FlowExporter$Queue" (TX7 1).2.1 (TX7 1).2.2.1 ∈ wsX7_clear := List.mem_cons_of_mem _ (List.mem_append_left _ (List.mem_of_getElem? (i := 0) rfl))

theorem hv_X7_clear_21 : Cond.fieldLink RX7 21 "FlowExporter$Queue" (TX7 2).2.1 (TX7 2).2.2.1 ∈ wsX7_clear := List.mem_cons_of_mem _ (List.mem_append_left _ (List.mem_of_getElem? (i := 1) rfl))

set_option maxHeartbeats 4000000 in
set_option maxRecDepth 100000 in
theorem s_X7_clear (G : EnvG) (l : Launch) (Φ : Hm) (sz x ca : Nat)  (hx : G.2.2.2 ≤ x) (hI : In G x ca Φ)  : Ct G l yX7_clear wsX7_clear ({ frames := 0, cells := 0, slots := 0, locals := 0 }) 0 0 [.ref (x + 46)] Φ sz (fun v Φ1 sz1 => (v = none) ∧ sz1 = sz ∧ In G x (ca) Φ1 ∧ Fr x (fun j9 => j9 = 46) Φ Φ1) := by
  refine Ct.of (cc := cX7_clear) (maxL := 1) (ret := none) (by decide) rfl (Nat.le_of_ble_eq_true rfl) ?_
  intro p9 e9 s9 m9 w9 t9 k9 B
  show Z p9 l e9 _ s9 m9 _ w9 t9 k9 _ G 1 0 [(0, .ref (x + 46))] [] Φ sz 0 0
  refine z_aload_n B dX7_clear_0 rfl 0 rfl ?_
  refine z_iconst (v := 0) B dX7_clear_1 rfl ?_
  obtain ⟨n_1, v_1, h_1, b_1⟩ := in11 (k := 46) hI rfl
  have h_2 : Φ (x + 46) = some (o_ 9 [.ref (x + 47), .int (nI n_1), .int v_1]) := h_1
  refine z_put (ref := "FlowExporter$Queue") (C := RX7) (T := TX7) (N := 3) (ci := 9) (v := .int 0) B hu_X7_clear_X7 tyX7 tyX7_ok nmX7 rfl 1 (Nat.le_of_ble_eq_true rfl) hv_X7_clear_17 rfl (Or.inl rfl) h_2 (Nat.le_trans hx (Nat.le_add_right x 46)) rfl rfl (Nat.le_of_ble_eq_true rfl) dX7_clear_2 (fun Φ1 hΦ1 => ?_)
  have h_3 : Φ1 (x + 46) = some (o_ 9 [.ref (x + 47), .int 0, .int v_1]) := fset_at hΦ1
  have hI1 : In G x (ca) Φ1 := In.put (k := 46) hI hΦ1 (ok11 (k := 46) rfl ⟨0, v_1, rfl, (show 0 ≤ 12 by omega)⟩)
  refine z_aload_n B dX7_clear_5 rfl 0 rfl ?_
  refine z_iconst (v := 0) B dX7_clear_6 rfl ?_
  refine z_put (ref := "FlowExporter$Queue") (C := RX7) (T := TX7) (N := 3) (ci := 9) (v := .int 0) B hu_X7_clear_X7 tyX7 tyX7_ok nmX7 rfl 2 (Nat.le_of_ble_eq_true rfl) hv_X7_clear_21 rfl (Or.inl rfl) h_3 (Nat.le_trans hx (Nat.le_add_right x 46)) rfl rfl (Nat.le_of_ble_eq_true rfl) dX7_clear_7 (fun Φ2 hΦ2 => ?_)
  have h_4 : Φ2 (x + 46) = some (o_ 9 [.ref (x + 47), .int 0, .int 0]) := fset_at hΦ2
  have hI2 : In G x (ca) Φ2 := In.put (k := 46) hI1 hΦ2 (ok11 (k := 46) rfl ⟨0, 0, rfl, (show 0 ≤ 12 by omega)⟩)
  exact z_ret_v B dX7_clear_10 ⟨rfl, rfl, hI2, (fun b9 h9 => ((fset_fr hΦ2 (fun h8 => h9 (46) h8 (show 46 = 46 by decide))).trans ((fset_fr hΦ1 (fun h8 => h9 (46) h8 (show 46 = 46 by decide))).trans rfl)))⟩

theorem hu_X7_messageAt_X7 : ∀ w ∈ u_ws RX7 TX7 3, w ∈ wsX7_messageAt := fun _ h => List.mem_cons_of_mem _ (List.mem_append_right _ (h))

theorem hv_X7_messageAt_11 : Cond.fieldLink RX7 11 "FlowExporter$Queue" (TX7 0).2.1 (TX7 0).2.2.1 ∈ wsX7_messageAt := List.mem_cons_of_mem _ (List.mem_append_left _ (List.mem_of_getElem? (i := 0) rfl))

set_option maxHeartbeats 4000000 in
set_option maxRecDepth 100000 in
theorem s_X7_messageAt (G : EnvG) (l : Launch) (Φ : Hm) (sz x ca : Nat) (a : Int32) (hx : G.2.2.2 ≤ x) (hI : In G x ca Φ)  : Ct G l yX7_messageAt wsX7_messageAt ({ frames := 0, cells := 0, slots := 0, locals := 0 }) 0 0 [.ref (x + 46), .int a] Φ sz (fun v Φ1 sz1 => (∃ m9 : Nat, m9 < 13 ∧ v = some (.ref (x + (48 + 2 * m9)))) ∧ sz1 = sz ∧ In G x (ca) Φ1 ∧ Fr x (fun j9 => False) Φ Φ1) := by
  refine Ct.of (cc := cX7_messageAt) (maxL := 2) (ret := (some (.object "FlowExporter$Message"))) (by decide) rfl (Nat.le_of_ble_eq_true rfl) ?_
  intro p9 e9 s9 m9 w9 t9 k9 B
  show Z p9 l e9 _ s9 m9 _ w9 t9 k9 _ G 2 0 [(0, .ref (x + 46)), (1, .int a)] [] Φ sz 0 0
  refine z_aload_n B dX7_messageAt_0 rfl 0 rfl ?_
  obtain ⟨n_1, v_1, h_1, b_1⟩ := in11 (k := 46) hI rfl
  have h_2 : Φ (x + 46) = some (o_ 9 [.ref (x + 47), .int (nI n_1), .int v_1]) := h_1
  refine z_get (ref := "FlowExporter$Queue") (C := RX7) (T := TX7) (N := 3) (ci := 9) (v := .ref (x + 47)) B hu_X7_messageAt_X7 rfl 0 (Nat.le_of_ble_eq_true rfl) hv_X7_messageAt_11 rfl h_2 rfl dX7_messageAt_1 ?_
  refine z_iload_n B dX7_messageAt_4 rfl 1 rfl ?_
  refine z_if_lt (tgt := 21) B dX7_messageAt_5 rfl (fun c_1 => ?_) (fun c_1 => ?_)
  · refine z_iconst (v := 0) B dX7_messageAt_21 rfl ?_
    obtain ⟨f_1, h_3, r_1⟩ := in12 (k := 47) hI rfl
    have h_4 : Φ (x + 47) = some (aq_ G 6 13 f_1) := h_3
    obtain ⟨m_1, hm_1, hf_1⟩ := r_1 0 (by omega)
    refine z_aald (b := x + (48 + 2 * m_1)) B rfl h_4 (vin rfl) (hf_1) dX7_messageAt_22 ?_
    exact z_ret_a B dX7_messageAt_23 ⟨⟨m_1, by omega, rfl⟩, rfl, hI, (fun b9 h9 => rfl)⟩
  · obtain ⟨n_2, e_1, rfl⟩ := nI_of c_1
    refine z_iload_n B dX7_messageAt_8 rfl 1 rfl ?_
    refine z_aload_n B dX7_messageAt_9 rfl 0 rfl ?_
    refine z_get (ref := "FlowExporter$Queue") (C := RX7) (T := TX7) (N := 3) (ci := 9) (v := .ref (x + 47)) B hu_X7_messageAt_X7 rfl 0 (Nat.le_of_ble_eq_true rfl) hv_X7_messageAt_11 rfl h_2 rfl dX7_messageAt_10 ?_
    obtain ⟨f_2, h_5, r_2⟩ := in12 (k := 47) hI rfl
    have h_6 : Φ (x + 47) = some (aq_ G 6 13 f_2) := h_5
    refine z_alen (t := 6) (v := 13) B rfl h_6 rfl dX7_messageAt_13 ?_
    refine z_icmp_ge (tgt := 21) B dX7_messageAt_14 rfl (fun c_2 => ?_) (fun c_2 => ?_)
    · have e_2 : 13 ≤ n_2 := (nI_leI (a := 13) (b := n_2) (by omega) (by omega)).mp c_2
      refine z_iconst (v := 0) B dX7_messageAt_21 rfl ?_
      obtain ⟨m_2, hm_2, hf_2⟩ := r_2 0 (by omega)
      refine z_aald (b := x + (48 + 2 * m_2)) B rfl h_6 (vin rfl) (hf_2) dX7_messageAt_22 ?_
      exact z_ret_a B dX7_messageAt_23 ⟨⟨m_2, by omega, rfl⟩, rfl, hI, (fun b9 h9 => rfl)⟩
    · have e_3 : ¬ (13 ≤ n_2) := fun h9 => c_2 ((nI_leI (a := 13) (b := n_2) (by omega) (by omega)).mpr h9)
      refine z_iload_n B dX7_messageAt_17 rfl 1 rfl ?_
      refine z_goto (tgt := 22) B dX7_messageAt_18 rfl ?_
      obtain ⟨m_3, hm_3, hf_3⟩ := r_2 n_2 (by omega)
      refine z_aald (b := x + (48 + 2 * m_3)) B rfl h_6 (vp_in_nI (by omega) (by omega)) ((congrArg f_2 (nI_clamp (by omega))).trans hf_3) dX7_messageAt_22 ?_
      exact z_ret_a B dX7_messageAt_23 ⟨⟨m_3, by omega, rfl⟩, rfl, hI, (fun b9 h9 => rfl)⟩

theorem hu_X7_freeMessage_X7 : ∀ w ∈ u_ws RX7 TX7 3, w ∈ wsX7_freeMessage := fun _ h => List.mem_cons_of_mem _ (List.mem_append_left _ (List.mem_append_right _ (h)))

theorem hv_X7_freeMessage_17 : Cond.fieldLink RX7 17 "FlowExporter$Queue" (TX7 1).2.1 (TX7 1).2.2.1 ∈ wsX7_freeMessage := List.mem_cons_of_mem _ (List.mem_append_left _ (List.mem_append_left _ (List.mem_of_getElem? (i := 0) rfl)))

theorem hu_X7_freeMessage_X5 : ∀ w ∈ u_ws RX5 TX5 2, w ∈ wsX7_freeMessage := fun _ h => List.mem_cons_of_mem _ (List.mem_append_right _ (h))

theorem hv_X7_freeMessage_31 : Cond.fieldLink RX7 31 "FlowExporter$Message" (TX5 1).2.1 (TX5 1).2.2.1 ∈ wsX7_freeMessage := List.mem_cons_of_mem _ (List.mem_append_left _ (List.mem_append_left _ (List.mem_of_getElem? (i := 1) rfl)))

set_option maxHeartbeats 4000000 in
set_option maxRecDepth 100000 in
theorem s_X7_freeMessage (G : EnvG) (l : Launch) (Φ : Hm) (sz x ca : Nat)  (hx : G.2.2.2 ≤ x) (hI : In G x ca Φ)  : Ct G l yX7_freeMessage wsX7_freeMessage ({ frames := 1, cells := 0, slots := 0, locals := 21 }) 0 0 [.ref (x + 46)] Φ sz (fun v Φ1 sz1 => (∃ m9 : Nat, m9 < 13 ∧ v = some (.ref (x + (48 + 2 * m9)))) ∧ sz1 = sz ∧ In G x (ca) Φ1 ∧ Fr x (fun j9 => 48 ≤ j9 ∧ j9 < 74) Φ Φ1) := by
  refine Ct.of (cc := cX7_freeMessage) (maxL := 2) (ret := (some (.object "FlowExporter$Message"))) (by decide) rfl (Nat.le_of_ble_eq_true rfl) ?_
  intro p9 e9 s9 m9 w9 t9 k9 B
  show Z p9 l e9 _ s9 m9 _ w9 t9 k9 _ G 2 0 [(0, .ref (x + 46))] [] Φ sz 0 0
  refine z_aload_n B dX7_freeMessage_0 rfl 0 rfl ?_
  refine z_aload_n B dX7_freeMessage_1 rfl 0 rfl ?_
  obtain ⟨n_1, v_1, h_1, b_1⟩ := in11 (k := 46) hI rfl
  have h_2 : Φ (x + 46) = some (o_ 9 [.ref (x + 47), .int (nI n_1), .int v_1]) := h_1
  refine z_get (ref := "FlowExporter$Queue") (C := RX7) (T := TX7) (N := 3) (ci := 9) (v := .int (nI n_1)) B hu_X7_freeMessage_X7 rfl 1 (Nat.le_of_ble_eq_true rfl) hv_X7_freeMessage_17 rfl h_2 rfl dX7_freeMessage_2 ?_
  refine z_callV (As := [.int (nI n_1)]) (rest := []) B (s_X7_messageAt G l Φ sz x (ca) (nI n_1) hx hI ) (cwV 1 B.1.2.2.2.2 gX7_freeMessage_X7_messageAt rfl rfl rfl (by decide +kernel) ⟨Nat.le_of_ble_eq_true rfl, Nat.le_of_ble_eq_true rfl⟩) h_2 rfl rfl rfl rfl (Nat.le_of_ble_eq_true rfl) dX7_freeMessage_5 ⟨Nat.le_of_ble_eq_true rfl, Nat.le_of_ble_eq_true rfl⟩ (fun r_1 Φ1 sz1 st1 hp1 hs1 => ?_)
  obtain ⟨⟨m_1, hm_1, rfl⟩, hq1, hI1, hF1⟩ := hp1
  subst sz1
  replace hs1 : st1 = [.ref (x + (48 + 2 * m_1))] := hs1
  subst st1
  replace hI1 : In G x (ca) Φ1 := hI1
  replace hm_1 : m_1 < 13 := hm_1
  refine z_astore_n (lv' := [(1, .ref (x + (48 + 2 * m_1))), (0, .ref (x + 46))]) B dX7_freeMessage_8 rfl (Nat.le_of_ble_eq_true rfl) rfl ?_
  refine z_aload_n B dX7_freeMessage_9 rfl 0 rfl ?_
  refine z_iconst (v := 0) B dX7_freeMessage_10 rfl ?_
  obtain ⟨n_2, h_3, b_2⟩ := in1 (k := 48 + 2 * m_1) hI1 (kd_q hm_1)
  replace b_2 : n_2 ≤ cap (48 + 2 * m_1) := b_2
  have b_3 := cap_le (48 + 2 * m_1)
  have h_4 : Φ1 (x + (48 + 2 * m_1)) = some (o_ 7 [.ref (x + (48 + 2 * m_1 + 1)), .int (nI n_2)]) := h_3
  refine z_put (ref := "FlowExporter$Message") (C := RX5) (T := TX5) (N := 2) (ci := 7) (v := .int 0) B hu_X7_freeMessage_X5 tyX5 tyX5_ok nmX5 rfl 1 (Nat.le_of_ble_eq_true rfl) hv_X7_freeMessage_31 rfl (Or.inl rfl) h_4 (by omega) rfl rfl (Nat.le_of_ble_eq_true rfl) dX7_freeMessage_11 (fun Φ2 hΦ1 => ?_)
  have h_5 : Φ2 (x + (48 + 2 * m_1)) = some (o_ 7 [.ref (x + (48 + 2 * m_1 + 1)), .int 0]) := fset_at hΦ1
  have hI2 : In G x (ca) Φ2 := In.put (k := 48 + 2 * m_1) hI1 hΦ1 (ok1 (k := 48 + 2 * m_1) (kd_q hm_1) ⟨0, rfl, (show 0 ≤ cap (48 + 2 * m_1) by omega)⟩)
  refine z_aload_n B dX7_freeMessage_14 rfl 0 rfl ?_
  exact z_ret_a B dX7_freeMessage_15 ⟨⟨m_1, by omega, rfl⟩, rfl, hI2, (fun b9 h9 => ((fset_fr hΦ1 (fun h8 => h9 (48 + 2 * m_1) h8 (show 48 ≤ (48 + 2 * m_1) ∧ (48 + 2 * m_1) < 74 by omega))).trans ((hF1 b9 (fun j9 h8 h7 => (show False from h7).elim)).trans rfl)))⟩

theorem hu_X7_addFreeMessage_X7 : ∀ w ∈ u_ws RX7 TX7 3, w ∈ wsX7_addFreeMessage := fun _ h => List.mem_cons_of_mem _ (List.mem_append_right _ (h))

theorem hv_X7_addFreeMessage_17 : Cond.fieldLink RX7 17 "FlowExporter$Queue" (TX7 1).2.1 (TX7 1).2.2.1 ∈ wsX7_addFreeMessage := List.mem_cons_of_mem _ (List.mem_append_left _ (List.mem_of_getElem? (i := 0) rfl))

theorem hv_X7_addFreeMessage_21 : Cond.fieldLink RX7 21 "FlowExporter$Queue" (TX7 2).2.1 (TX7 2).2.2.1 ∈ wsX7_addFreeMessage := List.mem_cons_of_mem _ (List.mem_append_left _ (List.mem_of_getElem? (i := 1) rfl))

set_option maxHeartbeats 4000000 in
set_option maxRecDepth 100000 in
theorem s_X7_addFreeMessage (G : EnvG) (l : Launch) (Φ : Hm) (sz x ca : Nat)  (hx : G.2.2.2 ≤ x) (hI : In G x ca Φ)  : Ct G l yX7_addFreeMessage wsX7_addFreeMessage ({ frames := 0, cells := 0, slots := 0, locals := 0 }) 0 0 [.ref (x + 46)] Φ sz (fun v Φ1 sz1 => (v = none) ∧ sz1 = sz ∧ In G x (ca) Φ1 ∧ Fr x (fun j9 => j9 = 46) Φ Φ1) := by
  refine Ct.of (cc := cX7_addFreeMessage) (maxL := 1) (ret := none) (by decide) rfl (Nat.le_of_ble_eq_true rfl) ?_
  intro p9 e9 s9 m9 w9 t9 k9 B
  show Z p9 l e9 _ s9 m9 _ w9 t9 k9 _ G 1 0 [(0, .ref (x + 46))] [] Φ sz 0 0
  refine z_aload_n B dX7_addFreeMessage_0 rfl 0 rfl ?_
  obtain ⟨n_1, v_1, h_1, b_1⟩ := in11 (k := 46) hI rfl
  have h_2 : Φ (x + 46) = some (o_ 9 [.ref (x + 47), .int (nI n_1), .int v_1]) := h_1
  refine z_get (ref := "FlowExporter$Queue") (C := RX7) (T := TX7) (N := 3) (ci := 9) (v := .int (nI n_1)) B hu_X7_addFreeMessage_X7 rfl 1 (Nat.le_of_ble_eq_true rfl) hv_X7_addFreeMessage_17 rfl h_2 rfl dX7_addFreeMessage_1 ?_
  refine z_bipush (v := 12) B dX7_addFreeMessage_4 rfl ?_
  refine z_icmp_ge (tgt := 22) B dX7_addFreeMessage_6 rfl (fun c_1 => ?_) (fun c_1 => ?_)
  · have e_1 : 12 ≤ n_1 := (nI_leI (a := 12) (b := n_1) (by omega) (by omega)).mp c_1
    refine z_aload_n B dX7_addFreeMessage_22 rfl 0 rfl ?_
    refine z_dup B dX7_addFreeMessage_23 rfl ?_
    refine z_get (ref := "FlowExporter$Queue") (C := RX7) (T := TX7) (N := 3) (ci := 9) (v := .int v_1) B hu_X7_addFreeMessage_X7 rfl 2 (Nat.le_of_ble_eq_true rfl) hv_X7_addFreeMessage_21 rfl h_2 rfl dX7_addFreeMessage_24 ?_
    refine z_iconst (v := 1) B dX7_addFreeMessage_27 rfl ?_
    refine z_iadd B dX7_addFreeMessage_28 ?_
    refine z_fi (fun v_2 => ?_)
    refine z_put (ref := "FlowExporter$Queue") (C := RX7) (T := TX7) (N := 3) (ci := 9) (v := .int v_2) B hu_X7_addFreeMessage_X7 tyX7 tyX7_ok nmX7 rfl 2 (Nat.le_of_ble_eq_true rfl) hv_X7_addFreeMessage_21 rfl (Or.inl rfl) h_2 (Nat.le_trans hx (Nat.le_add_right x 46)) rfl rfl (Nat.le_of_ble_eq_true rfl) dX7_addFreeMessage_29 (fun Φ1 hΦ1 => ?_)
    have h_3 : Φ1 (x + 46) = some (o_ 9 [.ref (x + 47), .int (nI n_1), .int v_2]) := fset_at hΦ1
    have hI1 : In G x (ca) Φ1 := In.put (k := 46) hI hΦ1 (ok11 (k := 46) rfl ⟨n_1, v_2, rfl, (show n_1 ≤ 12 by omega)⟩)
    exact z_ret_v B dX7_addFreeMessage_32 ⟨rfl, rfl, hI1, (fun b9 h9 => ((fset_fr hΦ1 (fun h8 => h9 (46) h8 (show 46 = 46 by decide))).trans rfl))⟩
  · have e_2 : ¬ (12 ≤ n_1) := fun h9 => c_1 ((nI_leI (a := 12) (b := n_1) (by omega) (by omega)).mpr h9)
    refine z_aload_n B dX7_addFreeMessage_9 rfl 0 rfl ?_
    refine z_dup B dX7_addFreeMessage_10 rfl ?_
    refine z_get (ref := "FlowExporter$Queue") (C := RX7) (T := TX7) (N := 3) (ci := 9) (v := .int (nI n_1)) B hu_X7_addFreeMessage_X7 rfl 1 (Nat.le_of_ble_eq_true rfl) hv_X7_addFreeMessage_17 rfl h_2 rfl dX7_addFreeMessage_11 ?_
    refine z_iconst (v := 1) B dX7_addFreeMessage_14 rfl ?_
    refine z_iadd B dX7_addFreeMessage_15 ?_
    refine z_top (st1 := [.int (nI (n_1 + 1)), .ref (x + 46)]) (congrArg (fun w9 : Int32 => ([.int w9, .ref (x + 46)] : List Value)) (nI_add n_1 1)) ?_
    refine z_put (ref := "FlowExporter$Queue") (C := RX7) (T := TX7) (N := 3) (ci := 9) (v := .int (nI (n_1 + 1))) B hu_X7_addFreeMessage_X7 tyX7 tyX7_ok nmX7 rfl 1 (Nat.le_of_ble_eq_true rfl) hv_X7_addFreeMessage_17 rfl (Or.inl rfl) h_2 (Nat.le_trans hx (Nat.le_add_right x 46)) rfl rfl (Nat.le_of_ble_eq_true rfl) dX7_addFreeMessage_16 (fun Φ2 hΦ2 => ?_)
    have h_4 : Φ2 (x + 46) = some (o_ 9 [.ref (x + 47), .int (nI (n_1 + 1)), .int v_1]) := fset_at hΦ2
    have hI2 : In G x (ca) Φ2 := In.put (k := 46) hI hΦ2 (ok11 (k := 46) rfl ⟨n_1 + 1, v_1, rfl, (show n_1 + 1 ≤ 12 by omega)⟩)
    refine z_goto (tgt := 32) B dX7_addFreeMessage_19 rfl ?_
    exact z_ret_v B dX7_addFreeMessage_32 ⟨rfl, rfl, hI2, (fun b9 h9 => ((fset_fr hΦ2 (fun h8 => h9 (46) h8 (show 46 = 46 by decide))).trans rfl))⟩

theorem hu_X7_takeOut_X7 : ∀ w ∈ u_ws RX7 TX7 3, w ∈ wsX7_takeOut := fun _ h => List.mem_cons_of_mem _ (List.mem_append_right _ (h))

theorem hv_X7_takeOut_17 : Cond.fieldLink RX7 17 "FlowExporter$Queue" (TX7 1).2.1 (TX7 1).2.2.1 ∈ wsX7_takeOut := List.mem_cons_of_mem _ (List.mem_append_left _ (List.mem_of_getElem? (i := 0) rfl))

theorem fq_99 {x : Nat} : ∀ j9 : Nat, x + 46 = x + j9 → (j9 = 47) → False := by
  intro j9 h1 h2
  omega

theorem hv_X7_takeOut_11 : Cond.fieldLink RX7 11 "FlowExporter$Queue" (TX7 0).2.1 (TX7 0).2.2.1 ∈ wsX7_takeOut := List.mem_cons_of_mem _ (List.mem_append_left _ (List.mem_of_getElem? (i := 1) rfl))

theorem fq_101 : ∀ j9 : Nat, (j9 = 47) → (j9 = 46 ∨ j9 = 47) := by
  intro j9 h
  omega

set_option maxHeartbeats 4000000 in
set_option maxRecDepth 100000 in
theorem s_X7_takeOut (G : EnvG) (l : Launch) (Φ : Hm) (sz x ca : Nat) (a : Int32) (hx : G.2.2.2 ≤ x) (hI : In G x ca Φ)  : Ct G l yX7_takeOut wsX7_takeOut ({ frames := 1, cells := 0, slots := 0, locals := 21 }) 0 0 [.ref (x + 46), .int a] Φ sz (fun v Φ1 sz1 => (∃ m9 : Nat, m9 < 13 ∧ v = some (.ref (x + (48 + 2 * m9)))) ∧ sz1 = sz ∧ In G x (ca) Φ1 ∧ Fr x (fun j9 => j9 = 46 ∨ j9 = 47) Φ Φ1) := by
  refine Ct.of (cc := cX7_takeOut) (maxL := 4) (ret := (some (.object "FlowExporter$Message"))) (by decide) rfl (Nat.le_of_ble_eq_true rfl) ?_
  intro p9 e9 s9 m9 w9 t9 k9 B
  show Z p9 l e9 _ s9 m9 _ w9 t9 k9 _ G 4 0 [(0, .ref (x + 46)), (1, .int a)] [] Φ sz 0 0
  refine z_aload_n B dX7_takeOut_0 rfl 0 rfl ?_
  refine z_iload_n B dX7_takeOut_1 rfl 1 rfl ?_
  obtain ⟨n_1, v_1, h_1, b_1⟩ := in11 (k := 46) hI rfl
  have h_2 : Φ (x + 46) = some (o_ 9 [.ref (x + 47), .int (nI n_1), .int v_1]) := h_1
  refine z_callV (As := [.int a]) (rest := []) B (s_X7_messageAt G l Φ sz x (ca) a hx hI ) (cwV 1 B.1.2.2.2.2 gX7_takeOut_X7_messageAt rfl rfl rfl (by decide +kernel) ⟨Nat.le_of_ble_eq_true rfl, Nat.le_of_ble_eq_true rfl⟩) h_2 rfl rfl rfl rfl (Nat.le_of_ble_eq_true rfl) dX7_takeOut_2 ⟨Nat.le_of_ble_eq_true rfl, Nat.le_of_ble_eq_true rfl⟩ (fun r_1 Φ1 sz1 st1 hp1 hs1 => ?_)
  obtain ⟨⟨m_1, hm_1, rfl⟩, hq1, hI1, hF1⟩ := hp1
  subst sz1
  replace hs1 : st1 = [.ref (x + (48 + 2 * m_1))] := hs1
  subst st1
  replace hI1 : In G x (ca) Φ1 := hI1
  replace hm_1 : m_1 < 13 := hm_1
  refine z_astore_n (lv' := [(2, .ref (x + (48 + 2 * m_1))), (0, .ref (x + 46)), (1, .int a)]) B dX7_takeOut_5 rfl (Nat.le_of_ble_eq_true rfl) rfl ?_
  refine z_iload_n B dX7_takeOut_6 rfl 2 rfl ?_
  refine z_if_lt (tgt := 18) B dX7_takeOut_7 rfl (fun c_1 => ?_) (fun c_1 => ?_)
  · refine z_aload_n B dX7_takeOut_18 rfl 0 rfl ?_
    exact z_ret_a B dX7_takeOut_19 ⟨⟨m_1, by omega, rfl⟩, rfl, hI1, (fun b9 h9 => ((hF1 b9 (fun j9 h8 h7 => (show False from h7).elim)).trans rfl))⟩
  · obtain ⟨n_2, e_1, rfl⟩ := nI_of c_1
    refine z_iload_n B dX7_takeOut_10 rfl 2 rfl ?_
    refine z_aload_n B dX7_takeOut_11 rfl 1 rfl ?_
    have h_3 : Φ1 (x + 46) = some (o_ 9 [.ref (x + 47), .int (nI n_1), .int v_1]) := ((hF1 (x + 46) (fun j9 h8 h7 => (show False from h7).elim)).trans h_2)
    refine z_get (ref := "FlowExporter$Queue") (C := RX7) (T := TX7) (N := 3) (ci := 9) (v := .int (nI n_1)) B hu_X7_takeOut_X7 rfl 1 (Nat.le_of_ble_eq_true rfl) hv_X7_takeOut_17 rfl h_3 rfl dX7_takeOut_12 ?_
    refine z_icmp_lt (tgt := 20) B dX7_takeOut_15 rfl (fun c_2 => ?_) (fun c_2 => ?_)
    · have e_2 : n_2 < n_1 := (nI_ltI (a := n_2) (b := n_1) (by omega) (by omega)).mp c_2
      refine z_iload_n B dX7_takeOut_20 rfl 2 rfl ?_
      refine z_istore_n (lv' := [(3, .int (nI n_2)), (2, .ref (x + (48 + 2 * m_1))), (0, .ref (x + 46)), (1, .int (nI n_2))]) B dX7_takeOut_21 rfl (Nat.le_of_ble_eq_true rfl) rfl ?_
      refine z_lv [0, 1, 2, 3] rfl ?_
      refine z_loop (α := Nat) (fun (a9 : Nat) Φi => In G x (ca) Φi ∧ Fr x (fun j9 => j9 = 47) Φ1 Φi ∧ (a9 ≤ 12) ∧ True) (fun a9 => [(3, .int (nI a9)), (2, .ref (x + (48 + 2 * m_1))), (0, .ref (x + 46)), (1, .int (nI n_2))]) (fun a9 => 12 - a9) ?_ (n_2) ⟨hI1, fun _ _ => rfl, (show n_2 ≤ 12 by omega), trivial⟩
      rintro i_1 Φl1 ⟨hI2, hF2, b_2, -⟩ ih1
      replace hI2 : In G x (ca) Φl1 := hI2
      replace b_2 : i_1 ≤ 12 := b_2
      show Z p9 l e9 _ s9 m9 _ w9 t9 k9 _ G 4 22 [(3, .int (nI i_1)), (2, .ref (x + (48 + 2 * m_1))), (0, .ref (x + 46)), (1, .int (nI n_2))] [] Φl1 _ _ _
      refine z_iload_n B dX7_takeOut_22 rfl 0 rfl ?_
      refine z_aload_n B dX7_takeOut_23 rfl 2 rfl ?_
      have h_4 : Φl1 (x + 46) = some (o_ 9 [.ref (x + 47), .int (nI n_1), .int v_1]) := ((hF2 (x + 46) fq_99).trans h_3)
      refine z_get (ref := "FlowExporter$Queue") (C := RX7) (T := TX7) (N := 3) (ci := 9) (v := .int (nI n_1)) B hu_X7_takeOut_X7 rfl 1 (Nat.le_of_ble_eq_true rfl) hv_X7_takeOut_17 rfl h_4 rfl dX7_takeOut_24 ?_
      refine z_iconst (v := 1) B dX7_takeOut_27 rfl ?_
      refine z_isub B dX7_takeOut_28 ?_
      refine z_top (st1 := [.int (nI (n_1 - 1)), .int (nI i_1)]) (congrArg (fun w9 : Int32 => ([.int w9, .int (nI i_1)] : List Value)) (nI_sub (show 1 ≤ n_1 by omega))) ?_
      refine z_icmp_ge (tgt := 52) B dX7_takeOut_29 rfl (fun c_3 => ?_) (fun c_3 => ?_)
      · have e_3 : n_1 - 1 ≤ i_1 := (nI_leI (a := n_1 - 1) (b := i_1) (by omega) (by omega)).mp c_3
        refine z_aload_n B dX7_takeOut_52 rfl 2 rfl ?_
        refine z_dup B dX7_takeOut_53 rfl ?_
        refine z_get (ref := "FlowExporter$Queue") (C := RX7) (T := TX7) (N := 3) (ci := 9) (v := .int (nI n_1)) B hu_X7_takeOut_X7 rfl 1 (Nat.le_of_ble_eq_true rfl) hv_X7_takeOut_17 rfl h_4 rfl dX7_takeOut_54 ?_
        refine z_iconst (v := 1) B dX7_takeOut_57 rfl ?_
        refine z_isub B dX7_takeOut_58 ?_
        refine z_top (st1 := [.int (nI (n_1 - 1)), .ref (x + 46)]) (congrArg (fun w9 : Int32 => ([.int w9, .ref (x + 46)] : List Value)) (nI_sub (show 1 ≤ n_1 by omega))) ?_
        refine z_put (ref := "FlowExporter$Queue") (C := RX7) (T := TX7) (N := 3) (ci := 9) (v := .int (nI (n_1 - 1))) B hu_X7_takeOut_X7 tyX7 tyX7_ok nmX7 rfl 1 (Nat.le_of_ble_eq_true rfl) hv_X7_takeOut_17 rfl (Or.inl rfl) h_4 (Nat.le_trans hx (Nat.le_add_right x 46)) rfl rfl (Nat.le_of_ble_eq_true rfl) dX7_takeOut_59 (fun Φ2 hΦ1 => ?_)
        have h_5 : Φ2 (x + 46) = some (o_ 9 [.ref (x + 47), .int (nI (n_1 - 1)), .int v_1]) := fset_at hΦ1
        have hI3 : In G x (ca) Φ2 := In.put (k := 46) hI2 hΦ1 (ok11 (k := 46) rfl ⟨n_1 - 1, v_1, rfl, (show n_1 - 1 ≤ 12 by omega)⟩)
        refine z_aload_n B dX7_takeOut_62 rfl 2 rfl ?_
        refine z_get (ref := "FlowExporter$Queue") (C := RX7) (T := TX7) (N := 3) (ci := 9) (v := .ref (x + 47)) B hu_X7_takeOut_X7 rfl 0 (Nat.le_of_ble_eq_true rfl) hv_X7_takeOut_11 rfl h_5 rfl dX7_takeOut_63 ?_
        refine z_aload_n B dX7_takeOut_66 rfl 2 rfl ?_
        refine z_get (ref := "FlowExporter$Queue") (C := RX7) (T := TX7) (N := 3) (ci := 9) (v := .int (nI (n_1 - 1))) B hu_X7_takeOut_X7 rfl 1 (Nat.le_of_ble_eq_true rfl) hv_X7_takeOut_17 rfl h_5 rfl dX7_takeOut_67 ?_
        refine z_aload_n B dX7_takeOut_70 rfl 1 rfl ?_
        obtain ⟨f_1, h_6, r_2⟩ := in12 (k := 47) hI3 rfl
        have h_7 : Φ2 (x + 47) = some (aq_ G 6 13 f_1) := h_6
        obtain ⟨n_3, h_8, b_3⟩ := in1 (k := 48 + 2 * m_1) hI3 (kd_q hm_1)
        replace b_3 : n_3 ≤ cap (48 + 2 * m_1) := b_3
        have b_4 := cap_le (48 + 2 * m_1)
        have h_9 : Φ2 (x + (48 + 2 * m_1)) = some (o_ 7 [.ref (x + (48 + 2 * m_1 + 1)), .int (nI n_3)]) := h_8
        refine z_aast B rfl h_7 (Nat.le_trans hx (Nat.le_add_right x 47)) h_9 rfl (vp_in_nI (by omega) (by omega)) dX7_takeOut_71 (fun Φ3 hΦ2 => ?_)
        have h_10 : Φ3 (x + 47) = some (aq_ G 6 13 (va_up f_1 (nI (n_1 - 1)).toNatClampNeg (some (x + (48 + 2 * m_1))))) := fset_at hΦ2
        have hI4 : In G x (ca) Φ3 := In.put (k := 47) hI3 hΦ2 (ok12 (k := 47) rfl ⟨_, rfl, row_up r_2 ⟨m_1, (show m_1 < 13 by omega), rfl⟩⟩)
        refine z_aload_n B dX7_takeOut_72 rfl 1 rfl ?_
        exact z_ret_a B dX7_takeOut_73 ⟨⟨m_1, by omega, rfl⟩, rfl, hI4, (fun b9 h9 => ((fset_fr hΦ2 (fun h8 => h9 (47) h8 (show 47 = 46 ∨ 47 = 47 by decide))).trans ((fset_fr hΦ1 (fun h8 => h9 (46) h8 (show 46 = 46 ∨ 46 = 47 by decide))).trans ((hF2 b9 (fun j9 h8 h7 => h9 j9 h8 (fq_101 j9 h7))).trans ((hF1 b9 (fun j9 h8 h7 => (show False from h7).elim)).trans rfl)))))⟩
      · have e_4 : ¬ (n_1 - 1 ≤ i_1) := fun h9 => c_3 ((nI_leI (a := n_1 - 1) (b := i_1) (by omega) (by omega)).mpr h9)
        refine z_aload_n B dX7_takeOut_32 rfl 2 rfl ?_
        refine z_get (ref := "FlowExporter$Queue") (C := RX7) (T := TX7) (N := 3) (ci := 9) (v := .ref (x + 47)) B hu_X7_takeOut_X7 rfl 0 (Nat.le_of_ble_eq_true rfl) hv_X7_takeOut_11 rfl h_4 rfl dX7_takeOut_33 ?_
        refine z_iload_n B dX7_takeOut_36 rfl 0 rfl ?_
        refine z_aload_n B dX7_takeOut_37 rfl 2 rfl ?_
        refine z_get (ref := "FlowExporter$Queue") (C := RX7) (T := TX7) (N := 3) (ci := 9) (v := .ref (x + 47)) B hu_X7_takeOut_X7 rfl 0 (Nat.le_of_ble_eq_true rfl) hv_X7_takeOut_11 rfl h_4 rfl dX7_takeOut_38 ?_
        refine z_iload_n B dX7_takeOut_41 rfl 0 rfl ?_
        refine z_iconst (v := 1) B dX7_takeOut_42 rfl ?_
        refine z_iadd B dX7_takeOut_43 ?_
        refine z_top (st1 := [.int (nI (i_1 + 1)), .ref (x + 47), .int (nI i_1), .ref (x + 47)]) (congrArg (fun w9 : Int32 => ([.int w9, .ref (x + 47), .int (nI i_1), .ref (x + 47)] : List Value)) (nI_add i_1 1)) ?_
        obtain ⟨f_2, h_11, r_3⟩ := in12 (k := 47) hI2 rfl
        have h_12 : Φl1 (x + 47) = some (aq_ G 6 13 f_2) := h_11
        obtain ⟨m_2, hm_2, hf_1⟩ := r_3 (i_1 + 1) (by omega)
        refine z_aald (b := x + (48 + 2 * m_2)) B rfl h_12 (vp_in_nI (by omega) (by omega)) ((congrArg f_2 (nI_clamp (by omega))).trans hf_1) dX7_takeOut_44 ?_
        obtain ⟨n_4, h_13, b_5⟩ := in1 (k := 48 + 2 * m_2) hI2 (kd_q hm_2)
        replace b_5 : n_4 ≤ cap (48 + 2 * m_2) := b_5
        have b_6 := cap_le (48 + 2 * m_2)
        have h_14 : Φl1 (x + (48 + 2 * m_2)) = some (o_ 7 [.ref (x + (48 + 2 * m_2 + 1)), .int (nI n_4)]) := h_13
        refine z_aast B rfl h_12 (Nat.le_trans hx (Nat.le_add_right x 47)) h_14 rfl (vp_in_nI (by omega) (by omega)) dX7_takeOut_45 (fun Φ4 hΦ3 => ?_)
        have h_15 : Φ4 (x + 47) = some (aq_ G 6 13 (va_up f_2 (nI i_1).toNatClampNeg (some (x + (48 + 2 * m_2))))) := fset_at hΦ3
        have hI5 : In G x (ca) Φ4 := In.put (k := 47) hI2 hΦ3 (ok12 (k := 47) rfl ⟨_, rfl, row_up r_3 ⟨m_2, (show m_2 < 13 by omega), rfl⟩⟩)
        refine z_iinc (k := 0) (v := nI (i_1 + 1)) (lv' := [(3, .int (nI (i_1 + 1))), (2, .ref (x + (48 + 2 * m_1))), (0, .ref (x + 46)), (1, .int (nI n_2))]) B dX7_takeOut_46 rfl (nI_add i_1 1) (Nat.le_of_ble_eq_true rfl) rfl ?_
        refine z_goto (tgt := 22) B dX7_takeOut_49 rfl ?_
        refine z_lv [0, 1, 2, 3] rfl ?_
        exact ih1 (i_1 + 1) Φ4 (show 12 - (i_1 + 1) < 12 - i_1 by omega) ⟨hI5, (fun b9 h9 => ((fset_fr hΦ3 (fun h8 => h9 (47) h8 (show 47 = 47 by decide))).trans ((hF2 b9 h9).trans rfl))), (show (i_1 + 1) ≤ 12 by omega), trivial⟩
    · have e_5 : ¬ (n_2 < n_1) := fun h9 => c_2 ((nI_ltI (a := n_2) (b := n_1) (by omega) (by omega)).mpr h9)
      refine z_aload_n B dX7_takeOut_18 rfl 0 rfl ?_
      exact z_ret_a B dX7_takeOut_19 ⟨⟨m_1, by omega, rfl⟩, rfl, hI1, (fun b9 h9 => ((hF1 b9 (fun j9 h8 h7 => (show False from h7).elim)).trans rfl))⟩

theorem hu_X7_swap_X7 : ∀ w ∈ u_ws RX7 TX7 3, w ∈ wsX7_swap := fun _ h => List.mem_cons_of_mem _ (List.mem_append_right _ (h))

theorem hv_X7_swap_17 : Cond.fieldLink RX7 17 "FlowExporter$Queue" (TX7 1).2.1 (TX7 1).2.2.1 ∈ wsX7_swap := List.mem_cons_of_mem _ (List.mem_append_left _ (List.mem_of_getElem? (i := 0) rfl))

theorem hv_X7_swap_11 : Cond.fieldLink RX7 11 "FlowExporter$Queue" (TX7 0).2.1 (TX7 0).2.2.1 ∈ wsX7_swap := List.mem_cons_of_mem _ (List.mem_append_left _ (List.mem_of_getElem? (i := 1) rfl))

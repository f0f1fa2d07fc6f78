theorem dX3_partOf_0 : decode cX3_partOf 0 = .ok (.iload_n 2, 1) := by decide +kernel
theorem dX3_partOf_1 : decode cX3_partOf 1 = .ok (.ifCond .lt 19, 3) := by decide +kernel
theorem dX3_partOf_4 : decode cX3_partOf 4 = .ok (.iload_n 2, 1) := by decide +kernel
theorem dX3_partOf_5 : decode cX3_partOf 5 = .ok (.getstatic 31, 3) := by decide +kernel
theorem dX3_partOf_8 : decode cX3_partOf 8 = .ok (.arraylength, 1) := by decide +kernel
theorem dX3_partOf_9 : decode cX3_partOf 9 = .ok (.if_icmp .ge 11, 3) := by decide +kernel
theorem dX3_partOf_12 : decode cX3_partOf 12 = .ok (.iload_n 2, 1) := by decide +kernel
theorem dX3_partOf_13 : decode cX3_partOf 13 = .ok (.getstatic 35, 3) := by decide +kernel
theorem dX3_partOf_16 : decode cX3_partOf 16 = .ok (.arraylength, 1) := by decide +kernel
theorem dX3_partOf_17 : decode cX3_partOf 17 = .ok (.if_icmp .lt 5, 3) := by decide +kernel
theorem dX3_partOf_20 : decode cX3_partOf 20 = .ok (.iconst 0, 1) := by decide +kernel
theorem dX3_partOf_21 : decode cX3_partOf 21 = .ok (.ireturn, 1) := by decide +kernel
theorem dX3_partOf_22 : decode cX3_partOf 22 = .ok (.lload_n 0, 1) := by decide +kernel
theorem dX3_partOf_23 : decode cX3_partOf 23 = .ok (.getstatic 31, 3) := by decide +kernel
theorem dX3_partOf_26 : decode cX3_partOf 26 = .ok (.iload_n 2, 1) := by decide +kernel
theorem dX3_partOf_27 : decode cX3_partOf 27 = .ok (.iaload, 1) := by decide +kernel
theorem dX3_partOf_28 : decode cX3_partOf 28 = .ok (.lshr, 1) := by decide +kernel
theorem dX3_partOf_29 : decode cX3_partOf 29 = .ok (.l2i, 1) := by decide +kernel
theorem dX3_partOf_30 : decode cX3_partOf 30 = .ok (.getstatic 35, 3) := by decide +kernel
theorem dX3_partOf_33 : decode cX3_partOf 33 = .ok (.iload_n 2, 1) := by decide +kernel
theorem dX3_partOf_34 : decode cX3_partOf 34 = .ok (.iaload, 1) := by decide +kernel
theorem dX3_partOf_35 : decode cX3_partOf 35 = .ok (.iand, 1) := by decide +kernel
theorem dX3_partOf_36 : decode cX3_partOf 36 = .ok (.ireturn, 1) := by decide +kernel
theorem dX3_begin_0 : decode cX3_begin 0 = .ok (.aload_n 0, 1) := by decide +kernel
theorem dX3_begin_1 : decode cX3_begin 1 = .ok (.lload_n 1, 1) := by decide +kernel
theorem dX3_begin_2 : decode cX3_begin 2 = .ok (.putfield 9, 3) := by decide +kernel
theorem dX3_begin_5 : decode cX3_begin 5 = .ok (.aload_n 0, 1) := by decide +kernel
theorem dX3_begin_6 : decode cX3_begin 6 = .ok (.lconst 0, 1) := by decide +kernel
theorem dX3_begin_7 : decode cX3_begin 7 = .ok (.putfield 15, 3) := by decide +kernel
theorem dX3_begin_10 : decode cX3_begin 10 = .ok (.aload_n 0, 1) := by decide +kernel
theorem dX3_begin_11 : decode cX3_begin 11 = .ok (.lconst 0, 1) := by decide +kernel
theorem dX3_begin_12 : decode cX3_begin 12 = .ok (.putfield 18, 3) := by decide +kernel
theorem dX3_begin_15 : decode cX3_begin 15 = .ok (.aload_n 0, 1) := by decide +kernel
theorem dX3_begin_16 : decode cX3_begin 16 = .ok (.iload_n 3, 1) := by decide +kernel
theorem dX3_begin_17 : decode cX3_begin 17 = .ok (.putfield 21, 3) := by decide +kernel
theorem dX3_begin_20 : decode cX3_begin 20 = .ok (.aload_n 0, 1) := by decide +kernel
theorem dX3_begin_21 : decode cX3_begin 21 = .ok (.iload_n 3, 1) := by decide +kernel
theorem dX3_begin_22 : decode cX3_begin 22 = .ok (.putfield 25, 3) := by decide +kernel
theorem dX3_begin_25 : decode cX3_begin 25 = .ok (.return_, 1) := by decide +kernel
theorem dX4_isFull_0 : decode cX4_isFull 0 = .ok (.aload_n 0, 1) := by decide +kernel
theorem dX4_isFull_1 : decode cX4_isFull 1 = .ok (.getfield 9, 3) := by decide +kernel
theorem dX4_isFull_4 : decode cX4_isFull 4 = .ok (.aload_n 0, 1) := by decide +kernel
theorem dX4_isFull_5 : decode cX4_isFull 5 = .ok (.getfield 23, 3) := by decide +kernel
theorem dX4_isFull_8 : decode cX4_isFull 8 = .ok (.arraylength, 1) := by decide +kernel
theorem dX4_isFull_9 : decode cX4_isFull 9 = .ok (.if_icmp .lt 7, 3) := by decide +kernel
theorem dX4_isFull_12 : decode cX4_isFull 12 = .ok (.iconst 1, 1) := by decide +kernel
theorem dX4_isFull_13 : decode cX4_isFull 13 = .ok (.goto 4, 3) := by decide +kernel
theorem dX4_isFull_16 : decode cX4_isFull 16 = .ok (.iconst 0, 1) := by decide +kernel
theorem dX4_isFull_17 : decode cX4_isFull 17 = .ok (.ireturn, 1) := by decide +kernel
theorem dX4_flowAt_0 : decode cX4_flowAt 0 = .ok (.aload_n 0, 1) := by decide +kernel
theorem dX4_flowAt_1 : decode cX4_flowAt 1 = .ok (.getfield 23, 3) := by decide +kernel
theorem dX4_flowAt_4 : decode cX4_flowAt 4 = .ok (.iload_n 1, 1) := by decide +kernel
theorem dX4_flowAt_5 : decode cX4_flowAt 5 = .ok (.ifCond .lt 16, 3) := by decide +kernel
theorem dX4_flowAt_8 : decode cX4_flowAt 8 = .ok (.iload_n 1, 1) := by decide +kernel
theorem dX4_flowAt_9 : decode cX4_flowAt 9 = .ok (.aload_n 0, 1) := by decide +kernel
theorem dX4_flowAt_10 : decode cX4_flowAt 10 = .ok (.getfield 23, 3) := by decide +kernel
theorem dX4_flowAt_13 : decode cX4_flowAt 13 = .ok (.arraylength, 1) := by decide +kernel
theorem dX4_flowAt_14 : decode cX4_flowAt 14 = .ok (.if_icmp .ge 7, 3) := by decide +kernel
theorem dX4_flowAt_17 : decode cX4_flowAt 17 = .ok (.iload_n 1, 1) := by decide +kernel
theorem dX4_flowAt_18 : decode cX4_flowAt 18 = .ok (.goto 4, 3) := by decide +kernel
theorem dX4_flowAt_21 : decode cX4_flowAt 21 = .ok (.iconst 0, 1) := by decide +kernel
theorem dX4_flowAt_22 : decode cX4_flowAt 22 = .ok (.aaload, 1) := by decide +kernel
theorem dX4_flowAt_23 : decode cX4_flowAt 23 = .ok (.areturn, 1) := by decide +kernel
theorem dX4_indexOf_0 : decode cX4_indexOf 0 = .ok (.iconst 0, 1) := by decide +kernel
theorem dX4_indexOf_1 : decode cX4_indexOf 1 = .ok (.istore_n 3, 1) := by decide +kernel
theorem dX4_indexOf_2 : decode cX4_indexOf 2 = .ok (.iload_n 3, 1) := by decide +kernel
theorem dX4_indexOf_3 : decode cX4_indexOf 3 = .ok (.aload_n 0, 1) := by decide +kernel
theorem dX4_indexOf_4 : decode cX4_indexOf 4 = .ok (.getfield 9, 3) := by decide +kernel
theorem dX4_indexOf_7 : decode cX4_indexOf 7 = .ok (.if_icmp .ge 25, 3) := by decide +kernel
theorem dX4_indexOf_10 : decode cX4_indexOf 10 = .ok (.aload_n 0, 1) := by decide +kernel
theorem dX4_indexOf_11 : decode cX4_indexOf 11 = .ok (.getfield 23, 3) := by decide +kernel
theorem dX4_indexOf_14 : decode cX4_indexOf 14 = .ok (.iload_n 3, 1) := by decide +kernel
theorem dX4_indexOf_15 : decode cX4_indexOf 15 = .ok (.aaload, 1) := by decide +kernel
theorem dX4_indexOf_16 : decode cX4_indexOf 16 = .ok (.getfield 28, 3) := by decide +kernel
theorem dX4_indexOf_19 : decode cX4_indexOf 19 = .ok (.lload_n 1, 1) := by decide +kernel
theorem dX4_indexOf_20 : decode cX4_indexOf 20 = .ok (.lcmp, 1) := by decide +kernel
theorem dX4_indexOf_21 : decode cX4_indexOf 21 = .ok (.ifCond .ne 5, 3) := by decide +kernel
theorem dX4_indexOf_24 : decode cX4_indexOf 24 = .ok (.iload_n 3, 1) := by decide +kernel
theorem dX4_indexOf_25 : decode cX4_indexOf 25 = .ok (.ireturn, 1) := by decide +kernel
theorem dX4_indexOf_26 : decode cX4_indexOf 26 = .ok (.iinc 3 1, 3) := by decide +kernel
theorem dX4_indexOf_29 : decode cX4_indexOf 29 = .ok (.goto (-27), 3) := by decide +kernel
theorem dX4_indexOf_32 : decode cX4_indexOf 32 = .ok (.iconst (-1), 1) := by decide +kernel
theorem dX4_indexOf_33 : decode cX4_indexOf 33 = .ok (.ireturn, 1) := by decide +kernel
set_option maxRecDepth 20000 in
theorem ggX4_addFlow_X4_flowAt : GoodIn wsX4_addFlow wsX4_flowAt := goodIn_r _ [11, 2, 22, 23] rfl (by decide +kernel)
set_option maxRecDepth 20000 in
theorem gX4_addFlow_X4_flowAt : GoodIn wsX4_addFlow (wsV RX4 32 RX4 yX4_flowAt wsX4_flowAt) := goodIn_app (goodIn_of _ (by decide +kernel)) ggX4_addFlow_X4_flowAt
set_option maxRecDepth 20000 in
theorem ggX4_addFlow_X3_begin : GoodIn wsX4_addFlow wsX3_begin := goodIn_r _ [16, 17, 18, 19, 20, 21, 24, 25, 26, 27, 28] rfl (by decide +kernel)
set_option maxRecDepth 20000 in
theorem gX4_addFlow_X3_begin : GoodIn wsX4_addFlow (wsV RX4 36 RX3 yX3_begin wsX3_begin) := goodIn_app (goodIn_of _ (by decide +kernel)) ggX4_addFlow_X3_begin
theorem dX4_addFlow_0 : decode cX4_addFlow 0 = .ok (.aload_n 0, 1) := by decide +kernel
theorem dX4_addFlow_1 : decode cX4_addFlow 1 = .ok (.aload_n 0, 1) := by decide +kernel
theorem dX4_addFlow_2 : decode cX4_addFlow 2 = .ok (.getfield 9, 3) := by decide +kernel
theorem dX4_addFlow_5 : decode cX4_addFlow 5 = .ok (.invokevirtual 32, 3) := by decide +kernel
theorem dX4_addFlow_8 : decode cX4_addFlow 8 = .ok (.astore 4, 2) := by decide +kernel
theorem dX4_addFlow_10 : decode cX4_addFlow 10 = .ok (.aload 4, 2) := by decide +kernel
theorem dX4_addFlow_12 : decode cX4_addFlow 12 = .ok (.lload_n 1, 1) := by decide +kernel
theorem dX4_addFlow_13 : decode cX4_addFlow 13 = .ok (.iload_n 3, 1) := by decide +kernel
theorem dX4_addFlow_14 : decode cX4_addFlow 14 = .ok (.invokevirtual 36, 3) := by decide +kernel
theorem dX4_addFlow_17 : decode cX4_addFlow 17 = .ok (.aload_n 0, 1) := by decide +kernel
theorem dX4_addFlow_18 : decode cX4_addFlow 18 = .ok (.aload_n 0, 1) := by decide +kernel
theorem dX4_addFlow_19 : decode cX4_addFlow 19 = .ok (.getfield 9, 3) := by decide +kernel
theorem dX4_addFlow_22 : decode cX4_addFlow 22 = .ok (.iconst 1, 1) := by decide +kernel
theorem dX4_addFlow_23 : decode cX4_addFlow 23 = .ok (.iadd, 1) := by decide +kernel
theorem dX4_addFlow_24 : decode cX4_addFlow 24 = .ok (.aload_n 0, 1) := by decide +kernel
theorem dX4_addFlow_25 : decode cX4_addFlow 25 = .ok (.getfield 23, 3) := by decide +kernel
theorem dX4_addFlow_28 : decode cX4_addFlow 28 = .ok (.arraylength, 1) := by decide +kernel
theorem dX4_addFlow_29 : decode cX4_addFlow 29 = .ok (.invokestatic 40, 3) := by decide +kernel
theorem dX4_addFlow_32 : decode cX4_addFlow 32 = .ok (.putfield 9, 3) := by decide +kernel
theorem dX4_addFlow_35 : decode cX4_addFlow 35 = .ok (.aload 4, 2) := by decide +kernel
theorem dX4_addFlow_37 : decode cX4_addFlow 37 = .ok (.areturn, 1) := by decide +kernel
set_option maxRecDepth 20000 in
theorem ggX4_removeAt_X4_flowAt : GoodIn wsX4_removeAt wsX4_flowAt := goodIn_r _ [7, 2, 8, 9] rfl (by decide +kernel)
set_option maxRecDepth 20000 in
theorem gX4_removeAt_X4_flowAt : GoodIn wsX4_removeAt (wsV RX4 32 RX4 yX4_flowAt wsX4_flowAt) := goodIn_app (goodIn_of _ (by decide +kernel)) ggX4_removeAt_X4_flowAt
theorem dX4_removeAt_0 : decode cX4_removeAt 0 = .ok (.aload_n 0, 1) := by decide +kernel
theorem dX4_removeAt_1 : decode cX4_removeAt 1 = .ok (.iload_n 1, 1) := by decide +kernel
theorem dX4_removeAt_2 : decode cX4_removeAt 2 = .ok (.invokevirtual 32, 3) := by decide +kernel
theorem dX4_removeAt_5 : decode cX4_removeAt 5 = .ok (.astore_n 2, 1) := by decide +kernel
theorem dX4_removeAt_6 : decode cX4_removeAt 6 = .ok (.iload_n 1, 1) := by decide +kernel
theorem dX4_removeAt_7 : decode cX4_removeAt 7 = .ok (.ifCond .lt 11, 3) := by decide +kernel
theorem dX4_removeAt_10 : decode cX4_removeAt 10 = .ok (.iload_n 1, 1) := by decide +kernel
theorem dX4_removeAt_11 : decode cX4_removeAt 11 = .ok (.aload_n 0, 1) := by decide +kernel
theorem dX4_removeAt_12 : decode cX4_removeAt 12 = .ok (.getfield 9, 3) := by decide +kernel
theorem dX4_removeAt_15 : decode cX4_removeAt 15 = .ok (.if_icmp .lt 5, 3) := by decide +kernel
theorem dX4_removeAt_18 : decode cX4_removeAt 18 = .ok (.aload_n 2, 1) := by decide +kernel
theorem dX4_removeAt_19 : decode cX4_removeAt 19 = .ok (.areturn, 1) := by decide +kernel
theorem dX4_removeAt_20 : decode cX4_removeAt 20 = .ok (.iload_n 1, 1) := by decide +kernel
theorem dX4_removeAt_21 : decode cX4_removeAt 21 = .ok (.istore_n 3, 1) := by decide +kernel
theorem dX4_removeAt_22 : decode cX4_removeAt 22 = .ok (.iload_n 3, 1) := by decide +kernel
theorem dX4_removeAt_23 : decode cX4_removeAt 23 = .ok (.aload_n 0, 1) := by decide +kernel
theorem dX4_removeAt_24 : decode cX4_removeAt 24 = .ok (.getfield 9, 3) := by decide +kernel
theorem dX4_removeAt_27 : decode cX4_removeAt 27 = .ok (.iconst 1, 1) := by decide +kernel
theorem dX4_removeAt_28 : decode cX4_removeAt 28 = .ok (.isub, 1) := by decide +kernel
theorem dX4_removeAt_29 : decode cX4_removeAt 29 = .ok (.if_icmp .ge 23, 3) := by decide +kernel
theorem dX4_removeAt_32 : decode cX4_removeAt 32 = .ok (.aload_n 0, 1) := by decide +kernel
theorem dX4_removeAt_33 : decode cX4_removeAt 33 = .ok (.getfield 23, 3) := by decide +kernel
theorem dX4_removeAt_36 : decode cX4_removeAt 36 = .ok (.iload_n 3, 1) := by decide +kernel
theorem dX4_removeAt_37 : decode cX4_removeAt 37 = .ok (.aload_n 0, 1) := by decide +kernel
theorem dX4_removeAt_38 : decode cX4_removeAt 38 = .ok (.getfield 23, 3) := by decide +kernel
theorem dX4_removeAt_41 : decode cX4_removeAt 41 = .ok (.iload_n 3, 1) := by decide +kernel
theorem dX4_removeAt_42 : decode cX4_removeAt 42 = .ok (.iconst 1, 1) := by decide +kernel
theorem dX4_removeAt_43 : decode cX4_removeAt 43 = .ok (.iadd, 1) := by decide +kernel
theorem dX4_removeAt_44 : decode cX4_removeAt 44 = .ok (.aaload, 1) := by decide +kernel
theorem dX4_removeAt_45 : decode cX4_removeAt 45 = .ok (.aastore, 1) := by decide +kernel
theorem dX4_removeAt_46 : decode cX4_removeAt 46 = .ok (.iinc 3 1, 3) := by decide +kernel
theorem dX4_removeAt_49 : decode cX4_removeAt 49 = .ok (.goto (-27), 3) := by decide +kernel
theorem dX4_removeAt_52 : decode cX4_removeAt 52 = .ok (.aload_n 0, 1) := by decide +kernel
theorem dX4_removeAt_53 : decode cX4_removeAt 53 = .ok (.dup, 1) := by decide +kernel
theorem dX4_removeAt_54 : decode cX4_removeAt 54 = .ok (.getfield 9, 3) := by decide +kernel
theorem dX4_removeAt_57 : decode cX4_removeAt 57 = .ok (.iconst 1, 1) := by decide +kernel
theorem dX4_removeAt_58 : decode cX4_removeAt 58 = .ok (.isub, 1) := by decide +kernel
theorem dX4_removeAt_59 : decode cX4_removeAt 59 = .ok (.putfield 9, 3) := by decide +kernel
theorem dX4_removeAt_62 : decode cX4_removeAt 62 = .ok (.aload_n 0, 1) := by decide +kernel
theorem dX4_removeAt_63 : decode cX4_removeAt 63 = .ok (.getfield 23, 3) := by decide +kernel
theorem dX4_removeAt_66 : decode cX4_removeAt 66 = .ok (.aload_n 0, 1) := by decide +kernel
theorem dX4_removeAt_67 : decode cX4_removeAt 67 = .ok (.getfield 9, 3) := by decide +kernel
theorem dX4_removeAt_70 : decode cX4_removeAt 70 = .ok (.aload_n 2, 1) := by decide +kernel
theorem dX4_removeAt_71 : decode cX4_removeAt 71 = .ok (.aastore, 1) := by decide +kernel
theorem dX4_removeAt_72 : decode cX4_removeAt 72 = .ok (.aload_n 2, 1) := by decide +kernel
theorem dX4_removeAt_73 : decode cX4_removeAt 73 = .ok (.areturn, 1) := by decide +kernel
theorem dX4_indexOfEarliestLast_0 : decode cX4_indexOfEarliestLast 0 = .ok (.iconst 0, 1) := by decide +kernel
theorem dX4_indexOfEarliestLast_1 : decode cX4_indexOfEarliestLast 1 = .ok (.istore_n 1, 1) := by decide +kernel
theorem dX4_indexOfEarliestLast_2 : decode cX4_indexOfEarliestLast 2 = .ok (.iconst 1, 1) := by decide +kernel
theorem dX4_indexOfEarliestLast_3 : decode cX4_indexOfEarliestLast 3 = .ok (.istore_n 2, 1) := by decide +kernel
theorem dX4_indexOfEarliestLast_4 : decode cX4_indexOfEarliestLast 4 = .ok (.iload_n 2, 1) := by decide +kernel
theorem dX4_indexOfEarliestLast_5 : decode cX4_indexOfEarliestLast 5 = .ok (.aload_n 0, 1) := by decide +kernel
theorem dX4_indexOfEarliestLast_6 : decode cX4_indexOfEarliestLast 6 = .ok (.getfield 9, 3) := by decide +kernel
theorem dX4_indexOfEarliestLast_9 : decode cX4_indexOfEarliestLast 9 = .ok (.if_icmp .ge 32, 3) := by decide +kernel
theorem dX4_indexOfEarliestLast_12 : decode cX4_indexOfEarliestLast 12 = .ok (.aload_n 0, 1) := by decide +kernel
theorem dX4_indexOfEarliestLast_13 : decode cX4_indexOfEarliestLast 13 = .ok (.getfield 23, 3) := by decide +kernel
theorem dX4_indexOfEarliestLast_16 : decode cX4_indexOfEarliestLast 16 = .ok (.iload_n 2, 1) := by decide +kernel
theorem dX4_indexOfEarliestLast_17 : decode cX4_indexOfEarliestLast 17 = .ok (.aaload, 1) := by decide +kernel
theorem dX4_indexOfEarliestLast_18 : decode cX4_indexOfEarliestLast 18 = .ok (.getfield 43, 3) := by decide +kernel
theorem dX4_indexOfEarliestLast_21 : decode cX4_indexOfEarliestLast 21 = .ok (.aload_n 0, 1) := by decide +kernel
theorem dX4_indexOfEarliestLast_22 : decode cX4_indexOfEarliestLast 22 = .ok (.getfield 23, 3) := by decide +kernel
theorem dX4_indexOfEarliestLast_25 : decode cX4_indexOfEarliestLast 25 = .ok (.iload_n 1, 1) := by decide +kernel
theorem dX4_indexOfEarliestLast_26 : decode cX4_indexOfEarliestLast 26 = .ok (.aaload, 1) := by decide +kernel
theorem dX4_indexOfEarliestLast_27 : decode cX4_indexOfEarliestLast 27 = .ok (.getfield 43, 3) := by decide +kernel
theorem dX4_indexOfEarliestLast_30 : decode cX4_indexOfEarliestLast 30 = .ok (.if_icmp .ge 5, 3) := by decide +kernel
theorem dX4_indexOfEarliestLast_33 : decode cX4_indexOfEarliestLast 33 = .ok (.iload_n 2, 1) := by decide +kernel
theorem dX4_indexOfEarliestLast_34 : decode cX4_indexOfEarliestLast 34 = .ok (.istore_n 1, 1) := by decide +kernel
theorem dX4_indexOfEarliestLast_35 : decode cX4_indexOfEarliestLast 35 = .ok (.iinc 2 1, 3) := by decide +kernel
theorem dX4_indexOfEarliestLast_38 : decode cX4_indexOfEarliestLast 38 = .ok (.goto (-34), 3) := by decide +kernel
theorem dX4_indexOfEarliestLast_41 : decode cX4_indexOfEarliestLast 41 = .ok (.iload_n 1, 1) := by decide +kernel
theorem dX4_indexOfEarliestLast_42 : decode cX4_indexOfEarliestLast 42 = .ok (.ireturn, 1) := by decide +kernel
theorem dX5_put_0 : decode cX5_put 0 = .ok (.iload_n 3, 1) := by decide +kernel
theorem dX5_put_1 : decode cX5_put 1 = .ok (.iconst 1, 1) := by decide +kernel
theorem dX5_put_2 : decode cX5_put 2 = .ok (.isub, 1) := by decide +kernel
theorem dX5_put_3 : decode cX5_put 3 = .ok (.istore 4, 2) := by decide +kernel
theorem dX5_put_5 : decode cX5_put 5 = .ok (.iload 4, 2) := by decide +kernel
theorem dX5_put_7 : decode cX5_put 7 = .ok (.ifCond .lt 49, 3) := by decide +kernel
theorem dX5_put_10 : decode cX5_put 10 = .ok (.aload_n 0, 1) := by decide +kernel
theorem dX5_put_11 : decode cX5_put 11 = .ok (.getfield 9, 3) := by decide +kernel
theorem dX5_put_14 : decode cX5_put 14 = .ok (.aload_n 0, 1) := by decide +kernel
theorem dX5_put_15 : decode cX5_put 15 = .ok (.getfield 21, 3) := by decide +kernel
theorem dX5_put_18 : decode cX5_put 18 = .ok (.arraylength, 1) := by decide +kernel
theorem dX5_put_19 : decode cX5_put 19 = .ok (.if_icmp .ge 31, 3) := by decide +kernel
theorem dX5_put_22 : decode cX5_put 22 = .ok (.aload_n 0, 1) := by decide +kernel
theorem dX5_put_23 : decode cX5_put 23 = .ok (.getfield 21, 3) := by decide +kernel
theorem dX5_put_26 : decode cX5_put 26 = .ok (.aload_n 0, 1) := by decide +kernel
theorem dX5_put_27 : decode cX5_put 27 = .ok (.getfield 9, 3) := by decide +kernel
theorem dX5_put_30 : decode cX5_put 30 = .ok (.lload_n 1, 1) := by decide +kernel
theorem dX5_put_31 : decode cX5_put 31 = .ok (.bipush 8, 2) := by decide +kernel
theorem dX5_put_33 : decode cX5_put 33 = .ok (.iload 4, 2) := by decide +kernel
theorem dX5_put_35 : decode cX5_put 35 = .ok (.imul, 1) := by decide +kernel
theorem dX5_put_36 : decode cX5_put 36 = .ok (.lshr, 1) := by decide +kernel
theorem dX5_put_37 : decode cX5_put 37 = .ok (.l2i, 1) := by decide +kernel
theorem dX5_put_38 : decode cX5_put 38 = .ok (.i2b, 1) := by decide +kernel
theorem dX5_put_39 : decode cX5_put 39 = .ok (.bastore, 1) := by decide +kernel
theorem dX5_put_40 : decode cX5_put 40 = .ok (.aload_n 0, 1) := by decide +kernel
theorem dX5_put_41 : decode cX5_put 41 = .ok (.dup, 1) := by decide +kernel
theorem dX5_put_42 : decode cX5_put 42 = .ok (.getfield 9, 3) := by decide +kernel
theorem dX5_put_45 : decode cX5_put 45 = .ok (.iconst 1, 1) := by decide +kernel
theorem dX5_put_46 : decode cX5_put 46 = .ok (.iadd, 1) := by decide +kernel
theorem dX5_put_47 : decode cX5_put 47 = .ok (.putfield 9, 3) := by decide +kernel
theorem dX5_put_50 : decode cX5_put 50 = .ok (.iinc 4 (-1), 3) := by decide +kernel
theorem dX5_put_53 : decode cX5_put 53 = .ok (.goto (-48), 3) := by decide +kernel
theorem dX5_put_56 : decode cX5_put 56 = .ok (.return_, 1) := by decide +kernel
theorem dX5_putFrom_0 : decode cX5_putFrom 0 = .ok (.iload_n 3, 1) := by decide +kernel
theorem dX5_putFrom_1 : decode cX5_putFrom 1 = .ok (.aload_n 0, 1) := by decide +kernel
theorem dX5_putFrom_2 : decode cX5_putFrom 2 = .ok (.getfield 21, 3) := by decide +kernel
theorem dX5_putFrom_5 : decode cX5_putFrom 5 = .ok (.arraylength, 1) := by decide +kernel
theorem dX5_putFrom_6 : decode cX5_putFrom 6 = .ok (.aload_n 0, 1) := by decide +kernel
theorem dX5_putFrom_7 : decode cX5_putFrom 7 = .ok (.getfield 9, 3) := by decide +kernel
theorem dX5_putFrom_10 : decode cX5_putFrom 10 = .ok (.isub, 1) := by decide +kernel
theorem dX5_putFrom_11 : decode cX5_putFrom 11 = .ok (.invokestatic 25, 3) := by decide +kernel
theorem dX5_putFrom_14 : decode cX5_putFrom 14 = .ok (.istore 4, 2) := by decide +kernel
theorem dX5_putFrom_16 : decode cX5_putFrom 16 = .ok (.iload 4, 2) := by decide +kernel
theorem dX5_putFrom_18 : decode cX5_putFrom 18 = .ok (.ifCond .le 47, 3) := by decide +kernel
theorem dX5_putFrom_21 : decode cX5_putFrom 21 = .ok (.iload_n 2, 1) := by decide +kernel
theorem dX5_putFrom_22 : decode cX5_putFrom 22 = .ok (.ifCond .lt 43, 3) := by decide +kernel
theorem dX5_putFrom_25 : decode cX5_putFrom 25 = .ok (.iload 4, 2) := by decide +kernel
theorem dX5_putFrom_27 : decode cX5_putFrom 27 = .ok (.aload_n 1, 1) := by decide +kernel
theorem dX5_putFrom_28 : decode cX5_putFrom 28 = .ok (.getfield 9, 3) := by decide +kernel
theorem dX5_putFrom_31 : decode cX5_putFrom 31 = .ok (.iload_n 2, 1) := by decide +kernel
theorem dX5_putFrom_32 : decode cX5_putFrom 32 = .ok (.isub, 1) := by decide +kernel
theorem dX5_putFrom_33 : decode cX5_putFrom 33 = .ok (.if_icmp .gt 32, 3) := by decide +kernel
theorem dX5_putFrom_36 : decode cX5_putFrom 36 = .ok (.aload_n 1, 1) := by decide +kernel
theorem dX5_putFrom_37 : decode cX5_putFrom 37 = .ok (.getfield 21, 3) := by decide +kernel
theorem dX5_putFrom_40 : decode cX5_putFrom 40 = .ok (.iload_n 2, 1) := by decide +kernel
theorem dX5_putFrom_41 : decode cX5_putFrom 41 = .ok (.aload_n 0, 1) := by decide +kernel
theorem dX5_putFrom_42 : decode cX5_putFrom 42 = .ok (.getfield 21, 3) := by decide +kernel
theorem dX5_putFrom_45 : decode cX5_putFrom 45 = .ok (.aload_n 0, 1) := by decide +kernel
theorem dX5_putFrom_46 : decode cX5_putFrom 46 = .ok (.getfield 9, 3) := by decide +kernel
theorem dX5_putFrom_49 : decode cX5_putFrom 49 = .ok (.iload 4, 2) := by decide +kernel
theorem dX5_putFrom_51 : decode cX5_putFrom 51 = .ok (.invokestatic 28, 3) := by decide +kernel
theorem dX5_putFrom_54 : decode cX5_putFrom 54 = .ok (.aload_n 0, 1) := by decide +kernel
theorem dX5_putFrom_55 : decode cX5_putFrom 55 = .ok (.dup, 1) := by decide +kernel
theorem dX5_putFrom_56 : decode cX5_putFrom 56 = .ok (.getfield 9, 3) := by decide +kernel
theorem dX5_putFrom_59 : decode cX5_putFrom 59 = .ok (.iload 4, 2) := by decide +kernel
theorem dX5_putFrom_61 : decode cX5_putFrom 61 = .ok (.iadd, 1) := by decide +kernel
theorem dX5_putFrom_62 : decode cX5_putFrom 62 = .ok (.putfield 9, 3) := by decide +kernel
theorem dX5_putFrom_65 : decode cX5_putFrom 65 = .ok (.return_, 1) := by decide +kernel
theorem dX7_clear_0 : decode cX7_clear 0 = .ok (.aload_n 0, 1) := by decide +kernel
theorem dX7_clear_1 : decode cX7_clear 1 = .ok (.iconst 0, 1) := by decide +kernel
theorem dX7_clear_2 : decode cX7_clear 2 = .ok (.putfield 17, 3) := by decide +kernel
theorem dX7_clear_5 : decode cX7_clear 5 = .ok (.aload_n 0, 1) := by decide +kernel
theorem dX7_clear_6 : decode cX7_clear 6 = .ok (.iconst 0, 1) := by decide +kernel
theorem dX7_clear_7 : decode cX7_clear 7 = .ok (.putfield 21, 3) := by decide +kernel
theorem dX7_clear_10 : decode cX7_clear 10 = .ok (.return_, 1) := by decide +kernel
theorem dX7_messageAt_0 : decode cX7_messageAt 0 = .ok (.aload_n 0, 1) := by decide +kernel
theorem dX7_messageAt_1 : decode cX7_messageAt 1 = .ok (.getfield 11, 3) := by decide +kernel
theorem dX7_messageAt_4 : decode cX7_messageAt 4 = .ok (.iload_n 1, 1) := by decide +kernel
theorem dX7_messageAt_5 : decode cX7_messageAt 5 = .ok (.ifCond .lt 16, 3) := by decide +kernel
theorem dX7_messageAt_8 : decode cX7_messageAt 8 = .ok (.iload_n 1, 1) := by decide +kernel
theorem dX7_messageAt_9 : decode cX7_messageAt 9 = .ok (.aload_n 0, 1) := by decide +kernel
theorem dX7_messageAt_10 : decode cX7_messageAt 10 = .ok (.getfield 11, 3) := by decide +kernel
theorem dX7_messageAt_13 : decode cX7_messageAt 13 = .ok (.arraylength, 1) := by decide +kernel
theorem dX7_messageAt_14 : decode cX7_messageAt 14 = .ok (.if_icmp .ge 7, 3) := by decide +kernel
theorem dX7_messageAt_17 : decode cX7_messageAt 17 = .ok (.iload_n 1, 1) := by decide +kernel
theorem dX7_messageAt_18 : decode cX7_messageAt 18 = .ok (.goto 4, 3) := by decide +kernel
theorem dX7_messageAt_21 : decode cX7_messageAt 21 = .ok (.iconst 0, 1) := by decide +kernel
theorem dX7_messageAt_22 : decode cX7_messageAt 22 = .ok (.aaload, 1) := by decide +kernel
theorem dX7_messageAt_23 : decode cX7_messageAt 23 = .ok (.areturn, 1) := by decide +kernel
set_option maxRecDepth 20000 in
theorem ggX7_freeMessage_X7_messageAt : GoodIn wsX7_freeMessage wsX7_messageAt := goodIn_r _ [7, 8, 9, 10, 11] rfl (by decide +kernel)
set_option maxRecDepth 20000 in
theorem gX7_freeMessage_X7_messageAt : GoodIn wsX7_freeMessage (wsV RX7 27 RX7 yX7_messageAt wsX7_messageAt) := goodIn_app (goodIn_of _ (by decide +kernel)) ggX7_freeMessage_X7_messageAt
theorem dX7_freeMessage_0 : decode cX7_freeMessage 0 = .ok (.aload_n 0, 1) := by decide +kernel
theorem dX7_freeMessage_1 : decode cX7_freeMessage 1 = .ok (.aload_n 0, 1) := by decide +kernel
theorem dX7_freeMessage_2 : decode cX7_freeMessage 2 = .ok (.getfield 17, 3) := by decide +kernel
theorem dX7_freeMessage_5 : decode cX7_freeMessage 5 = .ok (.invokevirtual 27, 3) := by decide +kernel
theorem dX7_freeMessage_8 : decode cX7_freeMessage 8 = .ok (.astore_n 1, 1) := by decide +kernel
theorem dX7_freeMessage_9 : decode cX7_freeMessage 9 = .ok (.aload_n 1, 1) := by decide +kernel
theorem dX7_freeMessage_10 : decode cX7_freeMessage 10 = .ok (.iconst 0, 1) := by decide +kernel
theorem dX7_freeMessage_11 : decode cX7_freeMessage 11 = .ok (.putfield 31, 3) := by decide +kernel
theorem dX7_freeMessage_14 : decode cX7_freeMessage 14 = .ok (.aload_n 1, 1) := by decide +kernel
theorem dX7_freeMessage_15 : decode cX7_freeMessage 15 = .ok (.areturn, 1) := by decide +kernel
theorem dX7_addFreeMessage_0 : decode cX7_addFreeMessage 0 = .ok (.aload_n 0, 1) := by decide +kernel
theorem dX7_addFreeMessage_1 : decode cX7_addFreeMessage 1 = .ok (.getfield 17, 3) := by decide +kernel
theorem dX7_addFreeMessage_4 : decode cX7_addFreeMessage 4 = .ok (.bipush 12, 2) := by decide +kernel
theorem dX7_addFreeMessage_6 : decode cX7_addFreeMessage 6 = .ok (.if_icmp .ge 16, 3) := by decide +kernel
theorem dX7_addFreeMessage_9 : decode cX7_addFreeMessage 9 = .ok (.aload_n 0, 1) := by decide +kernel
theorem dX7_addFreeMessage_10 : decode cX7_addFreeMessage 10 = .ok (.dup, 1) := by decide +kernel
theorem dX7_addFreeMessage_11 : decode cX7_addFreeMessage 11 = .ok (.getfield 17, 3) := by decide +kernel
theorem dX7_addFreeMessage_14 : decode cX7_addFreeMessage 14 = .ok (.iconst 1, 1) := by decide +kernel
theorem dX7_addFreeMessage_15 : decode cX7_addFreeMessage 15 = .ok (.iadd, 1) := by decide +kernel
theorem dX7_addFreeMessage_16 : decode cX7_addFreeMessage 16 = .ok (.putfield 17, 3) := by decide +kernel
theorem dX7_addFreeMessage_19 : decode cX7_addFreeMessage 19 = .ok (.goto 13, 3) := by decide +kernel
theorem dX7_addFreeMessage_22 : decode cX7_addFreeMessage 22 = .ok (.aload_n 0, 1) := by decide +kernel
theorem dX7_addFreeMessage_23 : decode cX7_addFreeMessage 23 = .ok (.dup, 1) := by decide +kernel
theorem dX7_addFreeMessage_24 : decode cX7_addFreeMessage 24 = .ok (.getfield 21, 3) := by decide +kernel
theorem dX7_addFreeMessage_27 : decode cX7_addFreeMessage 27 = .ok (.iconst 1, 1) := by decide +kernel
theorem dX7_addFreeMessage_28 : decode cX7_addFreeMessage 28 = .ok (.iadd, 1) := by decide +kernel
theorem dX7_addFreeMessage_29 : decode cX7_addFreeMessage 29 = .ok (.putfield 21, 3) := by decide +kernel
theorem dX7_addFreeMessage_32 : decode cX7_addFreeMessage 32 = .ok (.return_, 1) := by decide +kernel
set_option maxRecDepth 20000 in
theorem ggX7_takeOut_X7_messageAt : GoodIn wsX7_takeOut wsX7_messageAt := goodIn_r _ [7, 2, 8, 9, 10] rfl (by decide +kernel)
set_option maxRecDepth 20000 in
theorem gX7_takeOut_X7_messageAt : GoodIn wsX7_takeOut (wsV RX7 27 RX7 yX7_messageAt wsX7_messageAt) := goodIn_app (goodIn_of _ (by decide +kernel)) ggX7_takeOut_X7_messageAt
theorem dX7_takeOut_0 : decode cX7_takeOut 0 = .ok (.aload_n 0, 1) := by decide +kernel
theorem dX7_takeOut_1 : decode cX7_takeOut 1 = .ok (.iload_n 1, 1) := by decide +kernel
theorem dX7_takeOut_2 : decode cX7_takeOut 2 = .ok (.invokevirtual 27, 3) := by decide +kernel
theorem dX7_takeOut_5 : decode cX7_takeOut 5 = .ok (.astore_n 2, 1) := by decide +kernel
theorem dX7_takeOut_6 : decode cX7_takeOut 6 = .ok (.iload_n 1, 1) := by decide +kernel
theorem dX7_takeOut_7 : decode cX7_takeOut 7 = .ok (.ifCond .lt 11, 3) := by decide +kernel
theorem dX7_takeOut_10 : decode cX7_takeOut 10 = .ok (.iload_n 1, 1) := by decide +kernel
theorem dX7_takeOut_11 : decode cX7_takeOut 11 = .ok (.aload_n 0, 1) := by decide +kernel
theorem dX7_takeOut_12 : decode cX7_takeOut 12 = .ok (.getfield 17, 3) := by decide +kernel
theorem dX7_takeOut_15 : decode cX7_takeOut 15 = .ok (.if_icmp .lt 5, 3) := by decide +kernel
theorem dX7_takeOut_18 : decode cX7_takeOut 18 = .ok (.aload_n 2, 1) := by decide +kernel
theorem dX7_takeOut_19 : decode cX7_takeOut 19 = .ok (.areturn, 1) := by decide +kernel
theorem dX7_takeOut_20 : decode cX7_takeOut 20 = .ok (.iload_n 1, 1) := by decide +kernel
theorem dX7_takeOut_21 : decode cX7_takeOut 21 = .ok (.istore_n 3, 1) := by decide +kernel
theorem dX7_takeOut_22 : decode cX7_takeOut 22 = .ok (.iload_n 3, 1) := by decide +kernel
theorem dX7_takeOut_23 : decode cX7_takeOut 23 = .ok (.aload_n 0, 1) := by decide +kernel
theorem dX7_takeOut_24 : decode cX7_takeOut 24 = .ok (.getfield 17, 3) := by decide +kernel
theorem dX7_takeOut_27 : decode cX7_takeOut 27 = .ok (.iconst 1, 1) := by decide +kernel
theorem dX7_takeOut_28 : decode cX7_takeOut 28 = .ok (.isub, 1) := by decide +kernel
theorem dX7_takeOut_29 : decode cX7_takeOut 29 = .ok (.if_icmp .ge 23, 3) := by decide +kernel
theorem dX7_takeOut_32 : decode cX7_takeOut 32 = .ok (.aload_n 0, 1) := by decide +kernel
theorem dX7_takeOut_33 : decode cX7_takeOut 33 = .ok (.getfield 11, 3) := by decide +kernel
theorem dX7_takeOut_36 : decode cX7_takeOut 36 = .ok (.iload_n 3, 1) := by decide +kernel
theorem dX7_takeOut_37 : decode cX7_takeOut 37 = .ok (.aload_n 0, 1) := by decide +kernel
theorem dX7_takeOut_38 : decode cX7_takeOut 38 = .ok (.getfield 11, 3) := by decide +kernel
theorem dX7_takeOut_41 : decode cX7_takeOut 41 = .ok (.iload_n 3, 1) := by decide +kernel
theorem dX7_takeOut_42 : decode cX7_takeOut 42 = .ok (.iconst 1, 1) := by decide +kernel
theorem dX7_takeOut_43 : decode cX7_takeOut 43 = .ok (.iadd, 1) := by decide +kernel
theorem dX7_takeOut_44 : decode cX7_takeOut 44 = .ok (.aaload, 1) := by decide +kernel
theorem dX7_takeOut_45 : decode cX7_takeOut 45 = .ok (.aastore, 1) := by decide +kernel
theorem dX7_takeOut_46 : decode cX7_takeOut 46 = .ok (.iinc 3 1, 3) := by decide +kernel
theorem dX7_takeOut_49 : decode cX7_takeOut 49 = .ok (.goto (-27), 3) := by decide +kernel
theorem dX7_takeOut_52 : decode cX7_takeOut 52 = .ok (.aload_n 0, 1) := by decide +kernel
theorem dX7_takeOut_53 : decode cX7_takeOut 53 = .ok (.dup, 1) := by decide +kernel
theorem dX7_takeOut_54 : decode cX7_takeOut 54 = .ok (.getfield 17, 3) := by decide +kernel
theorem dX7_takeOut_57 : decode cX7_takeOut 57 = .ok (.iconst 1, 1) := by decide +kernel
theorem dX7_takeOut_58 : decode cX7_takeOut 58 = .ok (.isub, 1) := by decide +kernel
theorem dX7_takeOut_59 : decode cX7_takeOut 59 = .ok (.putfield 17, 3) := by decide +kernel
theorem dX7_takeOut_62 : decode cX7_takeOut 62 = .ok (.aload_n 0, 1) := by decide +kernel
theorem dX7_takeOut_63 : decode cX7_takeOut 63 = .ok (.getfield 11, 3) := by decide +kernel
theorem dX7_takeOut_66 : decode cX7_takeOut 66 = .ok (.aload_n 0, 1) := by decide +kernel
theorem dX7_takeOut_67 : decode cX7_takeOut 67 = .ok (.getfield 17, 3) := by decide +kernel
theorem dX7_takeOut_70 : decode cX7_takeOut 70 = .ok (.aload_n 2, 1) := by decide +kernel
theorem dX7_takeOut_71 : decode cX7_takeOut 71 = .ok (.aastore, 1) := by decide +kernel
theorem dX7_takeOut_72 : decode cX7_takeOut 72 = .ok (.aload_n 2, 1) := by decide +kernel
theorem dX7_takeOut_73 : decode cX7_takeOut 73 = .ok (.areturn, 1) := by decide +kernel
theorem dX7_swap_0 : decode cX7_swap 0 = .ok (.iload_n 1, 1) := by decide +kernel
theorem dX7_swap_1 : decode cX7_swap 1 = .ok (.ifCond .lt 23, 3) := by decide +kernel
theorem dX7_swap_4 : decode cX7_swap 4 = .ok (.iload_n 1, 1) := by decide +kernel
theorem dX7_swap_5 : decode cX7_swap 5 = .ok (.aload_n 0, 1) := by decide +kernel
theorem dX7_swap_6 : decode cX7_swap 6 = .ok (.getfield 17, 3) := by decide +kernel
theorem dX7_swap_9 : decode cX7_swap 9 = .ok (.if_icmp .ge 15, 3) := by decide +kernel
theorem dX7_swap_12 : decode cX7_swap 12 = .ok (.iload_n 2, 1) := by decide +kernel
theorem dX7_swap_13 : decode cX7_swap 13 = .ok (.ifCond .lt 11, 3) := by decide +kernel
theorem dX7_swap_16 : decode cX7_swap 16 = .ok (.iload_n 2, 1) := by decide +kernel
theorem dX7_swap_17 : decode cX7_swap 17 = .ok (.aload_n 0, 1) := by decide +kernel
theorem dX7_swap_18 : decode cX7_swap 18 = .ok (.getfield 17, 3) := by decide +kernel
theorem dX7_swap_21 : decode cX7_swap 21 = .ok (.if_icmp .lt 4, 3) := by decide +kernel
theorem dX7_swap_24 : decode cX7_swap 24 = .ok (.return_, 1) := by decide +kernel
theorem dX7_swap_25 : decode cX7_swap 25 = .ok (.aload_n 0, 1) := by decide +kernel
theorem dX7_swap_26 : decode cX7_swap 26 = .ok (.getfield 11, 3) := by decide +kernel
theorem dX7_swap_29 : decode cX7_swap 29 = .ok (.iload_n 1, 1) := by decide +kernel
theorem dX7_swap_30 : decode cX7_swap 30 = .ok (.aaload, 1) := by decide +kernel
theorem dX7_swap_31 : decode cX7_swap 31 = .ok (.astore_n 3, 1) := by decide +kernel
theorem dX7_swap_32 : decode cX7_swap 32 = .ok (.aload_n 0, 1) := by decide +kernel
theorem dX7_swap_33 : decode cX7_swap 33 = .ok (.getfield 11, 3) := by decide +kernel
theorem dX7_swap_36 : decode cX7_swap 36 = .ok (.iload_n 1, 1) := by decide +kernel
theorem dX7_swap_37 : decode cX7_swap 37 = .ok (.aload_n 0, 1) := by decide +kernel
theorem dX7_swap_38 : decode cX7_swap 38 = .ok (.getfield 11, 3) := by decide +kernel
theorem dX7_swap_41 : decode cX7_swap 41 = .ok (.iload_n 2, 1) := by decide +kernel
theorem dX7_swap_42 : decode cX7_swap 42 = .ok (.aaload, 1) := by decide +kernel
theorem dX7_swap_43 : decode cX7_swap 43 = .ok (.aastore, 1) := by decide +kernel
theorem dX7_swap_44 : decode cX7_swap 44 = .ok (.aload_n 0, 1) := by decide +kernel
theorem dX7_swap_45 : decode cX7_swap 45 = .ok (.getfield 11, 3) := by decide +kernel
theorem dX7_swap_48 : decode cX7_swap 48 = .ok (.iload_n 2, 1) := by decide +kernel
theorem dX7_swap_49 : decode cX7_swap 49 = .ok (.aload_n 3, 1) := by decide +kernel
theorem dX7_swap_50 : decode cX7_swap 50 = .ok (.aastore, 1) := by decide +kernel
theorem dX7_swap_51 : decode cX7_swap 51 = .ok (.return_, 1) := by decide +kernel
theorem dX11_lengthOf_0 : decode cX11_lengthOf 0 = .ok (.iload_n 0, 1) := by decide +kernel
theorem dX11_lengthOf_1 : decode cX11_lengthOf 1 = .ok (.ifCond .lt 17, 3) := by decide +kernel
theorem dX11_lengthOf_4 : decode cX11_lengthOf 4 = .ok (.iload_n 0, 1) := by decide +kernel
theorem dX11_lengthOf_5 : decode cX11_lengthOf 5 = .ok (.bipush 9, 2) := by decide +kernel
theorem dX11_lengthOf_7 : decode cX11_lengthOf 7 = .ok (.if_icmp .ge 11, 3) := by decide +kernel
theorem dX11_lengthOf_10 : decode cX11_lengthOf 10 = .ok (.getstatic 343, 3) := by decide +kernel
theorem dX11_lengthOf_13 : decode cX11_lengthOf 13 = .ok (.iload_n 0, 1) := by decide +kernel
theorem dX11_lengthOf_14 : decode cX11_lengthOf 14 = .ok (.iaload, 1) := by decide +kernel
theorem dX11_lengthOf_15 : decode cX11_lengthOf 15 = .ok (.goto 4, 3) := by decide +kernel
theorem dX11_lengthOf_18 : decode cX11_lengthOf 18 = .ok (.iconst 0, 1) := by decide +kernel
theorem dX11_lengthOf_19 : decode cX11_lengthOf 19 = .ok (.ireturn, 1) := by decide +kernel

theorem dX5_init_0 : decode cX5_init 0 = .ok (.aload_n 0, 1) := by decide +kernel
theorem dX5_init_1 : decode cX5_init 1 = .ok (.invokespecial 3, 3) := by decide +kernel
theorem dX5_init_4 : decode cX5_init 4 = .ok (.aload_n 0, 1) := by decide +kernel
theorem dX5_init_5 : decode cX5_init 5 = .ok (.iconst 0, 1) := by decide +kernel
theorem dX5_init_6 : decode cX5_init 6 = .ok (.putfield 9, 3) := by decide +kernel
theorem dX5_init_9 : decode cX5_init 9 = .ok (.aload_n 0, 1) := by decide +kernel
theorem dX5_init_10 : decode cX5_init 10 = .ok (.iconst 0, 1) := by decide +kernel
theorem dX5_init_11 : decode cX5_init 11 = .ok (.iload_n 1, 1) := by decide +kernel
theorem dX5_init_12 : decode cX5_init 12 = .ok (.invokestatic 15, 3) := by decide +kernel
theorem dX5_init_15 : decode cX5_init 15 = .ok (.newarray .byte, 2) := by decide +kernel
theorem dX5_init_17 : decode cX5_init 17 = .ok (.putfield 21, 3) := by decide +kernel
theorem dX5_init_20 : decode cX5_init 20 = .ok (.return_, 1) := by decide +kernel
theorem dX10_init_0 : decode cX10_init 0 = .ok (.aload_n 0, 1) := by decide +kernel
theorem dX10_init_1 : decode cX10_init 1 = .ok (.invokespecial 3, 3) := by decide +kernel
theorem dX10_init_4 : decode cX10_init 4 = .ok (.aload_n 0, 1) := by decide +kernel
theorem dX10_init_5 : decode cX10_init 5 = .ok (.bipush 9, 2) := by decide +kernel
theorem dX10_init_7 : decode cX10_init 7 = .ok (.newarray .int, 2) := by decide +kernel
theorem dX10_init_9 : decode cX10_init 9 = .ok (.putfield 9, 3) := by decide +kernel
theorem dX10_init_12 : decode cX10_init 12 = .ok (.aload_n 0, 1) := by decide +kernel
theorem dX10_init_13 : decode cX10_init 13 = .ok (.iconst 0, 1) := by decide +kernel
theorem dX10_init_14 : decode cX10_init 14 = .ok (.putfield 15, 3) := by decide +kernel
theorem dX10_init_17 : decode cX10_init 17 = .ok (.aload_n 0, 1) := by decide +kernel
theorem dX10_init_18 : decode cX10_init 18 = .ok (.iconst 0, 1) := by decide +kernel
theorem dX10_init_19 : decode cX10_init 19 = .ok (.putfield 19, 3) := by decide +kernel
theorem dX10_init_22 : decode cX10_init 22 = .ok (.aload_n 0, 1) := by decide +kernel
theorem dX10_init_23 : decode cX10_init 23 = .ok (.iconst 0, 1) := by decide +kernel
theorem dX10_init_24 : decode cX10_init 24 = .ok (.putfield 22, 3) := by decide +kernel
theorem dX10_init_27 : decode cX10_init 27 = .ok (.return_, 1) := by decide +kernel
theorem dX10_clear_0 : decode cX10_clear 0 = .ok (.aload_n 0, 1) := by decide +kernel
theorem dX10_clear_1 : decode cX10_clear 1 = .ok (.iconst 0, 1) := by decide +kernel
theorem dX10_clear_2 : decode cX10_clear 2 = .ok (.putfield 15, 3) := by decide +kernel
theorem dX10_clear_5 : decode cX10_clear 5 = .ok (.aload_n 0, 1) := by decide +kernel
theorem dX10_clear_6 : decode cX10_clear 6 = .ok (.iconst 0, 1) := by decide +kernel
theorem dX10_clear_7 : decode cX10_clear 7 = .ok (.putfield 19, 3) := by decide +kernel
theorem dX10_clear_10 : decode cX10_clear 10 = .ok (.aload_n 0, 1) := by decide +kernel
theorem dX10_clear_11 : decode cX10_clear 11 = .ok (.iconst 0, 1) := by decide +kernel
theorem dX10_clear_12 : decode cX10_clear 12 = .ok (.putfield 22, 3) := by decide +kernel
theorem dX10_clear_15 : decode cX10_clear 15 = .ok (.return_, 1) := by decide +kernel
theorem dX10_addField_0 : decode cX10_addField 0 = .ok (.iload_n 1, 1) := by decide +kernel
theorem dX10_addField_1 : decode cX10_addField 1 = .ok (.ifCond .lt 75, 3) := by decide +kernel
theorem dX10_addField_4 : decode cX10_addField 4 = .ok (.iload_n 1, 1) := by decide +kernel
theorem dX10_addField_5 : decode cX10_addField 5 = .ok (.bipush 9, 2) := by decide +kernel
theorem dX10_addField_7 : decode cX10_addField 7 = .ok (.if_icmp .ge 69, 3) := by decide +kernel
theorem dX10_addField_10 : decode cX10_addField 10 = .ok (.aload_n 0, 1) := by decide +kernel
theorem dX10_addField_11 : decode cX10_addField 11 = .ok (.getfield 15, 3) := by decide +kernel
theorem dX10_addField_14 : decode cX10_addField 14 = .ok (.bipush 9, 2) := by decide +kernel
theorem dX10_addField_16 : decode cX10_addField 16 = .ok (.if_icmp .ge 60, 3) := by decide +kernel
theorem dX10_addField_19 : decode cX10_addField 19 = .ok (.aload_n 0, 1) := by decide +kernel
theorem dX10_addField_20 : decode cX10_addField 20 = .ok (.getfield 19, 3) := by decide +kernel
theorem dX10_addField_23 : decode cX10_addField 23 = .ok (.iload_n 1, 1) := by decide +kernel
theorem dX10_addField_24 : decode cX10_addField 24 = .ok (.ishr, 1) := by decide +kernel
theorem dX10_addField_25 : decode cX10_addField 25 = .ok (.iconst 1, 1) := by decide +kernel
theorem dX10_addField_26 : decode cX10_addField 26 = .ok (.iand, 1) := by decide +kernel
theorem dX10_addField_27 : decode cX10_addField 27 = .ok (.ifCond .ne 49, 3) := by decide +kernel
theorem dX10_addField_30 : decode cX10_addField 30 = .ok (.aload_n 0, 1) := by decide +kernel
theorem dX10_addField_31 : decode cX10_addField 31 = .ok (.getfield 9, 3) := by decide +kernel
theorem dX10_addField_34 : decode cX10_addField 34 = .ok (.aload_n 0, 1) := by decide +kernel
theorem dX10_addField_35 : decode cX10_addField 35 = .ok (.getfield 15, 3) := by decide +kernel
theorem dX10_addField_38 : decode cX10_addField 38 = .ok (.iload_n 1, 1) := by decide +kernel
theorem dX10_addField_39 : decode cX10_addField 39 = .ok (.iastore, 1) := by decide +kernel
theorem dX10_addField_40 : decode cX10_addField 40 = .ok (.aload_n 0, 1) := by decide +kernel
theorem dX10_addField_41 : decode cX10_addField 41 = .ok (.dup, 1) := by decide +kernel
theorem dX10_addField_42 : decode cX10_addField 42 = .ok (.getfield 15, 3) := by decide +kernel
theorem dX10_addField_45 : decode cX10_addField 45 = .ok (.iconst 1, 1) := by decide +kernel
theorem dX10_addField_46 : decode cX10_addField 46 = .ok (.iadd, 1) := by decide +kernel
theorem dX10_addField_47 : decode cX10_addField 47 = .ok (.putfield 15, 3) := by decide +kernel
theorem dX10_addField_50 : decode cX10_addField 50 = .ok (.aload_n 0, 1) := by decide +kernel
theorem dX10_addField_51 : decode cX10_addField 51 = .ok (.dup, 1) := by decide +kernel
theorem dX10_addField_52 : decode cX10_addField 52 = .ok (.getfield 19, 3) := by decide +kernel
theorem dX10_addField_55 : decode cX10_addField 55 = .ok (.iconst 1, 1) := by decide +kernel
theorem dX10_addField_56 : decode cX10_addField 56 = .ok (.iload_n 1, 1) := by decide +kernel
theorem dX10_addField_57 : decode cX10_addField 57 = .ok (.ishl, 1) := by decide +kernel
theorem dX10_addField_58 : decode cX10_addField 58 = .ok (.ior, 1) := by decide +kernel
theorem dX10_addField_59 : decode cX10_addField 59 = .ok (.putfield 19, 3) := by decide +kernel
theorem dX10_addField_62 : decode cX10_addField 62 = .ok (.aload_n 0, 1) := by decide +kernel
theorem dX10_addField_63 : decode cX10_addField 63 = .ok (.dup, 1) := by decide +kernel
theorem dX10_addField_64 : decode cX10_addField 64 = .ok (.getfield 22, 3) := by decide +kernel
theorem dX10_addField_67 : decode cX10_addField 67 = .ok (.getstatic 25, 3) := by decide +kernel
theorem dX10_addField_70 : decode cX10_addField 70 = .ok (.iload_n 1, 1) := by decide +kernel
theorem dX10_addField_71 : decode cX10_addField 71 = .ok (.iaload, 1) := by decide +kernel
theorem dX10_addField_72 : decode cX10_addField 72 = .ok (.iadd, 1) := by decide +kernel
theorem dX10_addField_73 : decode cX10_addField 73 = .ok (.putfield 22, 3) := by decide +kernel
theorem dX10_addField_76 : decode cX10_addField 76 = .ok (.return_, 1) := by decide +kernel
theorem dX10_field_0 : decode cX10_field 0 = .ok (.iload_n 1, 1) := by decide +kernel
theorem dX10_field_1 : decode cX10_field 1 = .ok (.ifCond .lt 20, 3) := by decide +kernel
theorem dX10_field_4 : decode cX10_field 4 = .ok (.iload_n 1, 1) := by decide +kernel
theorem dX10_field_5 : decode cX10_field 5 = .ok (.aload_n 0, 1) := by decide +kernel
theorem dX10_field_6 : decode cX10_field 6 = .ok (.getfield 15, 3) := by decide +kernel
theorem dX10_field_9 : decode cX10_field 9 = .ok (.if_icmp .ge 12, 3) := by decide +kernel
theorem dX10_field_12 : decode cX10_field 12 = .ok (.aload_n 0, 1) := by decide +kernel
theorem dX10_field_13 : decode cX10_field 13 = .ok (.getfield 9, 3) := by decide +kernel
theorem dX10_field_16 : decode cX10_field 16 = .ok (.iload_n 1, 1) := by decide +kernel
theorem dX10_field_17 : decode cX10_field 17 = .ok (.iaload, 1) := by decide +kernel
theorem dX10_field_18 : decode cX10_field 18 = .ok (.goto 4, 3) := by decide +kernel
theorem dX10_field_22 : decode cX10_field 22 = .ok (.ireturn, 1) := by decide +kernel
set_option maxRecDepth 20000 in
theorem ggX10_copyFrom_X10_clear : GoodIn wsX10_copyFrom wsX10_clear := goodIn_r _ [6, 1, 7, 8, 18, 19, 20, 21] (by decide +kernel) (by decide +kernel)
set_option maxRecDepth 20000 in
theorem gX10_copyFrom_X10_clear : GoodIn wsX10_copyFrom (wsV RX10 28 RX10 yX10_clear wsX10_clear) := goodIn_app (goodIn_of _ (by decide +kernel)) ggX10_copyFrom_X10_clear
set_option maxRecDepth 20000 in
theorem ggX10_copyFrom_X10_field : GoodIn wsX10_copyFrom wsX10_field := goodIn_ca (goodIn_r _ [12, 1, 13, 18, 19, 20, 21] (by decide +kernel) (by decide +kernel)) (goodIn_sub (fun _ h => List.mem_cons_of_mem _ (List.mem_append_right _ h)) (by decide +kernel))
set_option maxRecDepth 20000 in
theorem gX10_copyFrom_X10_field : GoodIn wsX10_copyFrom (wsV RX10 31 RX10 yX10_field wsX10_field) := goodIn_app (goodIn_of _ (by decide +kernel)) ggX10_copyFrom_X10_field
set_option maxRecDepth 20000 in
theorem ggX10_copyFrom_X10_addField : GoodIn wsX10_copyFrom wsX10_addField := goodIn_ca (goodIn_r _ [17, 1, 7, 13, 8, 18, 19, 20, 21] (by decide +kernel) (by decide +kernel)) (goodIn_sub (fun _ h => List.mem_cons_of_mem _ (List.mem_append_right _ h)) (by decide +kernel))
set_option maxRecDepth 20000 in
theorem gX10_copyFrom_X10_addField : GoodIn wsX10_copyFrom (wsV RX10 35 RX10 yX10_addField wsX10_addField) := goodIn_app (goodIn_of _ (by decide +kernel)) ggX10_copyFrom_X10_addField
theorem dX10_copyFrom_0 : decode cX10_copyFrom 0 = .ok (.aload_n 0, 1) := by decide +kernel
theorem dX10_copyFrom_1 : decode cX10_copyFrom 1 = .ok (.invokevirtual 28, 3) := by decide +kernel
theorem dX10_copyFrom_4 : decode cX10_copyFrom 4 = .ok (.iconst 0, 1) := by decide +kernel
theorem dX10_copyFrom_5 : decode cX10_copyFrom 5 = .ok (.istore_n 3, 1) := by decide +kernel
theorem dX10_copyFrom_6 : decode cX10_copyFrom 6 = .ok (.iload_n 3, 1) := by decide +kernel
theorem dX10_copyFrom_7 : decode cX10_copyFrom 7 = .ok (.aload_n 1, 1) := by decide +kernel
theorem dX10_copyFrom_8 : decode cX10_copyFrom 8 = .ok (.getfield 15, 3) := by decide +kernel
theorem dX10_copyFrom_11 : decode cX10_copyFrom 11 = .ok (.if_icmp .ge 32, 3) := by decide +kernel
theorem dX10_copyFrom_14 : decode cX10_copyFrom 14 = .ok (.aload_n 1, 1) := by decide +kernel
theorem dX10_copyFrom_15 : decode cX10_copyFrom 15 = .ok (.iload_n 3, 1) := by decide +kernel
theorem dX10_copyFrom_16 : decode cX10_copyFrom 16 = .ok (.invokevirtual 31, 3) := by decide +kernel
theorem dX10_copyFrom_19 : decode cX10_copyFrom 19 = .ok (.istore 4, 2) := by decide +kernel
theorem dX10_copyFrom_21 : decode cX10_copyFrom 21 = .ok (.iload_n 2, 1) := by decide +kernel
theorem dX10_copyFrom_22 : decode cX10_copyFrom 22 = .ok (.iload 4, 2) := by decide +kernel
theorem dX10_copyFrom_24 : decode cX10_copyFrom 24 = .ok (.ishr, 1) := by decide +kernel
theorem dX10_copyFrom_25 : decode cX10_copyFrom 25 = .ok (.iconst 1, 1) := by decide +kernel
theorem dX10_copyFrom_26 : decode cX10_copyFrom 26 = .ok (.iand, 1) := by decide +kernel
theorem dX10_copyFrom_27 : decode cX10_copyFrom 27 = .ok (.iconst 1, 1) := by decide +kernel
theorem dX10_copyFrom_28 : decode cX10_copyFrom 28 = .ok (.if_icmp .ne 9, 3) := by decide +kernel
theorem dX10_copyFrom_31 : decode cX10_copyFrom 31 = .ok (.aload_n 0, 1) := by decide +kernel
theorem dX10_copyFrom_32 : decode cX10_copyFrom 32 = .ok (.iload 4, 2) := by decide +kernel
theorem dX10_copyFrom_34 : decode cX10_copyFrom 34 = .ok (.invokevirtual 35, 3) := by decide +kernel
theorem dX10_copyFrom_37 : decode cX10_copyFrom 37 = .ok (.iinc 3 1, 3) := by decide +kernel
theorem dX10_copyFrom_40 : decode cX10_copyFrom 40 = .ok (.goto (-34), 3) := by decide +kernel
theorem dX10_copyFrom_43 : decode cX10_copyFrom 43 = .ok (.return_, 1) := by decide +kernel
theorem dJ7_fill_d0a16_0 : decode cJ7_fill_d0a16 0 = .ok (.iconst 0, 1) := by decide +kernel
theorem dJ7_fill_d0a16_1 : decode cJ7_fill_d0a16 1 = .ok (.istore_n 3, 1) := by decide +kernel
theorem dJ7_fill_d0a16_2 : decode cJ7_fill_d0a16 2 = .ok (.aload_n 0, 1) := by decide +kernel
theorem dJ7_fill_d0a16_3 : decode cJ7_fill_d0a16 3 = .ok (.arraylength, 1) := by decide +kernel
theorem dJ7_fill_d0a16_4 : decode cJ7_fill_d0a16 4 = .ok (.istore 4, 2) := by decide +kernel
theorem dJ7_fill_d0a16_6 : decode cJ7_fill_d0a16 6 = .ok (.iload_n 3, 1) := by decide +kernel
theorem dJ7_fill_d0a16_7 : decode cJ7_fill_d0a16 7 = .ok (.iload 4, 2) := by decide +kernel
theorem dJ7_fill_d0a16_9 : decode cJ7_fill_d0a16 9 = .ok (.if_icmp .ge 13, 3) := by decide +kernel
theorem dJ7_fill_d0a16_12 : decode cJ7_fill_d0a16 12 = .ok (.aload_n 0, 1) := by decide +kernel
theorem dJ7_fill_d0a16_13 : decode cJ7_fill_d0a16 13 = .ok (.iload_n 3, 1) := by decide +kernel
theorem dJ7_fill_d0a16_14 : decode cJ7_fill_d0a16 14 = .ok (.lload_n 1, 1) := by decide +kernel
theorem dJ7_fill_d0a16_15 : decode cJ7_fill_d0a16 15 = .ok (.lastore, 1) := by decide +kernel
theorem dJ7_fill_d0a16_16 : decode cJ7_fill_d0a16 16 = .ok (.iinc 3 1, 3) := by decide +kernel
theorem dJ7_fill_d0a16_19 : decode cJ7_fill_d0a16 19 = .ok (.goto (-13), 3) := by decide +kernel
theorem dJ7_fill_d0a16_22 : decode cJ7_fill_d0a16 22 = .ok (.return_, 1) := by decide +kernel
theorem dJ7_fill_53178_0 : decode cJ7_fill_53178 0 = .ok (.iconst 0, 1) := by decide +kernel
theorem dJ7_fill_53178_1 : decode cJ7_fill_53178 1 = .ok (.istore_n 2, 1) := by decide +kernel
theorem dJ7_fill_53178_2 : decode cJ7_fill_53178 2 = .ok (.aload_n 0, 1) := by decide +kernel
theorem dJ7_fill_53178_3 : decode cJ7_fill_53178 3 = .ok (.arraylength, 1) := by decide +kernel
theorem dJ7_fill_53178_4 : decode cJ7_fill_53178 4 = .ok (.istore_n 3, 1) := by decide +kernel
theorem dJ7_fill_53178_5 : decode cJ7_fill_53178 5 = .ok (.iload_n 2, 1) := by decide +kernel
theorem dJ7_fill_53178_6 : decode cJ7_fill_53178 6 = .ok (.iload_n 3, 1) := by decide +kernel
theorem dJ7_fill_53178_7 : decode cJ7_fill_53178 7 = .ok (.if_icmp .ge 13, 3) := by decide +kernel
theorem dJ7_fill_53178_10 : decode cJ7_fill_53178 10 = .ok (.aload_n 0, 1) := by decide +kernel
theorem dJ7_fill_53178_11 : decode cJ7_fill_53178 11 = .ok (.iload_n 2, 1) := by decide +kernel
theorem dJ7_fill_53178_12 : decode cJ7_fill_53178 12 = .ok (.iload_n 1, 1) := by decide +kernel
theorem dJ7_fill_53178_13 : decode cJ7_fill_53178 13 = .ok (.iastore, 1) := by decide +kernel
theorem dJ7_fill_53178_14 : decode cJ7_fill_53178 14 = .ok (.iinc 2 1, 3) := by decide +kernel
theorem dJ7_fill_53178_17 : decode cJ7_fill_53178 17 = .ok (.goto (-12), 3) := by decide +kernel
theorem dJ7_fill_53178_20 : decode cJ7_fill_53178 20 = .ok (.return_, 1) := by decide +kernel

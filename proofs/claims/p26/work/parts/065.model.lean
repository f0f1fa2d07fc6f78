set_option maxRecDepth 20000 in
theorem ggX12_setSupport_X12_inRange : GoodIn wsX12_setSupport wsX12_inRange := (goodIn_r _ [8] rfl (by decide +kernel))
set_option maxRecDepth 20000 in
theorem gX12_setSupport_X12_inRange : GoodIn wsX12_setSupport (va_wsS RX12 169 yX12_inRange wsX12_inRange) := goodIn_app (goodIn_m (mem_cA (List.mem_cons_of_mem _ (List.mem_append_left _ (List.mem_append_left _ (List.mem_append_left _ (List.mem_of_getElem? (i := 4) rfl))))) (mem_cA (List.mem_cons_of_mem _ (List.mem_append_left _ (List.mem_append_left _ (List.mem_append_left _ (List.mem_of_getElem? (i := 5) rfl))))) (mem_cA (List.mem_cons_of_mem _ (List.mem_append_left _ (List.mem_append_left _ (List.mem_append_left _ (List.mem_of_getElem? (i := 6) rfl))))) mem_cZ))) (by decide +kernel)) ggX12_setSupport_X12_inRange
set_option maxRecDepth 20000 in
theorem ggX12_setSupport_X12_throwsIf : GoodIn wsX12_setSupport wsX12_throwsIf := (goodIn_ca (goodIn_r _ [12, 1] rfl (by decide +kernel)) (goodIn_sub (fun _ h => List.mem_cons_of_mem _ (List.mem_append_left _ (List.mem_append_right _ h))) gw_wsX120))
set_option maxRecDepth 20000 in
theorem gX12_setSupport_X12_throwsIf : GoodIn wsX12_setSupport (wsV RX12 185 RX12 yX12_throwsIf wsX12_throwsIf) := goodIn_app (goodIn_m (mem_cA (List.mem_cons_of_mem _ (List.mem_append_left _ (List.mem_append_left _ (List.mem_append_left _ (List.mem_of_getElem? (i := 8) rfl))))) (mem_cA (List.mem_cons_of_mem _ (List.mem_append_left _ (List.mem_append_left _ (List.mem_append_left _ (List.mem_of_getElem? (i := 9) rfl))))) (mem_cA (List.mem_cons_of_mem _ (List.mem_append_left _ (List.mem_append_left _ (List.mem_append_left _ (List.mem_of_getElem? (i := 10) rfl))))) (mem_cA (List.mem_cons_of_mem _ (List.mem_append_left _ (List.mem_append_left _ (List.mem_append_left _ (List.mem_of_getElem? (i := 6) rfl))))) mem_cZ)))) (by decide +kernel)) ggX12_setSupport_X12_throwsIf
set_option maxRecDepth 20000 in
theorem ggX12_setSupport_X12_isSupported : GoodIn wsX12_setSupport wsX12_isSupported := goodIn_ca ((goodIn_ca (goodIn_r _ [16, 3] rfl (by decide +kernel)) (goodIn_sub (fun _ h => List.mem_cons_of_mem _ (List.mem_append_left _ (List.mem_append_right _ h))) gw_wsX120))) (goodIn_sub (fun _ h => List.mem_cons_of_mem _ (List.mem_append_right _ h)) (all_fg _))
set_option maxRecDepth 20000 in
theorem gX12_setSupport_X12_isSupported : GoodIn wsX12_setSupport (wsV RX12 206 RX12 yX12_isSupported wsX12_isSupported) := goodIn_app (goodIn_m (mem_cA (List.mem_cons_of_mem _ (List.mem_append_left _ (List.mem_append_left _ (List.mem_append_left _ (List.mem_of_getElem? (i := 12) rfl))))) (mem_cA (List.mem_cons_of_mem _ (List.mem_append_left _ (List.mem_append_left _ (List.mem_append_left _ (List.mem_of_getElem? (i := 13) rfl))))) (mem_cA (List.mem_cons_of_mem _ (List.mem_append_left _ (List.mem_append_left _ (List.mem_append_left _ (List.mem_of_getElem? (i := 14) rfl))))) (mem_cA (List.mem_cons_of_mem _ (List.mem_append_left _ (List.mem_append_left _ (List.mem_append_left _ (List.mem_of_getElem? (i := 6) rfl))))) mem_cZ)))) (by decide +kernel)) ggX12_setSupport_X12_isSupported
set_option maxRecDepth 20000 in
theorem ggX12_setSupport_X12_fieldsOf : GoodIn wsX12_setSupport wsX12_fieldsOf := goodIn_ca ((goodIn_ca (goodIn_r _ [20, 21, 22, 23, 7, 24, 3, 25, 26, 27, 28] rfl (by decide +kernel)) (goodIn_sub (fun _ h => List.mem_cons_of_mem _ (List.mem_append_left _ (List.mem_append_right _ h))) gw_wsX120))) (goodIn_sub (fun _ h => List.mem_cons_of_mem _ (List.mem_append_right _ h)) (all_fg _))
set_option maxRecDepth 20000 in
theorem gX12_setSupport_X12_fieldsOf : GoodIn wsX12_setSupport (wsV RX12 189 RX12 yX12_fieldsOf wsX12_fieldsOf) := goodIn_app (goodIn_m (mem_cA (List.mem_cons_of_mem _ (List.mem_append_left _ (List.mem_append_left _ (List.mem_append_left _ (List.mem_of_getElem? (i := 16) rfl))))) (mem_cA (List.mem_cons_of_mem _ (List.mem_append_left _ (List.mem_append_left _ (List.mem_append_left _ (List.mem_of_getElem? (i := 17) rfl))))) (mem_cA (List.mem_cons_of_mem _ (List.mem_append_left _ (List.mem_append_left _ (List.mem_append_left _ (List.mem_of_getElem? (i := 18) rfl))))) (mem_cA (List.mem_cons_of_mem _ (List.mem_append_left _ (List.mem_append_left _ (List.mem_append_left _ (List.mem_of_getElem? (i := 6) rfl))))) mem_cZ)))) (by decide +kernel)) ggX12_setSupport_X12_fieldsOf
theorem dX12_setSupport_0 : decode cX12_setSupport 0 = .ok (.aload_n 0, 1) := by decide +kernel
theorem dX12_setSupport_1 : decode cX12_setSupport 1 = .ok (.iconst 0, 1) := by decide +kernel
theorem dX12_setSupport_2 : decode cX12_setSupport 2 = .ok (.putfield 1, 3) := by decide +kernel
theorem dX12_setSupport_5 : decode cX12_setSupport 5 = .ok (.aload_n 0, 1) := by decide +kernel
theorem dX12_setSupport_6 : decode cX12_setSupport 6 = .ok (.iload_n 1, 1) := by decide +kernel
theorem dX12_setSupport_7 : decode cX12_setSupport 7 = .ok (.i2l, 1) := by decide +kernel
theorem dX12_setSupport_8 : decode cX12_setSupport 8 = .ok (.lconst 0, 1) := by decide +kernel
theorem dX12_setSupport_9 : decode cX12_setSupport 9 = .ok (.ldc2_w 204, 3) := by decide +kernel
theorem dX12_setSupport_12 : decode cX12_setSupport 12 = .ok (.invokestatic 169, 3) := by decide +kernel
theorem dX12_setSupport_15 : decode cX12_setSupport 15 = .ok (.ifCond .ne 7, 3) := by decide +kernel
theorem dX12_setSupport_18 : decode cX12_setSupport 18 = .ok (.iconst 1, 1) := by decide +kernel
theorem dX12_setSupport_19 : decode cX12_setSupport 19 = .ok (.goto 4, 3) := by decide +kernel
theorem dX12_setSupport_22 : decode cX12_setSupport 22 = .ok (.iconst 0, 1) := by decide +kernel
theorem dX12_setSupport_23 : decode cX12_setSupport 23 = .ok (.iconst 1, 1) := by decide +kernel
theorem dX12_setSupport_24 : decode cX12_setSupport 24 = .ok (.invokevirtual 185, 3) := by decide +kernel
theorem dX12_setSupport_27 : decode cX12_setSupport 27 = .ok (.ifCond .eq 5, 3) := by decide +kernel
theorem dX12_setSupport_30 : decode cX12_setSupport 30 = .ok (.iconst 0, 1) := by decide +kernel
theorem dX12_setSupport_31 : decode cX12_setSupport 31 = .ok (.ireturn, 1) := by decide +kernel
theorem dX12_setSupport_32 : decode cX12_setSupport 32 = .ok (.aload_n 0, 1) := by decide +kernel
theorem dX12_setSupport_33 : decode cX12_setSupport 33 = .ok (.iload_n 1, 1) := by decide +kernel
theorem dX12_setSupport_34 : decode cX12_setSupport 34 = .ok (.invokevirtual 206, 3) := by decide +kernel
theorem dX12_setSupport_37 : decode cX12_setSupport 37 = .ok (.istore_n 3, 1) := by decide +kernel
theorem dX12_setSupport_38 : decode cX12_setSupport 38 = .ok (.iload_n 3, 1) := by decide +kernel
theorem dX12_setSupport_39 : decode cX12_setSupport 39 = .ok (.iload_n 2, 1) := by decide +kernel
theorem dX12_setSupport_40 : decode cX12_setSupport 40 = .ok (.if_icmp .ne 5, 3) := by decide +kernel
theorem dX12_setSupport_43 : decode cX12_setSupport 43 = .ok (.iload_n 3, 1) := by decide +kernel
theorem dX12_setSupport_44 : decode cX12_setSupport 44 = .ok (.ireturn, 1) := by decide +kernel
theorem dX12_setSupport_45 : decode cX12_setSupport 45 = .ok (.aload_n 0, 1) := by decide +kernel
theorem dX12_setSupport_46 : decode cX12_setSupport 46 = .ok (.getfield 17, 3) := by decide +kernel
theorem dX12_setSupport_49 : decode cX12_setSupport 49 = .ok (.bipush 9, 2) := by decide +kernel
theorem dX12_setSupport_51 : decode cX12_setSupport 51 = .ok (.dup2, 1) := by decide +kernel
theorem dX12_setSupport_52 : decode cX12_setSupport 52 = .ok (.iaload, 1) := by decide +kernel
theorem dX12_setSupport_53 : decode cX12_setSupport 53 = .ok (.iconst 1, 1) := by decide +kernel
theorem dX12_setSupport_54 : decode cX12_setSupport 54 = .ok (.iload_n 1, 1) := by decide +kernel
theorem dX12_setSupport_55 : decode cX12_setSupport 55 = .ok (.ishl, 1) := by decide +kernel
theorem dX12_setSupport_56 : decode cX12_setSupport 56 = .ok (.ixor, 1) := by decide +kernel
theorem dX12_setSupport_57 : decode cX12_setSupport 57 = .ok (.iastore, 1) := by decide +kernel
theorem dX12_setSupport_58 : decode cX12_setSupport 58 = .ok (.iconst 0, 1) := by decide +kernel
theorem dX12_setSupport_59 : decode cX12_setSupport 59 = .ok (.istore 4, 2) := by decide +kernel
theorem dX12_setSupport_61 : decode cX12_setSupport 61 = .ok (.iload 4, 2) := by decide +kernel
theorem dX12_setSupport_63 : decode cX12_setSupport 63 = .ok (.aload_n 0, 1) := by decide +kernel
theorem dX12_setSupport_64 : decode cX12_setSupport 64 = .ok (.getfield 17, 3) := by decide +kernel
theorem dX12_setSupport_67 : decode cX12_setSupport 67 = .ok (.bipush 10, 2) := by decide +kernel
theorem dX12_setSupport_69 : decode cX12_setSupport 69 = .ok (.iaload, 1) := by decide +kernel
theorem dX12_setSupport_70 : decode cX12_setSupport 70 = .ok (.if_icmp .ge 31, 3) := by decide +kernel
theorem dX12_setSupport_73 : decode cX12_setSupport 73 = .ok (.aload_n 0, 1) := by decide +kernel
theorem dX12_setSupport_74 : decode cX12_setSupport 74 = .ok (.iload 4, 2) := by decide +kernel
theorem dX12_setSupport_76 : decode cX12_setSupport 76 = .ok (.invokevirtual 189, 3) := by decide +kernel
theorem dX12_setSupport_79 : decode cX12_setSupport 79 = .ok (.iload_n 1, 1) := by decide +kernel
theorem dX12_setSupport_80 : decode cX12_setSupport 80 = .ok (.ishr, 1) := by decide +kernel
theorem dX12_setSupport_81 : decode cX12_setSupport 81 = .ok (.iconst 1, 1) := by decide +kernel
theorem dX12_setSupport_82 : decode cX12_setSupport 82 = .ok (.iand, 1) := by decide +kernel
theorem dX12_setSupport_83 : decode cX12_setSupport 83 = .ok (.iconst 1, 1) := by decide +kernel
theorem dX12_setSupport_84 : decode cX12_setSupport 84 = .ok (.if_icmp .ne 11, 3) := by decide +kernel
theorem dX12_setSupport_87 : decode cX12_setSupport 87 = .ok (.aload_n 0, 1) := by decide +kernel
theorem dX12_setSupport_88 : decode cX12_setSupport 88 = .ok (.getfield 20, 3) := by decide +kernel
theorem dX12_setSupport_91 : decode cX12_setSupport 91 = .ok (.iload 4, 2) := by decide +kernel
theorem dX12_setSupport_93 : decode cX12_setSupport 93 = .ok (.iconst (-1), 1) := by decide +kernel
theorem dX12_setSupport_94 : decode cX12_setSupport 94 = .ok (.iastore, 1) := by decide +kernel
theorem dX12_setSupport_95 : decode cX12_setSupport 95 = .ok (.iinc 4 1, 3) := by decide +kernel
theorem dX12_setSupport_98 : decode cX12_setSupport 98 = .ok (.goto (-37), 3) := by decide +kernel
theorem dX12_setSupport_101 : decode cX12_setSupport 101 = .ok (.iload_n 3, 1) := by decide +kernel
theorem dX12_setSupport_102 : decode cX12_setSupport 102 = .ok (.ireturn, 1) := by decide +kernel
set_option maxRecDepth 20000 in
theorem ggX12_due_X12_effective : GoodIn wsX12_due wsX12_effective := goodIn_ca ((goodIn_ca (goodIn_r _ [10, 3, 11, 12, 13, 9, 14, 15, 16, 17, 18, 19, 20, 21, 22] rfl (by decide +kernel)) (goodIn_sub (fun _ h => List.mem_cons_of_mem _ (List.mem_append_left _ (List.mem_append_right _ h))) gw_wsX120))) (goodIn_sub (fun _ h => List.mem_cons_of_mem _ (List.mem_append_right _ h)) (all_fg _))
set_option maxRecDepth 20000 in
theorem gX12_due_X12_effective : GoodIn wsX12_due (wsV RX12 192 RX12 yX12_effective wsX12_effective) := goodIn_app (goodIn_m (mem_cA (List.mem_cons_of_mem _ (List.mem_append_left _ (List.mem_append_left _ (List.mem_of_getElem? (i := 5) rfl)))) (mem_cA (List.mem_cons_of_mem _ (List.mem_append_left _ (List.mem_append_left _ (List.mem_of_getElem? (i := 6) rfl)))) (mem_cA (List.mem_cons_of_mem _ (List.mem_append_left _ (List.mem_append_left _ (List.mem_of_getElem? (i := 7) rfl)))) (mem_cA (List.mem_cons_of_mem _ (List.mem_append_left _ (List.mem_append_left _ (List.mem_of_getElem? (i := 8) rfl)))) mem_cZ)))) (by decide +kernel)) ggX12_due_X12_effective
theorem dX12_due_0 : decode cX12_due 0 = .ok (.aload_n 0, 1) := by decide +kernel
theorem dX12_due_1 : decode cX12_due 1 = .ok (.iload_n 1, 1) := by decide +kernel
theorem dX12_due_2 : decode cX12_due 2 = .ok (.invokevirtual 192, 3) := by decide +kernel
theorem dX12_due_5 : decode cX12_due 5 = .ok (.ifCond .ne 5, 3) := by decide +kernel
theorem dX12_due_8 : decode cX12_due 8 = .ok (.iconst 0, 1) := by decide +kernel
theorem dX12_due_9 : decode cX12_due 9 = .ok (.ireturn, 1) := by decide +kernel
theorem dX12_due_10 : decode cX12_due 10 = .ok (.aload_n 0, 1) := by decide +kernel
theorem dX12_due_11 : decode cX12_due 11 = .ok (.getfield 20, 3) := by decide +kernel
theorem dX12_due_14 : decode cX12_due 14 = .ok (.iload_n 1, 1) := by decide +kernel
theorem dX12_due_15 : decode cX12_due 15 = .ok (.iaload, 1) := by decide +kernel
theorem dX12_due_16 : decode cX12_due 16 = .ok (.iconst (-1), 1) := by decide +kernel
theorem dX12_due_17 : decode cX12_due 17 = .ok (.if_icmp .eq 45, 3) := by decide +kernel
theorem dX12_due_20 : decode cX12_due 20 = .ok (.aload_n 0, 1) := by decide +kernel
theorem dX12_due_21 : decode cX12_due 21 = .ok (.getfield 142, 3) := by decide +kernel
theorem dX12_due_24 : decode cX12_due 24 = .ok (.aload_n 0, 1) := by decide +kernel
theorem dX12_due_25 : decode cX12_due 25 = .ok (.getfield 20, 3) := by decide +kernel
theorem dX12_due_28 : decode cX12_due 28 = .ok (.iload_n 1, 1) := by decide +kernel
theorem dX12_due_29 : decode cX12_due 29 = .ok (.iaload, 1) := by decide +kernel
theorem dX12_due_30 : decode cX12_due 30 = .ok (.isub, 1) := by decide +kernel
theorem dX12_due_31 : decode cX12_due 31 = .ok (.iconst 1, 1) := by decide +kernel
theorem dX12_due_32 : decode cX12_due 32 = .ok (.isub, 1) := by decide +kernel
theorem dX12_due_33 : decode cX12_due 33 = .ok (.aload_n 0, 1) := by decide +kernel
theorem dX12_due_34 : decode cX12_due 34 = .ok (.getfield 17, 3) := by decide +kernel
theorem dX12_due_37 : decode cX12_due 37 = .ok (.iconst 4, 1) := by decide +kernel
theorem dX12_due_38 : decode cX12_due 38 = .ok (.iaload, 1) := by decide +kernel
theorem dX12_due_39 : decode cX12_due 39 = .ok (.if_icmp .ge 23, 3) := by decide +kernel
theorem dX12_due_42 : decode cX12_due 42 = .ok (.aload_n 0, 1) := by decide +kernel
theorem dX12_due_43 : decode cX12_due 43 = .ok (.getfield 101, 3) := by decide +kernel
theorem dX12_due_46 : decode cX12_due 46 = .ok (.aload_n 0, 1) := by decide +kernel
theorem dX12_due_47 : decode cX12_due 47 = .ok (.getfield 23, 3) := by decide +kernel
theorem dX12_due_50 : decode cX12_due 50 = .ok (.iload_n 1, 1) := by decide +kernel
theorem dX12_due_51 : decode cX12_due 51 = .ok (.iaload, 1) := by decide +kernel
theorem dX12_due_52 : decode cX12_due 52 = .ok (.isub, 1) := by decide +kernel
theorem dX12_due_53 : decode cX12_due 53 = .ok (.aload_n 0, 1) := by decide +kernel
theorem dX12_due_54 : decode cX12_due 54 = .ok (.getfield 17, 3) := by decide +kernel
theorem dX12_due_57 : decode cX12_due 57 = .ok (.iconst 5, 1) := by decide +kernel
theorem dX12_due_58 : decode cX12_due 58 = .ok (.iaload, 1) := by decide +kernel
theorem dX12_due_59 : decode cX12_due 59 = .ok (.if_icmp .lt 7, 3) := by decide +kernel
theorem dX12_due_62 : decode cX12_due 62 = .ok (.iconst 1, 1) := by decide +kernel
theorem dX12_due_63 : decode cX12_due 63 = .ok (.goto 4, 3) := by decide +kernel
theorem dX12_due_66 : decode cX12_due 66 = .ok (.iconst 0, 1) := by decide +kernel
theorem dX12_due_67 : decode cX12_due 67 = .ok (.ireturn, 1) := by decide +kernel
set_option maxRecDepth 20000 in
theorem ggX12_isDue_X12_isTemplate : GoodIn wsX12_isDue wsX12_isTemplate := goodIn_ca ((goodIn_ca (goodIn_r _ [6, 7, 8, 9, 5, 10] rfl (by decide +kernel)) (goodIn_sub (fun _ h => List.mem_cons_of_mem _ (List.mem_append_left _ (List.mem_append_right _ h))) gw_wsX120))) (goodIn_sub (fun _ h => List.mem_cons_of_mem _ (List.mem_append_right _ h)) (all_fg _))
set_option maxRecDepth 20000 in
theorem gX12_isDue_X12_isTemplate : GoodIn wsX12_isDue (wsV RX12 181 RX12 yX12_isTemplate wsX12_isTemplate) := goodIn_app (goodIn_m (mem_cA (List.mem_cons_of_mem _ (List.mem_append_left _ (List.mem_append_left _ (List.mem_append_left _ (List.mem_of_getElem? (i := 1) rfl))))) (mem_cA (List.mem_cons_of_mem _ (List.mem_append_left _ (List.mem_append_left _ (List.mem_append_left _ (List.mem_of_getElem? (i := 2) rfl))))) (mem_cA (List.mem_cons_of_mem _ (List.mem_append_left _ (List.mem_append_left _ (List.mem_append_left _ (List.mem_of_getElem? (i := 3) rfl))))) (mem_cA (List.mem_cons_of_mem _ (List.mem_append_left _ (List.mem_append_left _ (List.mem_append_left _ (List.mem_of_getElem? (i := 4) rfl))))) mem_cZ)))) (by decide +kernel)) ggX12_isDue_X12_isTemplate
set_option maxRecDepth 20000 in
theorem ggX12_isDue_X12_throwsIf : GoodIn wsX12_isDue wsX12_throwsIf := (goodIn_ca (goodIn_r _ [14, 1] rfl (by decide +kernel)) (goodIn_sub (fun _ h => List.mem_cons_of_mem _ (List.mem_append_left _ (List.mem_append_right _ h))) gw_wsX120))
set_option maxRecDepth 20000 in
theorem gX12_isDue_X12_throwsIf : GoodIn wsX12_isDue (wsV RX12 185 RX12 yX12_throwsIf wsX12_throwsIf) := goodIn_app (goodIn_m (mem_cA (List.mem_cons_of_mem _ (List.mem_append_left _ (List.mem_append_left _ (List.mem_append_left _ (List.mem_of_getElem? (i := 10) rfl))))) (mem_cA (List.mem_cons_of_mem _ (List.mem_append_left _ (List.mem_append_left _ (List.mem_append_left _ (List.mem_of_getElem? (i := 11) rfl))))) (mem_cA (List.mem_cons_of_mem _ (List.mem_append_left _ (List.mem_append_left _ (List.mem_append_left _ (List.mem_of_getElem? (i := 12) rfl))))) (mem_cA (List.mem_cons_of_mem _ (List.mem_append_left _ (List.mem_append_left _ (List.mem_append_left _ (List.mem_of_getElem? (i := 4) rfl))))) mem_cZ)))) (by decide +kernel)) ggX12_isDue_X12_throwsIf
set_option maxRecDepth 20000 in
theorem ggX12_isDue_X12_due : GoodIn wsX12_isDue wsX12_due := goodIn_ca ((goodIn_ca (goodIn_r _ [18, 19, 20, 7, 21, 22, 23, 24, 25, 5, 26, 27, 28, 29, 30, 31, 32, 33, 34, 35, 36, 37, 38] rfl (by decide +kernel)) (goodIn_sub (fun _ h => List.mem_cons_of_mem _ (List.mem_append_left _ (List.mem_append_right _ h))) gw_wsX120))) (goodIn_sub (fun _ h => List.mem_cons_of_mem _ (List.mem_append_right _ h)) (all_fg _))
set_option maxRecDepth 20000 in
theorem gX12_isDue_X12_due : GoodIn wsX12_isDue (wsV RX12 209 RX12 yX12_due wsX12_due) := goodIn_app (goodIn_m (mem_cA (List.mem_cons_of_mem _ (List.mem_append_left _ (List.mem_append_left _ (List.mem_append_left _ (List.mem_of_getElem? (i := 14) rfl))))) (mem_cA (List.mem_cons_of_mem _ (List.mem_append_left _ (List.mem_append_left _ (List.mem_append_left _ (List.mem_of_getElem? (i := 15) rfl))))) (mem_cA (List.mem_cons_of_mem _ (List.mem_append_left _ (List.mem_append_left _ (List.mem_append_left _ (List.mem_of_getElem? (i := 16) rfl))))) (mem_cA (List.mem_cons_of_mem _ (List.mem_append_left _ (List.mem_append_left _ (List.mem_append_left _ (List.mem_of_getElem? (i := 4) rfl))))) mem_cZ)))) (by decide +kernel)) ggX12_isDue_X12_due
theorem dX12_isDue_0 : decode cX12_isDue 0 = .ok (.aload_n 0, 1) := by decide +kernel
theorem dX12_isDue_1 : decode cX12_isDue 1 = .ok (.iconst 0, 1) := by decide +kernel
theorem dX12_isDue_2 : decode cX12_isDue 2 = .ok (.putfield 1, 3) := by decide +kernel
theorem dX12_isDue_5 : decode cX12_isDue 5 = .ok (.aload_n 0, 1) := by decide +kernel
theorem dX12_isDue_6 : decode cX12_isDue 6 = .ok (.aload_n 0, 1) := by decide +kernel
theorem dX12_isDue_7 : decode cX12_isDue 7 = .ok (.iload_n 1, 1) := by decide +kernel
theorem dX12_isDue_8 : decode cX12_isDue 8 = .ok (.invokevirtual 181, 3) := by decide +kernel
theorem dX12_isDue_11 : decode cX12_isDue 11 = .ok (.ifCond .ne 7, 3) := by decide +kernel
theorem dX12_isDue_14 : decode cX12_isDue 14 = .ok (.iconst 1, 1) := by decide +kernel
theorem dX12_isDue_15 : decode cX12_isDue 15 = .ok (.goto 4, 3) := by decide +kernel
theorem dX12_isDue_18 : decode cX12_isDue 18 = .ok (.iconst 0, 1) := by decide +kernel
theorem dX12_isDue_19 : decode cX12_isDue 19 = .ok (.iconst 1, 1) := by decide +kernel
theorem dX12_isDue_20 : decode cX12_isDue 20 = .ok (.invokevirtual 185, 3) := by decide +kernel
theorem dX12_isDue_23 : decode cX12_isDue 23 = .ok (.ifCond .ne 15, 3) := by decide +kernel
theorem dX12_isDue_26 : decode cX12_isDue 26 = .ok (.aload_n 0, 1) := by decide +kernel
theorem dX12_isDue_27 : decode cX12_isDue 27 = .ok (.iload_n 1, 1) := by decide +kernel
theorem dX12_isDue_28 : decode cX12_isDue 28 = .ok (.invokevirtual 209, 3) := by decide +kernel
theorem dX12_isDue_31 : decode cX12_isDue 31 = .ok (.ifCond .eq 7, 3) := by decide +kernel
theorem dX12_isDue_34 : decode cX12_isDue 34 = .ok (.iconst 1, 1) := by decide +kernel
theorem dX12_isDue_35 : decode cX12_isDue 35 = .ok (.goto 4, 3) := by decide +kernel
theorem dX12_isDue_38 : decode cX12_isDue 38 = .ok (.iconst 0, 1) := by decide +kernel
theorem dX12_isDue_39 : decode cX12_isDue 39 = .ok (.ireturn, 1) := by decide +kernel
set_option maxHeartbeats 4000000 in
set_option maxRecDepth 100000 in
theorem r_setSupportC (G : EnvG) (l : Launch) (Φ : Hm) (sz x : Nat) (rd : (Nat → Int32) → Prop) (cr : (Nat → Int64) → Prop) (tp : (Nat → Int32) → Prop) (tt : (Nat → Int64) → Prop) (sT : (Nat → Int32) → Prop) (pt : (Nat → Int32) → Prop) (ql : (Nat → Int32) → Prop) (fl : Nat) (pe : Nat) (le : Nat) (nx : Nat) (il : Nat) (qu : Nat) (kn : Int32) (ec : Int32) (nu : Int32) (va : Int64) (st : Nat) (ep : Int32) (ti : Int32) (ad : Int32) (ob : Int64) (ra : Int32) (rt : Nat) (ex : Int32) (sa : Int64) (us : Int64) (tk : Nat) (th : Int32) (me : Int32) (dr : Int32) (se : Int64) (sn : Int64) (c : Cf) (fa : Nat → Int32) (a : Int32) (b : Int32) (hx : G.2.2.2 ≤ x) (hI : Im G x (rd, (NNq c), cr, tp, tt, (SiQ fa), sT, pt, ql, fl, pe, le, nx, il, qu, kn, ec, nu, va, st, ep, ti, ad, ob, ra, rt, ex, sa, us, tk, th, me, dr, se, sn) Φ) (hb : b = 0 ∨ b = 1) (hg : CfG c) : Ct G l yX12_setSupport wsX12_setSupport ({ frames := 2, cells := 0, slots := 0, locals := 45 }) 0 0 [.ref x, .int a, .int b] Φ sz (fun v Φ1 sz1 => (∃ r9 : Int32, v = some (.int r9)) ∧ sz1 = sz ∧ (∃ (cf1 : Cf) (fa1 : Nat → Int32) (th1 : Int32), ((¬ InF a ∧ v = some (.int 0) ∧ cf1 = c ∧ ∃ l9 : List Value, Φ1 x = some (o_ 14 (.int 1 :: l9))) ∨ (InF a ∧ v = some (.int (suV c a)) ∧ cf1 = suC c a b ∧ ∃ l9 : List Value, Φ1 x = some (o_ 14 (.int 0 :: l9)))) ∧ ((¬ InF a ∧ fa1 = fa) ∨ (InF a ∧ fa1 = suS c a b fa)) ∧ Im G x (rd, (NNq cf1), cr, tp, tt, (SiQ fa1), sT, pt, ql, fl, pe, le, nx, il, qu, kn, ec, nu, va, st, ep, ti, ad, ob, ra, rt, ex, sa, us, tk, th1, me, dr, se, sn) Φ1) ∧ Fr x (fun j9 => j9 = 0 ∨ j9 = 2 ∨ j9 = 3) Φ Φ1) := by
  refine Ct.of (cc := cX12_setSupport) (maxL := 5) (ret := (some .boolean)) (by decide) rfl (Nat.le_of_ble_eq_true rfl) ?_
  intro p9 e9 s9 m9 w9 t9 k9 B
  show Z p9 l e9 _ s9 m9 _ w9 t9 k9 _ G 5 0 [(0, .ref x), (1, .int a), (2, .int b)] [] Φ sz 0 0
  refine z_aload_n B dX12_setSupport_0 rfl 0 rfl ?_
  refine z_iconst (v := 0) B dX12_setSupport_1 rfl ?_
  obtain ⟨n_1, v_1, n_2, h_1, b_13, b_1, b_2, b_3, b_4, b_5, b_6, b_7, b_8, b_9, b_10, b_11, b_12⟩ := im0 hI
  replace b_1 : 1 ≤ rt := b_1
  replace b_2 : rt ≤ 1024 := b_2
  replace b_3 : fl ≤ 12 := b_3
  replace b_4 : pe ≤ 24 := b_4
  replace b_5 : le ≤ 700 := b_5
  replace b_6 : qu ≤ 12 := b_6
  replace b_7 : n_1 ≤ 8 := b_7
  replace b_8 : n_2 ≤ 24 := b_8
  replace b_9 : tk ≤ 24 := b_9
  replace b_10 : il ≤ 700 := b_10
  replace b_11 : nx ≤ 701 := b_11
  replace b_12 : st ≤ 701 := b_12
  have h_2 : Φ x = some (o_ 14 [.int th, .ref (x + 1), .ref (x + 2), .int ti, .int ra, .int (nI rt), .int ex, .int ad, .ref (x + 3), .ref (x + 4), .int me, .long se, .ref (x + 5), .int (nI fl), .int dr, .long ob, .long sa, .long sn, .long us, .ref (x + 6), .ref (x + 7), .int (nI pe), .ref (x + 8), .int (nI le), .ref (x + 9), .ref (x + 10), .int (nI qu), .ref (x + 11), .ref (x + 12), .ref (x + 13), .ref (x + 14), .ref (x + 15), .ref (x + 16), .int (nI n_1), .long v_1, .ref (x + 17), .ref (x + 18), .ref (x + 19), .ref (x + 20), .ref (x + 21), .ref (x + 22), .int (nI n_2), .ref (x + 23), .ref (x + 24), .int (nI tk), .ref (x + 25), .int (nI il), .int (nI nx), .int ec, .int ep, .int kn, .int (nI st), .int nu, .long va]) := h_1
  refine z_put (ref := "FlowExporterModel") (C := RX12) (T := TX12) (N := 54) (ci := 14) (v := .int 0) B hu_X12_setSupport_X12 tyX12 tyX12_ok nmX12 rfl 0 (Nat.le_of_ble_eq_true rfl) hv_X12_setSupport_1 rfl (Or.inl rfl) h_2 hx rfl rfl (Nat.le_of_ble_eq_true rfl) dX12_setSupport_2 (fun Φ1 hΦ1 => ?_)
  have h_3 : Φ1 x = some (o_ 14 [.int 0, .ref (x + 1), .ref (x + 2), .int ti, .int ra, .int (nI rt), .int ex, .int ad, .ref (x + 3), .ref (x + 4), .int me, .long se, .ref (x + 5), .int (nI fl), .int dr, .long ob, .long sa, .long sn, .long us, .ref (x + 6), .ref (x + 7), .int (nI pe), .ref (x + 8), .int (nI le), .ref (x + 9), .ref (x + 10), .int (nI qu), .ref (x + 11), .ref (x + 12), .ref (x + 13), .ref (x + 14), .ref (x + 15), .ref (x + 16), .int (nI n_1), .long v_1, .ref (x + 17), .ref (x + 18), .ref (x + 19), .ref (x + 20), .ref (x + 21), .ref (x + 22), .int (nI n_2), .ref (x + 23), .ref (x + 24), .int (nI tk), .ref (x + 25), .int (nI il), .int (nI nx), .int ec, .int ep, .int kn, .int (nI st), .int nu, .long va]) := fset_at hΦ1
  have hI1 : Im G x (rd, (NNq c), cr, tp, tt, (SiQ fa), sT, pt, ql, fl, pe, le, nx, il, qu, kn, ec, nu, va, st, ep, ti, ad, ob, ra, rt, ex, sa, us, tk, 0, me, dr, se, sn) Φ1 := Im.put0 hI hΦ1 ⟨n_1, v_1, n_2, rfl, b_13, b_1, b_2, b_3, b_4, b_5, b_6, b_7, b_8, b_9, b_10, b_11, b_12⟩
  refine z_aload_n B dX12_setSupport_5 rfl 0 rfl ?_
  refine z_iload_n B dX12_setSupport_6 rfl 1 rfl ?_
  refine z_i2l (v := a.toInt64) B dX12_setSupport_7 rfl ?_
  refine z_lconst (v := 0) B dX12_setSupport_8 rfl ?_
  refine z_ldc2 (v := 8) B (by decide +kernel) dX12_setSupport_9 ?_
  by_cases hR1 : inP a.toInt64 0 8
  · obtain ⟨n_3, e_1, e_2, e_3, rfl⟩ := in_get (L := 0) (H := 8) (by decide) (by decide) hR1
    refine z_callS (As := [.long ((nI n_3).toInt64), .long 0, .long 8]) (rest := [.ref x]) B (c_inR1 G l Φ1 sz ((nI n_3).toInt64) 0 8 hR1 (fun v8 Φ8 sz8 => v8 = some (.int 1) ∧ sz8 = sz ∧ Im G x (rd, (NNq c), cr, tp, tt, (SiQ fa), sT, pt, ql, fl, pe, le, nx, il, qu, kn, ec, nu, va, st, ep, ti, ad, ob, ra, rt, ex, sa, us, tk, 0, me, dr, se, sn) Φ8 ∧ Fr x (fun j9 => False) Φ1 Φ8) ⟨rfl, rfl, hI1, fun _ _ => rfl⟩) (va_cwS 3 B.1.2.2.2.2 gX12_setSupport_X12_inRange rfl rfl rfl (by decide +kernel) ⟨Nat.le_of_ble_eq_true rfl, Nat.le_of_ble_eq_true rfl⟩) rfl rfl (Nat.le_of_ble_eq_true rfl) dX12_setSupport_12 ⟨Nat.le_of_ble_eq_true rfl, Nat.le_of_ble_eq_true rfl⟩ (fun r_1 Φ2 sz1 st1 hp1 hs1 => ?_)
    obtain ⟨rfl, hq1, hI2, hF1⟩ := hp1
    subst sz1
    replace hs1 : st1 = [.int 1, .ref x] := hs1
    subst st1
    refine z_if_ne (tgt := 22) B dX12_setSupport_15 rfl (fun c_1 => ?_) (fun h9 => absurd h9 (by decide))
    refine z_iconst (v := 0) B dX12_setSupport_22 rfl ?_
    refine z_iconst (v := 1) B dX12_setSupport_23 rfl ?_
    have h_4 : Φ2 x = some (o_ 14 [.int 0, .ref (x + 1), .ref (x + 2), .int ti, .int ra, .int (nI rt), .int ex, .int ad, .ref (x + 3), .ref (x + 4), .int me, .long se, .ref (x + 5), .int (nI fl), .int dr, .long ob, .long sa, .long sn, .long us, .ref (x + 6), .ref (x + 7), .int (nI pe), .ref (x + 8), .int (nI le), .ref (x + 9), .ref (x + 10), .int (nI qu), .ref (x + 11), .ref (x + 12), .ref (x + 13), .ref (x + 14), .ref (x + 15), .ref (x + 16), .int (nI n_1), .long v_1, .ref (x + 17), .ref (x + 18), .ref (x + 19), .ref (x + 20), .ref (x + 21), .ref (x + 22), .int (nI n_2), .ref (x + 23), .ref (x + 24), .int (nI tk), .ref (x + 25), .int (nI il), .int (nI nx), .int ec, .int ep, .int kn, .int (nI st), .int nu, .long va]) := ((hF1 x (fun j9 h8 h7 => (show False from h7).elim)).trans h_3)
    refine z_callV (As := [.int 0, .int 1]) (rest := []) B (r_throwsIf0 G l Φ2 sz x rd (NNq c) cr tp tt (SiQ fa) sT pt ql fl pe le nx il qu kn ec nu va st ep ti ad ob ra rt ex sa us tk 0 me dr se sn  hx hI2 (fun f9 h9 => h9.1)) (cwV 2 B.1.2.2.2.2 gX12_setSupport_X12_throwsIf rfl rfl rfl (by decide +kernel) ⟨Nat.le_of_ble_eq_true rfl, Nat.le_of_ble_eq_true rfl⟩) h_4 rfl rfl rfl rfl (Nat.le_of_ble_eq_true rfl) dX12_setSupport_24 ⟨Nat.le_of_ble_eq_true rfl, Nat.le_of_ble_eq_true rfl⟩ (fun r_2 Φ3 sz2 st2 hp2 hs2 => ?_)
    obtain ⟨rfl, hq2, hI3, hF2⟩ := hp2
    subst sz2
    replace hs2 : st2 = [.int 0] := hs2
    subst st2
    replace hI3 : Im G x (rd, (NNq c), cr, tp, tt, (SiQ fa), sT, pt, ql, fl, pe, le, nx, il, qu, kn, ec, nu, va, st, ep, ti, ad, ob, ra, rt, ex, sa, us, tk, 0, me, dr, se, sn) Φ3 := hI3
    refine z_if_eq (tgt := 32) B dX12_setSupport_27 rfl (fun c_2 => ?_) (fun h9 => absurd (by decide) h9)
    refine z_aload_n B dX12_setSupport_32 rfl 0 rfl ?_
    refine z_iload_n B dX12_setSupport_33 rfl 1 rfl ?_
    have h_5 : Φ3 x = some (o_ 14 [.int 0, .ref (x + 1), .ref (x + 2), .int ti, .int ra, .int (nI rt), .int ex, .int ad, .ref (x + 3), .ref (x + 4), .int me, .long se, .ref (x + 5), .int (nI fl), .int dr, .long ob, .long sa, .long sn, .long us, .ref (x + 6), .ref (x + 7), .int (nI pe), .ref (x + 8), .int (nI le), .ref (x + 9), .ref (x + 10), .int (nI qu), .ref (x + 11), .ref (x + 12), .ref (x + 13), .ref (x + 14), .ref (x + 15), .ref (x + 16), .int (nI n_1), .long v_1, .ref (x + 17), .ref (x + 18), .ref (x + 19), .ref (x + 20), .ref (x + 21), .ref (x + 22), .int (nI n_2), .ref (x + 23), .ref (x + 24), .int (nI tk), .ref (x + 25), .int (nI il), .int (nI nx), .int ec, .int ep, .int kn, .int (nI st), .int nu, .long va]) := ((hF2 x (fun j9 h8 h7 => (show False from h7).elim)).trans h_4)
    refine z_callV (As := [.int (nI n_3)]) (rest := []) B (r_isSupportedC G l Φ3 sz x rd cr tp tt (SiQ fa) sT pt ql fl pe le nx il qu kn ec nu va st ep ti ad ob ra rt ex sa us tk 0 me dr se sn c (nI n_3) hx hI3 ) (cwV 1 B.1.2.2.2.2 gX12_setSupport_X12_isSupported rfl rfl rfl (by decide +kernel) ⟨Nat.le_of_ble_eq_true rfl, Nat.le_of_ble_eq_true rfl⟩) h_5 rfl rfl rfl rfl (Nat.le_of_ble_eq_true rfl) dX12_setSupport_34 ⟨Nat.le_of_ble_eq_true rfl, Nat.le_of_ble_eq_true rfl⟩ (fun r_3 Φ4 sz3 st3 hp3 hs3 => ?_)
    obtain ⟨rfl, hq3, hI4, hF3⟩ := hp3
    subst sz3
    replace hs3 : st3 = [.int (suV c (nI n_3))] := hs3
    subst st3
    have hb1 := suV_01 c (nI n_3)
    replace hI4 : Im G x (rd, (NNq c), cr, tp, tt, (SiQ fa), sT, pt, ql, fl, pe, le, nx, il, qu, kn, ec, nu, va, st, ep, ti, ad, ob, ra, rt, ex, sa, us, tk, 0, me, dr, se, sn) Φ4 := hI4
    refine z_istore_n (lv' := [(3, .int (suV c (nI n_3))), (0, .ref x), (1, .int (nI n_3)), (2, .int b)]) B dX12_setSupport_37 rfl (Nat.le_of_ble_eq_true rfl) rfl ?_
    refine z_iload_n B dX12_setSupport_38 rfl 0 rfl ?_
    refine z_iload_n B dX12_setSupport_39 rfl 3 rfl ?_
    refine z_icmp_ne (tgt := 45) B dX12_setSupport_40 rfl (fun c_3 => ?_) (fun c_3 => ?_)
    · refine z_aload_n B dX12_setSupport_45 rfl 1 rfl ?_
      have h_6 : Φ4 x = some (o_ 14 [.int 0, .ref (x + 1), .ref (x + 2), .int ti, .int ra, .int (nI rt), .int ex, .int ad, .ref (x + 3), .ref (x + 4), .int me, .long se, .ref (x + 5), .int (nI fl), .int dr, .long ob, .long sa, .long sn, .long us, .ref (x + 6), .ref (x + 7), .int (nI pe), .ref (x + 8), .int (nI le), .ref (x + 9), .ref (x + 10), .int (nI qu), .ref (x + 11), .ref (x + 12), .ref (x + 13), .ref (x + 14), .ref (x + 15), .ref (x + 16), .int (nI n_1), .long v_1, .ref (x + 17), .ref (x + 18), .ref (x + 19), .ref (x + 20), .ref (x + 21), .ref (x + 22), .int (nI n_2), .ref (x + 23), .ref (x + 24), .int (nI tk), .ref (x + 25), .int (nI il), .int (nI nx), .int ec, .int ep, .int kn, .int (nI st), .int nu, .long va]) := ((hF3 x (fun j9 h8 h7 => (show False from h7).elim)).trans h_5)
      refine z_get (ref := "FlowExporterModel") (C := RX12) (T := TX12) (N := 54) (ci := 14) (v := .ref (x + 2)) B hu_X12_setSupport_X12 rfl 2 (Nat.le_of_ble_eq_true rfl) hv_X12_setSupport_17 rfl h_6 rfl dX12_setSupport_46 ?_
      refine z_bipush (v := 9) B dX12_setSupport_49 rfl ?_
      refine z_dup2_11 B dX12_setSupport_51 rfl rfl ?_
      obtain ⟨f_1, h_7, r_4⟩ := imk (k := 2) hI4
      replace r_4 : (NNq c) f_1 := r_4
      have r_5 : NN f_1 := r_4.1
      have h_8 : Φ4 (x + 2) = some (ai_ G 307 f_1) := h_7
      refine z_iald B h_8 (vin rfl) dX12_setSupport_52 ?_
      refine z_iconst (v := 1) B dX12_setSupport_53 rfl ?_
      refine z_iload_n B dX12_setSupport_54 rfl 2 rfl ?_
      refine z_ishl B dX12_setSupport_55 ?_
      refine z_ixor B dX12_setSupport_56 ?_
      refine z_iast B h_8 (Nat.le_trans hx (Nat.le_add_right x 2)) (vin rfl) dX12_setSupport_57 (fun Φ5 hΦ2 => ?_)
      have h_9 : Φ5 (x + 2) = some (ai_ G 307 (upd f_1 (9 : Int32).toNatClampNeg ((f_1 (9 : Int32).toNatClampNeg) ^^^ (1 <<< ((nI n_3) &&& 31))))) := fset_at hΦ2
      have hI5 : Im G x (rd, (NNq (suC c (nI n_3) b)), cr, tp, tt, (SiQ fa), sT, pt, ql, fl, pe, le, nx, il, qu, kn, ec, nu, va, st, ep, ti, ad, ob, ra, rt, ex, sa, us, tk, 0, me, dr, se, sn) Φ5 := Im.put2 (nw1 := (NNq (suC c (nI n_3) b))) hI4 hΦ2 (su_row r_4 c_3 rfl)
      refine z_iconst (v := 0) B dX12_setSupport_58 rfl ?_
      refine z_istore (lv' := [(4, .int 0), (3, .int (suV c (nI n_3))), (0, .ref x), (1, .int (nI n_3)), (2, .int b)]) B dX12_setSupport_59 (Nat.le_of_ble_eq_true rfl) rfl ?_
      refine z_lv [0, 1, 2, 3, 4] rfl ?_
      refine z_loop (α := Nat) (fun (a9 : Nat) Φi => Im G x (rd, (NNq (suC c (nI n_3) b)), cr, tp, tt, (FgZ (suC c (nI n_3) b) (nI n_3) fa a9), sT, pt, ql, fl, pe, le, nx, il, qu, kn, ec, nu, va, st, ep, ti, ad, ob, ra, rt, ex, sa, us, tk, 0, me, dr, se, sn) Φi ∧ Fr x (fun j9 => j9 = 3) Φ5 Φi ∧ (a9 ≤ 4) ∧ True) (fun a9 => [(4, .int (nI a9)), (3, .int (suV c (nI n_3))), (0, .ref x), (1, .int (nI n_3)), (2, .int b)]) (fun a9 => 4 - a9) ?_ (0) ⟨(Im.weak5 hI5 (fun _ q9 => q9) (fun _ q9 => q9) (fun _ q9 => q9) (fun _ q9 => q9) (fun _ q9 => q9) (fun _ q9 => FgZ.z q9) (fun _ q9 => q9) (fun _ q9 => q9) (fun _ q9 => q9)), fun _ _ => rfl, (show 0 ≤ 4 by omega), trivial⟩
      rintro i_1 Φl1 ⟨hI6, hF4, b_14, -⟩ ih1
      replace hI6 : Im G x (rd, (NNq (suC c (nI n_3) b)), cr, tp, tt, (FgZ (suC c (nI n_3) b) (nI n_3) fa i_1), sT, pt, ql, fl, pe, le, nx, il, qu, kn, ec, nu, va, st, ep, ti, ad, ob, ra, rt, ex, sa, us, tk, 0, me, dr, se, sn) Φl1 := hI6
      replace b_14 : i_1 ≤ 4 := b_14
      show Z p9 l e9 _ s9 m9 _ w9 t9 k9 _ G 5 61 [(4, .int (nI i_1)), (3, .int (suV c (nI n_3))), (0, .ref x), (1, .int (nI n_3)), (2, .int b)] [] Φl1 _ _ _
      refine z_iload B dX12_setSupport_61 0 rfl ?_
      refine z_aload_n B dX12_setSupport_63 rfl 2 rfl ?_
      have h_10 : Φl1 x = some (o_ 14 [.int 0, .ref (x + 1), .ref (x + 2), .int ti, .int ra, .int (nI rt), .int ex, .int ad, .ref (x + 3), .ref (x + 4), .int me, .long se, .ref (x + 5), .int (nI fl), .int dr, .long ob, .long sa, .long sn, .long us, .ref (x + 6), .ref (x + 7), .int (nI pe), .ref (x + 8), .int (nI le), .ref (x + 9), .ref (x + 10), .int (nI qu), .ref (x + 11), .ref (x + 12), .ref (x + 13), .ref (x + 14), .ref (x + 15), .ref (x + 16), .int (nI n_1), .long v_1, .ref (x + 17), .ref (x + 18), .ref (x + 19), .ref (x + 20), .ref (x + 21), .ref (x + 22), .int (nI n_2), .ref (x + 23), .ref (x + 24), .int (nI tk), .ref (x + 25), .int (nI il), .int (nI nx), .int ec, .int ep, .int kn, .int (nI st), .int nu, .long va]) := ((hF4 x fq_920).trans ((fset_fr hΦ2 (ne_off (x := x) (i := 0) (j := 2) rfl)).trans h_6))
      refine z_get (ref := "FlowExporterModel") (C := RX12) (T := TX12) (N := 54) (ci := 14) (v := .ref (x + 2)) B hu_X12_setSupport_X12 rfl 2 (Nat.le_of_ble_eq_true rfl) hv_X12_setSupport_17 rfl h_10 rfl dX12_setSupport_64 ?_
      refine z_bipush (v := 10) B dX12_setSupport_67 rfl ?_
      obtain ⟨f_2, h_11, r_6⟩ := imk (k := 2) hI6
      replace r_6 : (NNq (suC c (nI n_3) b)) f_2 := r_6
      have r_7 : NN f_2 := r_6.1
      have h_12 : Φl1 (x + 2) = some (ai_ G 307 f_2) := h_11
      refine z_iald B h_12 (vin rfl) dX12_setSupport_69 ?_
      obtain ⟨n_4, b_15, e_4⟩ := r_7.2.2.2.2.1
      refine z_top (st1 := [.int (nI n_4), .int (nI i_1)]) (congrArg (fun w9 : Int32 => ([.int w9, .int (nI i_1)] : List Value)) (e_4)) ?_
      refine z_icmp_ge (tgt := 101) B dX12_setSupport_70 rfl (fun c_4 => ?_) (fun c_4 => ?_)
      · have e_5 : n_4 ≤ i_1 := (nI_leI (a := n_4) (b := i_1) (by omega) (by omega)).mp c_4
        have hI7 : Im G x (rd, (NNq (suC c (nI n_3) b)), cr, tp, tt, (SiQ (suS c (nI n_3) b fa)), sT, pt, ql, fl, pe, le, nx, il, qu, kn, ec, nu, va, st, ep, ti, ad, ob, ra, rt, ex, sa, us, tk, 0, me, dr, se, sn) Φl1 := Im.weak5 hI6 (fun _ q9 => q9) (fun _ q9 => q9) (fun _ q9 => q9) (fun _ q9 => q9) (fun _ q9 => q9) (fun _ q9 => su_S c_3 (FgZ.f (suC_G hg) ((r_6.2 10 (by decide)).symm.trans e_4) (show n_4 ≤ i_1 by omega) q9)) (fun _ q9 => q9) (fun _ q9 => q9) (fun _ q9 => q9)
        refine z_iload_n B dX12_setSupport_101 rfl 1 rfl ?_
        exact z_ret_z B dX12_setSupport_102 hb1 ⟨⟨_, rfl⟩, rfl, ⟨suC c (nI n_3) b, (suS c (nI n_3) b fa), 0, (Or.inr ⟨⟨by rw [nI_toInt (by omega)]; omega, by rw [nI_toInt (by omega)]; omega⟩, rfl, rfl, _, h_10⟩), (Or.inr ⟨⟨by rw [nI_toInt (by omega)]; omega, by rw [nI_toInt (by omega)]; omega⟩, rfl⟩), hI7⟩, (fun b9 h9 => ((hF4 b9 (fun j9 h8 h7 => h9 j9 h8 (fq_921 j9 h7))).trans ((fset_fr hΦ2 (fun h8 => h9 (2) h8 (show 2 = 0 ∨ 2 = 2 ∨ 2 = 3 by decide))).trans ((hF3 b9 (fun j9 h8 h7 => (show False from h7).elim)).trans ((hF2 b9 (fun j9 h8 h7 => (show False from h7).elim)).trans ((hF1 b9 (fun j9 h8 h7 => (show False from h7).elim)).trans ((fset_fr hΦ1 (fun h8 => h9 (0) h8 (show 0 = 0 ∨ 0 = 2 ∨ 0 = 3 by decide))).trans rfl)))))))⟩
      · have e_6 : ¬ (n_4 ≤ i_1) := fun h9 => c_4 ((nI_leI (a := n_4) (b := i_1) (by omega) (by omega)).mpr h9)
        refine z_aload_n B dX12_setSupport_73 rfl 2 rfl ?_
        refine z_iload B dX12_setSupport_74 0 rfl ?_
        refine z_callV (As := [.int (nI i_1)]) (rest := []) B (r_fieldsOfC G l Φl1 sz x rd cr tp tt (FgZ (suC c (nI n_3) b) (nI n_3) fa i_1) sT pt ql fl pe le nx il qu kn ec nu va st ep ti ad ob ra rt ex sa us tk 0 me dr se sn (suC c (nI n_3) b) i_1 hx hI6 (show i_1 < 4 by omega)) (cwV 1 B.1.2.2.2.2 gX12_setSupport_X12_fieldsOf rfl rfl rfl (by decide +kernel) ⟨Nat.le_of_ble_eq_true rfl, Nat.le_of_ble_eq_true rfl⟩) h_10 rfl rfl rfl rfl (Nat.le_of_ble_eq_true rfl) dX12_setSupport_76 ⟨Nat.le_of_ble_eq_true rfl, Nat.le_of_ble_eq_true rfl⟩ (fun r_8 Φ6 sz4 st4 hp4 hs4 => ?_)
        obtain ⟨rfl, hq4, hI8, hF5⟩ := hp4
        subst sz4
        replace hs4 : st4 = [.int (tfF (suC c (nI n_3) b) i_1)] := hs4
        subst st4
        replace hI8 : Im G x (rd, (NNq (suC c (nI n_3) b)), cr, tp, tt, (FgZ (suC c (nI n_3) b) (nI n_3) fa i_1), sT, pt, ql, fl, pe, le, nx, il, qu, kn, ec, nu, va, st, ep, ti, ad, ob, ra, rt, ex, sa, us, tk, 0, me, dr, se, sn) Φ6 := hI8
        refine z_iload_n B dX12_setSupport_79 rfl 3 rfl ?_
        refine z_ishr B dX12_setSupport_80 ?_
        refine z_iconst (v := 1) B dX12_setSupport_81 rfl ?_
        refine z_iand B dX12_setSupport_82 ?_
        refine z_iconst (v := 1) B dX12_setSupport_83 rfl ?_
        refine z_icmp_ne (tgt := 95) B dX12_setSupport_84 rfl (fun c_5 => ?_) (fun c_5 => ?_)
        · refine z_iinc (k := 0) (v := nI (i_1 + 1)) (lv' := [(4, .int (nI (i_1 + 1))), (3, .int (suV c (nI n_3))), (0, .ref x), (1, .int (nI n_3)), (2, .int b)]) B dX12_setSupport_95 rfl (nI_add i_1 1) (Nat.le_of_ble_eq_true rfl) rfl ?_
          refine z_goto (tgt := 61) B dX12_setSupport_98 rfl ?_
          refine z_lv [0, 1, 2, 3, 4] rfl ?_
          exact ih1 (i_1 + 1) Φ6 (show 4 - (i_1 + 1) < 4 - i_1 by omega) ⟨(Im.weak5 hI8 (fun _ q9 => q9) (fun _ q9 => q9) (fun _ q9 => q9) (fun _ q9 => q9) (fun _ q9 => q9) (fun _ q9 => FgZ.n q9 (show ¬ bitI _ _ from c_5) (show i_1 < 4 by omega)) (fun _ q9 => q9) (fun _ q9 => q9) (fun _ q9 => q9)), (fun b9 h9 => ((hF5 b9 (fun j9 h8 h7 => (show False from h7).elim)).trans ((hF4 b9 h9).trans rfl))), (show (i_1 + 1) ≤ 4 by omega), trivial⟩
        · refine z_aload_n B dX12_setSupport_87 rfl 2 rfl ?_
          have h_13 : Φ6 x = some (o_ 14 [.int 0, .ref (x + 1), .ref (x + 2), .int ti, .int ra, .int (nI rt), .int ex, .int ad, .ref (x + 3), .ref (x + 4), .int me, .long se, .ref (x + 5), .int (nI fl), .int dr, .long ob, .long sa, .long sn, .long us, .ref (x + 6), .ref (x + 7), .int (nI pe), .ref (x + 8), .int (nI le), .ref (x + 9), .ref (x + 10), .int (nI qu), .ref (x + 11), .ref (x + 12), .ref (x + 13), .ref (x + 14), .ref (x + 15), .ref (x + 16), .int (nI n_1), .long v_1, .ref (x + 17), .ref (x + 18), .ref (x + 19), .ref (x + 20), .ref (x + 21), .ref (x + 22), .int (nI n_2), .ref (x + 23), .ref (x + 24), .int (nI tk), .ref (x + 25), .int (nI il), .int (nI nx), .int ec, .int ep, .int kn, .int (nI st), .int nu, .long va]) := ((hF5 x (fun j9 h8 h7 => (show False from h7).elim)).trans h_10)
          refine z_get (ref := "FlowExporterModel") (C := RX12) (T := TX12) (N := 54) (ci := 14) (v := .ref (x + 3)) B hu_X12_setSupport_X12 rfl 8 (Nat.le_of_ble_eq_true rfl) hv_X12_setSupport_20 rfl h_13 rfl dX12_setSupport_88 ?_
          refine z_iload B dX12_setSupport_91 0 rfl ?_
          refine z_iconst (v := (-1)) B dX12_setSupport_93 rfl ?_
          obtain ⟨f_3, h_14, r_9⟩ := imk (k := 3) hI8
          replace r_9 : (FgZ (suC c (nI n_3) b) (nI n_3) fa i_1) f_3 := r_9
          have h_15 : Φ6 (x + 3) = some (ai_ G 4 f_3) := h_14
          refine z_iast B h_15 (Nat.le_trans hx (Nat.le_add_right x 3)) (vp_in_nI (by omega) (by omega)) dX12_setSupport_94 (fun Φ7 hΦ3 => ?_)
          have h_16 : Φ7 (x + 3) = some (ai_ G 4 (upd f_3 (nI i_1).toNatClampNeg (-1))) := fset_at hΦ3
          have hI9 : Im G x (rd, (NNq (suC c (nI n_3) b)), cr, tp, tt, (fun g9 => g9 = (upd f_3 (nI i_1).toNatClampNeg (-1))), sT, pt, ql, fl, pe, le, nx, il, qu, kn, ec, nu, va, st, ep, ti, ad, ob, ra, rt, ex, sa, us, tk, 0, me, dr, se, sn) Φ7 := Im.put3 (sI1 := (fun g9 => g9 = (upd f_3 (nI i_1).toNatClampNeg (-1)))) hI8 hΦ3 rfl
          refine z_iinc (k := 0) (v := nI (i_1 + 1)) (lv' := [(4, .int (nI (i_1 + 1))), (3, .int (suV c (nI n_3))), (0, .ref x), (1, .int (nI n_3)), (2, .int b)]) B dX12_setSupport_95 rfl (nI_add i_1 1) (Nat.le_of_ble_eq_true rfl) rfl ?_
          refine z_goto (tgt := 61) B dX12_setSupport_98 rfl ?_
          refine z_lv [0, 1, 2, 3, 4] rfl ?_
          exact ih1 (i_1 + 1) Φ7 (show 4 - (i_1 + 1) < 4 - i_1 by omega) ⟨(Im.weak5 hI9 (fun _ q9 => q9) (fun _ q9 => q9) (fun _ q9 => q9) (fun _ q9 => q9) (fun _ q9 => q9) (eqw (FgZ.y r_9 (show bitI _ _ from c_5) (nI_clamp (by omega)))) (fun _ q9 => q9) (fun _ q9 => q9) (fun _ q9 => q9)), (fun b9 h9 => ((fset_fr hΦ3 (fun h8 => h9 (3) h8 (show 3 = 3 by decide))).trans ((hF5 b9 (fun j9 h8 h7 => (show False from h7).elim)).trans ((hF4 b9 h9).trans rfl)))), (show (i_1 + 1) ≤ 4 by omega), trivial⟩
    · refine z_iload_n B dX12_setSupport_43 rfl 0 rfl ?_
      have h_17 : Φ4 x = some (o_ 14 [.int 0, .ref (x + 1), .ref (x + 2), .int ti, .int ra, .int (nI rt), .int ex, .int ad, .ref (x + 3), .ref (x + 4), .int me, .long se, .ref (x + 5), .int (nI fl), .int dr, .long ob, .long sa, .long sn, .long us, .ref (x + 6), .ref (x + 7), .int (nI pe), .ref (x + 8), .int (nI le), .ref (x + 9), .ref (x + 10), .int (nI qu), .ref (x + 11), .ref (x + 12), .ref (x + 13), .ref (x + 14), .ref (x + 15), .ref (x + 16), .int (nI n_1), .long v_1, .ref (x + 17), .ref (x + 18), .ref (x + 19), .ref (x + 20), .ref (x + 21), .ref (x + 22), .int (nI n_2), .ref (x + 23), .ref (x + 24), .int (nI tk), .ref (x + 25), .int (nI il), .int (nI nx), .int ec, .int ep, .int kn, .int (nI st), .int nu, .long va]) := ((hF3 x (fun j9 h8 h7 => (show False from h7).elim)).trans h_5)
      exact z_ret_z B dX12_setSupport_44 hb1 ⟨⟨_, rfl⟩, rfl, ⟨c, fa, 0, (Or.inr ⟨⟨by rw [nI_toInt (by omega)]; omega, by rw [nI_toInt (by omega)]; omega⟩, rfl, su_id c_3, _, h_17⟩), (Or.inr ⟨⟨by rw [nI_toInt (by omega)]; omega, by rw [nI_toInt (by omega)]; omega⟩, (suS_e c_3).symm⟩), hI4⟩, (fun b9 h9 => ((hF3 b9 (fun j9 h8 h7 => (show False from h7).elim)).trans ((hF2 b9 (fun j9 h8 h7 => (show False from h7).elim)).trans ((hF1 b9 (fun j9 h8 h7 => (show False from h7).elim)).trans ((fset_fr hΦ1 (fun h8 => h9 (0) h8 (show 0 = 0 ∨ 0 = 2 ∨ 0 = 3 by decide))).trans rfl)))))⟩
  · have q_1 : ¬ (0 ≤ a.toInt ∧ a.toInt ≤ 8) := fun h9 => hR1 ((inP_i (by decide) (by decide)).mpr h9)
    refine z_callS (As := [.long a.toInt64, .long 0, .long 8]) (rest := [.ref x]) B (c_inR0 G l Φ1 sz a.toInt64 0 8 hR1 (fun v8 Φ8 sz8 => v8 = some (.int 0) ∧ sz8 = sz ∧ Im G x (rd, (NNq c), cr, tp, tt, (SiQ fa), sT, pt, ql, fl, pe, le, nx, il, qu, kn, ec, nu, va, st, ep, ti, ad, ob, ra, rt, ex, sa, us, tk, 0, me, dr, se, sn) Φ8 ∧ Fr x (fun j9 => False) Φ1 Φ8) ⟨rfl, rfl, hI1, fun _ _ => rfl⟩) (va_cwS 3 B.1.2.2.2.2 gX12_setSupport_X12_inRange rfl rfl rfl (by decide +kernel) ⟨Nat.le_of_ble_eq_true rfl, Nat.le_of_ble_eq_true rfl⟩) rfl rfl (Nat.le_of_ble_eq_true rfl) dX12_setSupport_12 ⟨Nat.le_of_ble_eq_true rfl, Nat.le_of_ble_eq_true rfl⟩ (fun r_10 Φ8 sz5 st5 hp5 hs5 => ?_)
    obtain ⟨rfl, hq5, hI10, hF6⟩ := hp5
    subst sz5
    replace hs5 : st5 = [.int 0, .ref x] := hs5
    subst st5
    refine z_if_ne (tgt := 22) B dX12_setSupport_15 rfl (fun h9 => absurd (by decide) h9) (fun c_6 => ?_)
    refine z_iconst (v := 1) B dX12_setSupport_18 rfl ?_
    refine z_goto (tgt := 23) B dX12_setSupport_19 rfl ?_
    refine z_iconst (v := 1) B dX12_setSupport_23 rfl ?_
    have h_18 : Φ8 x = some (o_ 14 [.int 0, .ref (x + 1), .ref (x + 2), .int ti, .int ra, .int (nI rt), .int ex, .int ad, .ref (x + 3), .ref (x + 4), .int me, .long se, .ref (x + 5), .int (nI fl), .int dr, .long ob, .long sa, .long sn, .long us, .ref (x + 6), .ref (x + 7), .int (nI pe), .ref (x + 8), .int (nI le), .ref (x + 9), .ref (x + 10), .int (nI qu), .ref (x + 11), .ref (x + 12), .ref (x + 13), .ref (x + 14), .ref (x + 15), .ref (x + 16), .int (nI n_1), .long v_1, .ref (x + 17), .ref (x + 18), .ref (x + 19), .ref (x + 20), .ref (x + 21), .ref (x + 22), .int (nI n_2), .ref (x + 23), .ref (x + 24), .int (nI tk), .ref (x + 25), .int (nI il), .int (nI nx), .int ec, .int ep, .int kn, .int (nI st), .int nu, .long va]) := ((hF6 x (fun j9 h8 h7 => (show False from h7).elim)).trans h_3)
    refine z_callV (As := [.int 1, .int 1]) (rest := []) B (r_throwsIf1 G l Φ8 sz x rd (NNq c) cr tp tt (SiQ fa) sT pt ql fl pe le nx il qu kn ec nu va st ep ti ad ob ra rt ex sa us tk 0 me dr se sn  hx hI10 (fun f9 h9 => h9.1)) (cwV 2 B.1.2.2.2.2 gX12_setSupport_X12_throwsIf rfl rfl rfl (by decide +kernel) ⟨Nat.le_of_ble_eq_true rfl, Nat.le_of_ble_eq_true rfl⟩) h_18 rfl rfl rfl rfl (Nat.le_of_ble_eq_true rfl) dX12_setSupport_24 ⟨Nat.le_of_ble_eq_true rfl, Nat.le_of_ble_eq_true rfl⟩ (fun r_11 Φ9 sz6 st6 hp6 hs6 => ?_)
    obtain ⟨⟨rfl, l_1, h_19⟩, hq6, hI11, hF7⟩ := hp6
    subst sz6
    replace hs6 : st6 = [.int 1] := hs6
    subst st6
    replace hI11 : Im G x (rd, (NNq c), cr, tp, tt, (SiQ fa), sT, pt, ql, fl, pe, le, nx, il, qu, kn, ec, nu, va, st, ep, ti, ad, ob, ra, rt, ex, sa, us, tk, 1, me, dr, se, sn) Φ9 := hI11
    refine z_if_eq (tgt := 32) B dX12_setSupport_27 rfl (fun h9 => absurd h9 (by decide)) (fun c_7 => ?_)
    refine z_iconst (v := 0) B dX12_setSupport_30 rfl ?_
    exact z_ret_z B dX12_setSupport_31 (by decide) ⟨⟨_, rfl⟩, rfl, ⟨c, fa, 1, (Or.inl ⟨fun h9 => by obtain ⟨h8, h7⟩ := h9; omega, rfl, rfl, l_1, h_19⟩), (Or.inl ⟨fun h9 => by obtain ⟨h8, h7⟩ := h9; omega, rfl⟩), hI11⟩, (fun b9 h9 => ((hF7 b9 (fun j9 h8 h7 => h9 j9 h8 (fq_923 j9 h7))).trans ((hF6 b9 (fun j9 h8 h7 => (show False from h7).elim)).trans ((fset_fr hΦ1 (fun h8 => h9 (0) h8 (show 0 = 0 ∨ 0 = 2 ∨ 0 = 3 by decide))).trans rfl))))⟩

theorem hu_X12_due_X12 : ∀ w ∈ u_ws RX12 TX12 54, w ∈ wsX12_due := fun _ h => List.mem_cons_of_mem _ (List.mem_append_left _ (List.mem_append_right _ (h)))

theorem hv_X12_due_20 : Cond.fieldLink RX12 20 "FlowExporterModel" (TX12 8).2.1 (TX12 8).2.2.1 ∈ wsX12_due := List.mem_cons_of_mem _ (List.mem_append_left _ (List.mem_append_left _ (List.mem_of_getElem? (i := 0) rfl)))

theorem hv_X12_due_142 : Cond.fieldLink RX12 142 "FlowExporterModel" (TX12 10).2.1 (TX12 10).2.2.1 ∈ wsX12_due := List.mem_cons_of_mem _ (List.mem_append_left _ (List.mem_append_left _ (List.mem_of_getElem? (i := 1) rfl)))

theorem hv_X12_due_17 : Cond.fieldLink RX12 17 "FlowExporterModel" (TX12 2).2.1 (TX12 2).2.2.1 ∈ wsX12_due := List.mem_cons_of_mem _ (List.mem_append_left _ (List.mem_append_left _ (List.mem_of_getElem? (i := 2) rfl)))

theorem hv_X12_due_101 : Cond.fieldLink RX12 101 "FlowExporterModel" (TX12 3).2.1 (TX12 3).2.2.1 ∈ wsX12_due := List.mem_cons_of_mem _ (List.mem_append_left _ (List.mem_append_left _ (List.mem_of_getElem? (i := 3) rfl)))

theorem hv_X12_due_23 : Cond.fieldLink RX12 23 "FlowExporterModel" (TX12 9).2.1 (TX12 9).2.2.1 ∈ wsX12_due := List.mem_cons_of_mem _ (List.mem_append_left _ (List.mem_append_left _ (List.mem_of_getElem? (i := 4) rfl)))

set_option maxHeartbeats 4000000 in
set_option maxRecDepth 100000 in
theorem r_due (G : EnvG) (l : Launch) (Φ : Hm) (sz x : Nat) (rd : (Nat → Int32) → Prop) (cr : (Nat → Int64) → Prop) (tp : (Nat → Int32) → Prop) (tt : (Nat → Int64) → Prop) (pt : (Nat → Int32) → Prop) (ql : (Nat → Int32) → Prop) (fl : Nat) (pe : Nat) (le : Nat) (nx : Nat) (il : Nat) (qu : Nat) (kn : Int32) (ec : Int32) (nu : Int32) (va : Int64) (st : Nat) (ep : Int32) (ti : Int32) (ad : Int32) (ob : Int64) (ra : Int32) (rt : Nat) (ex : Int32) (sa : Int64) (us : Int64) (tk : Nat) (th : Int32) (me : Int32) (dr : Int32) (se : Int64) (sn : Int64) (c : Cf) (fa : Nat → Int32) (fb : Nat → Int32) (t : Nat) (hx : G.2.2.2 ≤ x) (hI : Im G x (rd, (NNq c), cr, tp, tt, (SiQ fa), (AtQ fb), pt, ql, fl, pe, le, nx, il, qu, kn, ec, nu, va, st, ep, ti, ad, ob, ra, rt, ex, sa, us, tk, th, me, dr, se, sn) Φ) (ht : t < 4) (hcw : CfW c) : Ct G l yX12_due wsX12_due ({ frames := 3, cells := 0, slots := 0, locals := 66 }) 0 0 [.ref x, .int (nI t)] Φ sz (fun v Φ1 sz1 => ((v = some (.int 1) ∧ dueP c ti (fa, fb, me, 0, 0) t) ∨ (v = some (.int 0) ∧ ¬ dueP c ti (fa, fb, me, 0, 0) t)) ∧ sz1 = sz ∧ (Im G x (rd, (NNq c), cr, tp, tt, (SiQ fa), (AtQ fb), pt, ql, fl, pe, le, nx, il, qu, kn, ec, nu, va, st, ep, ti, ad, ob, ra, rt, ex, sa, us, tk, th, me, dr, se, sn) Φ1) ∧ Fr x (fun j9 => False) Φ Φ1) := by
  refine Ct.of (cc := cX12_due) (maxL := 2) (ret := (some .boolean)) (by decide) rfl (Nat.le_of_ble_eq_true rfl) ?_
  intro p9 e9 s9 m9 w9 t9 k9 B
  show Z p9 l e9 _ s9 m9 _ w9 t9 k9 _ G 2 0 [(0, .ref x), (1, .int (nI t))] [] Φ sz 0 0
  refine z_aload_n B dX12_due_0 rfl 0 rfl ?_
  refine z_iload_n B dX12_due_1 rfl 1 rfl ?_
  obtain ⟨n_1, v_1, n_2, h_1, b_13, b_1, b_2, b_3, b_4, b_5, b_6, b_7, b_8, b_9, b_10, b_11, b_12⟩ := im0 hI
  replace b_1 : 1 ≤ rt := b_1
  replace b_2 : rt ≤ 1024 := b_2
  replace b_3 : fl ≤ 12 := b_3
  replace b_4 : pe ≤ 24 := b_4
  replace b_5 : le ≤ 700 := b_5
  replace b_6 : qu ≤ 12 := b_6
  replace b_7 : n_1 ≤ 8 := b_7
  replace b_8 : n_2 ≤ 24 := b_8
  replace b_9 : tk ≤ 24 := b_9
  replace b_10 : il ≤ 700 := b_10
  replace b_11 : nx ≤ 701 := b_11
  replace b_12 : st ≤ 701 := b_12
  have h_2 : Φ x = some (o_ 14 [.int th, .ref (x + 1), .ref (x + 2), .int ti, .int ra, .int (nI rt), .int ex, .int ad, .ref (x + 3), .ref (x + 4), .int me, .long se, .ref (x + 5), .int (nI fl), .int dr, .long ob, .long sa, .long sn, .long us, .ref (x + 6), .ref (x + 7), .int (nI pe), .ref (x + 8), .int (nI le), .ref (x + 9), .ref (x + 10), .int (nI qu), .ref (x + 11), .ref (x + 12), .ref (x + 13), .ref (x + 14), .ref (x + 15), .ref (x + 16), .int (nI n_1), .long v_1, .ref (x + 17), .ref (x + 18), .ref (x + 19), .ref (x + 20), .ref (x + 21), .ref (x + 22), .int (nI n_2), .ref (x + 23), .ref (x + 24), .int (nI tk), .ref (x + 25), .int (nI il), .int (nI nx), .int ec, .int ep, .int kn, .int (nI st), .int nu, .long va]) := h_1
  refine z_callV (As := [.int (nI t)]) (rest := []) B (r_effectiveC G l Φ sz x rd cr tp tt (SiQ fa) (AtQ fb) pt ql fl pe le nx il qu kn ec nu va st ep ti ad ob ra rt ex sa us tk th me dr se sn c t hx hI (show t < 4 by omega)) (cwV 1 B.1.2.2.2.2 gX12_due_X12_effective rfl rfl rfl (by decide +kernel) ⟨Nat.le_of_ble_eq_true rfl, Nat.le_of_ble_eq_true rfl⟩) h_2 rfl rfl rfl rfl (Nat.le_of_ble_eq_true rfl) dX12_due_2 ⟨Nat.le_of_ble_eq_true rfl, Nat.le_of_ble_eq_true rfl⟩ (fun r_1 Φ1 sz1 st1 hp1 hs1 => ?_)
  obtain ⟨rfl, hq1, hI1, hF1⟩ := hp1
  subst sz1
  replace hs1 : st1 = [.int (tfF c t &&& c 9)] := hs1
  subst st1
  replace hI1 : Im G x (rd, (NNq c), cr, tp, tt, (SiQ fa), (AtQ fb), pt, ql, fl, pe, le, nx, il, qu, kn, ec, nu, va, st, ep, ti, ad, ob, ra, rt, ex, sa, us, tk, th, me, dr, se, sn) Φ1 := hI1
  refine z_if_ne (tgt := 10) B dX12_due_5 rfl (fun c_1 => ?_) (fun c_1 => ?_)
  · refine z_aload_n B dX12_due_10 rfl 0 rfl ?_
    have h_3 : Φ1 x = some (o_ 14 [.int th, .ref (x + 1), .ref (x + 2), .int ti, .int ra, .int (nI rt), .int ex, .int ad, .ref (x + 3), .ref (x + 4), .int me, .long se, .ref (x + 5), .int (nI fl), .int dr, .long ob, .long sa, .long sn, .long us, .ref (x + 6), .ref (x + 7), .int (nI pe), .ref (x + 8), .int (nI le), .ref (x + 9), .ref (x + 10), .int (nI qu), .ref (x + 11), .ref (x + 12), .ref (x + 13), .ref (x + 14), .ref (x + 15), .ref (x + 16), .int (nI n_1), .long v_1, .ref (x + 17), .ref (x + 18), .ref (x + 19), .ref (x + 20), .ref (x + 21), .ref (x + 22), .int (nI n_2), .ref (x + 23), .ref (x + 24), .int (nI tk), .ref (x + 25), .int (nI il), .int (nI nx), .int ec, .int ep, .int kn, .int (nI st), .int nu, .long va]) := ((hF1 x (fun j9 h8 h7 => (show False from h7).elim)).trans h_2)
    refine z_get (ref := "FlowExporterModel") (C := RX12) (T := TX12) (N := 54) (ci := 14) (v := .ref (x + 3)) B hu_X12_due_X12 rfl 8 (Nat.le_of_ble_eq_true rfl) hv_X12_due_20 rfl h_3 rfl dX12_due_11 ?_
    refine z_iload_n B dX12_due_14 rfl 1 rfl ?_
    obtain ⟨f_1, h_4, r_2⟩ := imk (k := 3) hI1
    replace r_2 : (SiQ fa) f_1 := r_2
    have h_5 : Φ1 (x + 3) = some (ai_ G 4 f_1) := h_4
    refine z_iald B h_5 (vp_in_nI (by omega) (by omega)) dX12_due_15 ?_
    refine z_top (st1 := [.int (fa t - 1)]) (congrArg (fun w9 : Int32 => ([.int w9] : List Value)) ((congrArg f_1 (nI_clamp (by omega))).trans (r_2 t (by omega)))) ?_
    refine z_iconst (v := (-1)) B dX12_due_16 rfl ?_
    refine z_icmp_eq (tgt := 62) B dX12_due_17 rfl (fun c_2 => ?_) (fun c_2 => ?_)
    · refine z_iconst (v := 1) B dX12_due_62 rfl ?_
      refine z_goto (tgt := 67) B dX12_due_63 rfl ?_
      exact z_ret_z B dX12_due_67 (by decide) ⟨(Or.inl ⟨rfl, (fun h9 => c_1 ((CfW.e hcw (by omega)).mp h9)), Or.inl (m1_0.mp c_2)⟩), rfl, hI1, (fun b9 h9 => ((hF1 b9 (fun j9 h8 h7 => (show False from h7).elim)).trans rfl))⟩
    · refine z_aload_n B dX12_due_20 rfl 0 rfl ?_
      refine z_get (ref := "FlowExporterModel") (C := RX12) (T := TX12) (N := 54) (ci := 14) (v := .int me) B hu_X12_due_X12 rfl 10 (Nat.le_of_ble_eq_true rfl) hv_X12_due_142 rfl h_3 rfl dX12_due_21 ?_
      refine z_aload_n B dX12_due_24 rfl 0 rfl ?_
      refine z_get (ref := "FlowExporterModel") (C := RX12) (T := TX12) (N := 54) (ci := 14) (v := .ref (x + 3)) B hu_X12_due_X12 rfl 8 (Nat.le_of_ble_eq_true rfl) hv_X12_due_20 rfl h_3 rfl dX12_due_25 ?_
      refine z_iload_n B dX12_due_28 rfl 1 rfl ?_
      refine z_iald B h_5 (vp_in_nI (by omega) (by omega)) dX12_due_29 ?_
      refine z_top (st1 := [.int (fa t - 1), .int me]) (congrArg (fun w9 : Int32 => ([.int w9, .int me] : List Value)) ((congrArg f_1 (nI_clamp (by omega))).trans (r_2 t (by omega)))) ?_
      refine z_isub B dX12_due_30 ?_
      refine z_iconst (v := 1) B dX12_due_31 rfl ?_
      refine z_isub B dX12_due_32 ?_
      refine z_top (st1 := [.int (me - fa t)]) (congrArg (fun w9 : Int32 => ([.int w9] : List Value)) (sub_p1 me (fa t))) ?_
      refine z_aload_n B dX12_due_33 rfl 0 rfl ?_
      refine z_get (ref := "FlowExporterModel") (C := RX12) (T := TX12) (N := 54) (ci := 14) (v := .ref (x + 2)) B hu_X12_due_X12 rfl 2 (Nat.le_of_ble_eq_true rfl) hv_X12_due_17 rfl h_3 rfl dX12_due_34 ?_
      refine z_iconst (v := 4) B dX12_due_37 rfl ?_
      obtain ⟨f_2, h_6, r_3⟩ := imk (k := 2) hI1
      replace r_3 : (NNq c) f_2 := r_3
      have r_4 : NN f_2 := r_3.1
      have h_7 : Φ1 (x + 2) = some (ai_ G 307 f_2) := h_6
      refine z_iald B h_7 (vin rfl) dX12_due_38 ?_
      refine z_top (st1 := [.int (c 4), .int (me - fa t)]) (congrArg (fun w9 : Int32 => ([.int w9, .int (me - fa t)] : List Value)) ((congrArg f_2 (show (4 : Int32).toNatClampNeg = 4 by decide)).trans (r_3.2 4 (by decide)))) ?_
      refine z_icmp_ge (tgt := 62) B dX12_due_39 rfl (fun c_3 => ?_) (fun c_3 => ?_)
      · refine z_iconst (v := 1) B dX12_due_62 rfl ?_
        refine z_goto (tgt := 67) B dX12_due_63 rfl ?_
        exact z_ret_z B dX12_due_67 (by decide) ⟨(Or.inl ⟨rfl, (fun h9 => c_1 ((CfW.e hcw (by omega)).mp h9)), Or.inr (Or.inl c_3)⟩), rfl, hI1, (fun b9 h9 => ((hF1 b9 (fun j9 h8 h7 => (show False from h7).elim)).trans rfl))⟩
      · refine z_aload_n B dX12_due_42 rfl 0 rfl ?_
        refine z_get (ref := "FlowExporterModel") (C := RX12) (T := TX12) (N := 54) (ci := 14) (v := .int ti) B hu_X12_due_X12 rfl 3 (Nat.le_of_ble_eq_true rfl) hv_X12_due_101 rfl h_3 rfl dX12_due_43 ?_
        refine z_aload_n B dX12_due_46 rfl 0 rfl ?_
        refine z_get (ref := "FlowExporterModel") (C := RX12) (T := TX12) (N := 54) (ci := 14) (v := .ref (x + 4)) B hu_X12_due_X12 rfl 9 (Nat.le_of_ble_eq_true rfl) hv_X12_due_23 rfl h_3 rfl dX12_due_47 ?_
        refine z_iload_n B dX12_due_50 rfl 1 rfl ?_
        obtain ⟨f_3, h_8, r_5⟩ := imk (k := 4) hI1
        replace r_5 : (AtQ fb) f_3 := r_5
        have h_9 : Φ1 (x + 4) = some (ai_ G 4 f_3) := h_8
        refine z_iald B h_9 (vp_in_nI (by omega) (by omega)) dX12_due_51 ?_
        refine z_top (st1 := [.int (fb t), .int ti]) (congrArg (fun w9 : Int32 => ([.int w9, .int ti] : List Value)) ((congrArg f_3 (nI_clamp (by omega))).trans (r_5 t (by omega)))) ?_
        refine z_isub B dX12_due_52 ?_
        refine z_aload_n B dX12_due_53 rfl 0 rfl ?_
        refine z_get (ref := "FlowExporterModel") (C := RX12) (T := TX12) (N := 54) (ci := 14) (v := .ref (x + 2)) B hu_X12_due_X12 rfl 2 (Nat.le_of_ble_eq_true rfl) hv_X12_due_17 rfl h_3 rfl dX12_due_54 ?_
        refine z_iconst (v := 5) B dX12_due_57 rfl ?_
        refine z_iald B h_7 (vin rfl) dX12_due_58 ?_
        refine z_top (st1 := [.int (c 5), .int (ti - (fb t))]) (congrArg (fun w9 : Int32 => ([.int w9, .int (ti - (fb t))] : List Value)) ((congrArg f_2 (show (5 : Int32).toNatClampNeg = 5 by decide)).trans (r_3.2 5 (by decide)))) ?_
        refine z_icmp_lt (tgt := 66) B dX12_due_59 rfl (fun c_4 => ?_) (fun c_4 => ?_)
        · refine z_iconst (v := 0) B dX12_due_66 rfl ?_
          exact z_ret_z B dX12_due_67 (by decide) ⟨(Or.inr ⟨rfl, fun h9 => h9.2.elim (fun h8 => c_2 (m1_0.mpr h8)) (fun h8 => h8.elim c_3 (fun h7 => Int32.not_le.mpr c_4 h7))⟩), rfl, hI1, (fun b9 h9 => ((hF1 b9 (fun j9 h8 h7 => (show False from h7).elim)).trans rfl))⟩
        · refine z_iconst (v := 1) B dX12_due_62 rfl ?_
          refine z_goto (tgt := 67) B dX12_due_63 rfl ?_
          exact z_ret_z B dX12_due_67 (by decide) ⟨(Or.inl ⟨rfl, (fun h9 => c_1 ((CfW.e hcw (by omega)).mp h9)), Or.inr (Or.inr (Int32.not_lt.mp c_4))⟩), rfl, hI1, (fun b9 h9 => ((hF1 b9 (fun j9 h8 h7 => (show False from h7).elim)).trans rfl))⟩
  · refine z_iconst (v := 0) B dX12_due_8 rfl ?_
    exact z_ret_z B dX12_due_9 (by decide) ⟨(Or.inr ⟨rfl, fun h9 => h9.1 ((CfW.e hcw (by omega)).mpr c_1)⟩), rfl, hI1, (fun b9 h9 => ((hF1 b9 (fun j9 h8 h7 => (show False from h7).elim)).trans rfl))⟩

theorem hu_X12_isDue_X12 : ∀ w ∈ u_ws RX12 TX12 54, w ∈ wsX12_isDue := fun _ h => List.mem_cons_of_mem _ (List.mem_append_left _ (List.mem_append_right _ (h)))

theorem hv_X12_isDue_1 : Cond.fieldLink RX12 1 "FlowExporterModel" (TX12 0).2.1 (TX12 0).2.2.1 ∈ wsX12_isDue := List.mem_cons_of_mem _ (List.mem_append_left _ (List.mem_append_left _ (List.mem_append_left _ (List.mem_of_getElem? (i := 0) rfl))))

set_option maxHeartbeats 4000000 in
set_option maxRecDepth 100000 in
theorem r_isDue (G : EnvG) (l : Launch) (Φ : Hm) (sz x : Nat) (rd : (Nat → Int32) → Prop) (cr : (Nat → Int64) → Prop) (tp : (Nat → Int32) → Prop) (tt : (Nat → Int64) → Prop) (pt : (Nat → Int32) → Prop) (ql : (Nat → Int32) → Prop) (fl : Nat) (pe : Nat) (le : Nat) (nx : Nat) (il : Nat) (qu : Nat) (kn : Int32) (ec : Int32) (nu : Int32) (va : Int64) (st : Nat) (ep : Int32) (ti : Int32) (ad : Int32) (ob : Int64) (ra : Int32) (rt : Nat) (ex : Int32) (sa : Int64) (us : Int64) (tk : Nat) (th : Int32) (me : Int32) (dr : Int32) (se : Int64) (sn : Int64) (c : Cf) (fa : Nat → Int32) (fb : Nat → Int32) (a : Int32) (hx : G.2.2.2 ≤ x) (hI : Im G x (rd, (NNq c), cr, tp, tt, (SiQ fa), (AtQ fb), pt, ql, fl, pe, le, nx, il, qu, kn, ec, nu, va, st, ep, ti, ad, ob, ra, rt, ex, sa, us, tk, th, me, dr, se, sn) Φ) (hcw : CfW c) : Ct G l yX12_isDue wsX12_isDue ({ frames := 4, cells := 0, slots := 0, locals := 87 }) 0 0 [.ref x, .int a] Φ sz (fun v Φ1 sz1 => (∃ (r9 th9 : Int32) (l9 : List Value), v = some (.int r9) ∧ Φ1 x = some (o_ 14 (.int th9 :: l9)) ∧ AnsR (InT c a) True (duV c ti (fa, fb, me, 0, 0) a.toNatClampNeg).toInt64 th9 r9.toInt64) ∧ sz1 = sz ∧ (∃ (th1 : Int32), Im G x (rd, (NNq c), cr, tp, tt, (SiQ fa), (AtQ fb), pt, ql, fl, pe, le, nx, il, qu, kn, ec, nu, va, st, ep, ti, ad, ob, ra, rt, ex, sa, us, tk, th1, me, dr, se, sn) Φ1) ∧ Fr x (fun j9 => j9 = 0) Φ Φ1) := by
  refine Ct.of (cc := cX12_isDue) (maxL := 2) (ret := (some .boolean)) (by decide) rfl (Nat.le_of_ble_eq_true rfl) ?_
  intro p9 e9 s9 m9 w9 t9 k9 B
  show Z p9 l e9 _ s9 m9 _ w9 t9 k9 _ G 2 0 [(0, .ref x), (1, .int a)] [] Φ sz 0 0
  refine z_aload_n B dX12_isDue_0 rfl 0 rfl ?_
  refine z_iconst (v := 0) B dX12_isDue_1 rfl ?_
  obtain ⟨n_1, v_1, n_2, h_1, b_13, b_1, b_2, b_3, b_4, b_5, b_6, b_7, b_8, b_9, b_10, b_11, b_12⟩ := im0 hI
  replace b_1 : 1 ≤ rt := b_1
  replace b_2 : rt ≤ 1024 := b_2
  replace b_3 : fl ≤ 12 := b_3
  replace b_4 : pe ≤ 24 := b_4
  replace b_5 : le ≤ 700 := b_5
  replace b_6 : qu ≤ 12 := b_6
  replace b_7 : n_1 ≤ 8 := b_7
  replace b_8 : n_2 ≤ 24 := b_8
  replace b_9 : tk ≤ 24 := b_9
  replace b_10 : il ≤ 700 := b_10
  replace b_11 : nx ≤ 701 := b_11
  replace b_12 : st ≤ 701 := b_12
  have h_2 : Φ x = some (o_ 14 [.int th, .ref (x + 1), .ref (x + 2), .int ti, .int ra, .int (nI rt), .int ex, .int ad, .ref (x + 3), .ref (x + 4), .int me, .long se, .ref (x + 5), .int (nI fl), .int dr, .long ob, .long sa, .long sn, .long us, .ref (x + 6), .ref (x + 7), .int (nI pe), .ref (x + 8), .int (nI le), .ref (x + 9), .ref (x + 10), .int (nI qu), .ref (x + 11), .ref (x + 12), .ref (x + 13), .ref (x + 14), .ref (x + 15), .ref (x + 16), .int (nI n_1), .long v_1, .ref (x + 17), .ref (x + 18), .ref (x + 19), .ref (x + 20), .ref (x + 21), .ref (x + 22), .int (nI n_2), .ref (x + 23), .ref (x + 24), .int (nI tk), .ref (x + 25), .int (nI il), .int (nI nx), .int ec, .int ep, .int kn, .int (nI st), .int nu, .long va]) := h_1
  refine z_put (ref := "FlowExporterModel") (C := RX12) (T := TX12) (N := 54) (ci := 14) (v := .int 0) B hu_X12_isDue_X12 tyX12 tyX12_ok nmX12 rfl 0 (Nat.le_of_ble_eq_true rfl) hv_X12_isDue_1 rfl (Or.inl rfl) h_2 hx rfl rfl (Nat.le_of_ble_eq_true rfl) dX12_isDue_2 (fun Φ1 hΦ1 => ?_)
  have h_3 : Φ1 x = some (o_ 14 [.int 0, .ref (x + 1), .ref (x + 2), .int ti, .int ra, .int (nI rt), .int ex, .int ad, .ref (x + 3), .ref (x + 4), .int me, .long se, .ref (x + 5), .int (nI fl), .int dr, .long ob, .long sa, .long sn, .long us, .ref (x + 6), .ref (x + 7), .int (nI pe), .ref (x + 8), .int (nI le), .ref (x + 9), .ref (x + 10), .int (nI qu), .ref (x + 11), .ref (x + 12), .ref (x + 13), .ref (x + 14), .ref (x + 15), .ref (x + 16), .int (nI n_1), .long v_1, .ref (x + 17), .ref (x + 18), .ref (x + 19), .ref (x + 20), .ref (x + 21), .ref (x + 22), .int (nI n_2), .ref (x + 23), .ref (x + 24), .int (nI tk), .ref (x + 25), .int (nI il), .int (nI nx), .int ec, .int ep, .int kn, .int (nI st), .int nu, .long va]) := fset_at hΦ1
  have hI1 : Im G x (rd, (NNq c), cr, tp, tt, (SiQ fa), (AtQ fb), pt, ql, fl, pe, le, nx, il, qu, kn, ec, nu, va, st, ep, ti, ad, ob, ra, rt, ex, sa, us, tk, 0, me, dr, se, sn) Φ1 := Im.put0 hI hΦ1 ⟨n_1, v_1, n_2, rfl, b_13, b_1, b_2, b_3, b_4, b_5, b_6, b_7, b_8, b_9, b_10, b_11, b_12⟩
  refine z_aload_n B dX12_isDue_5 rfl 0 rfl ?_
  refine z_aload_n B dX12_isDue_6 rfl 0 rfl ?_
  refine z_iload_n B dX12_isDue_7 rfl 1 rfl ?_
  refine z_callV (As := [.int a]) (rest := [.ref x]) B (r_isTemplateC G l Φ1 sz x rd cr tp tt (SiQ fa) (AtQ fb) pt ql fl pe le nx il qu kn ec nu va st ep ti ad ob ra rt ex sa us tk 0 me dr se sn c a hx hI1 ) (cwV 1 B.1.2.2.2.2 gX12_isDue_X12_isTemplate rfl rfl rfl (by decide +kernel) ⟨Nat.le_of_ble_eq_true rfl, Nat.le_of_ble_eq_true rfl⟩) h_3 rfl rfl rfl rfl (Nat.le_of_ble_eq_true rfl) dX12_isDue_8 ⟨Nat.le_of_ble_eq_true rfl, Nat.le_of_ble_eq_true rfl⟩ (fun r_1 Φ2 sz1 st1 hp1 hs1 => ?_)
  obtain ⟨ha1, hq1, hI2, hF1⟩ := hp1
  subst sz1
  replace hI2 : Im G x (rd, (NNq c), cr, tp, tt, (SiQ fa), (AtQ fb), pt, ql, fl, pe, le, nx, il, qu, kn, ec, nu, va, st, ep, ti, ad, ob, ra, rt, ex, sa, us, tk, 0, me, dr, se, sn) Φ2 := hI2
  rcases ha1 with ⟨rfl, hq2⟩ | ⟨rfl, n_3, b_14, rfl, hq3⟩
  · replace hs1 : st1 = [.int 0, .ref x] := hs1
    subst st1
    refine z_if_ne (tgt := 18) B dX12_isDue_11 rfl (fun h9 => absurd (by decide) h9) (fun c_1 => ?_)
    refine z_iconst (v := 1) B dX12_isDue_14 rfl ?_
    refine z_goto (tgt := 19) B dX12_isDue_15 rfl ?_
    refine z_iconst (v := 1) B dX12_isDue_19 rfl ?_
    have h_4 : Φ2 x = some (o_ 14 [.int 0, .ref (x + 1), .ref (x + 2), .int ti, .int ra, .int (nI rt), .int ex, .int ad, .ref (x + 3), .ref (x + 4), .int me, .long se, .ref (x + 5), .int (nI fl), .int dr, .long ob, .long sa, .long sn, .long us, .ref (x + 6), .ref (x + 7), .int (nI pe), .ref (x + 8), .int (nI le), .ref (x + 9), .ref (x + 10), .int (nI qu), .ref (x + 11), .ref (x + 12), .ref (x + 13), .ref (x + 14), .ref (x + 15), .ref (x + 16), .int (nI n_1), .long v_1, .ref (x + 17), .ref (x + 18), .ref (x + 19), .ref (x + 20), .ref (x + 21), .ref (x + 22), .int (nI n_2), .ref (x + 23), .ref (x + 24), .int (nI tk), .ref (x + 25), .int (nI il), .int (nI nx), .int ec, .int ep, .int kn, .int (nI st), .int nu, .long va]) := ((hF1 x (fun j9 h8 h7 => (show False from h7).elim)).trans h_3)
    refine z_callV (As := [.int 1, .int 1]) (rest := []) B (r_throwsIf1 G l Φ2 sz x rd (NNq c) cr tp tt (SiQ fa) (AtQ fb) pt ql fl pe le nx il qu kn ec nu va st ep ti ad ob ra rt ex sa us tk 0 me dr se sn  hx hI2 (fun f9 h9 => h9.1)) (cwV 2 B.1.2.2.2.2 gX12_isDue_X12_throwsIf rfl rfl rfl (by decide +kernel) ⟨Nat.le_of_ble_eq_true rfl, Nat.le_of_ble_eq_true rfl⟩) h_4 rfl rfl rfl rfl (Nat.le_of_ble_eq_true rfl) dX12_isDue_20 ⟨Nat.le_of_ble_eq_true rfl, Nat.le_of_ble_eq_true rfl⟩ (fun r_2 Φ3 sz2 st2 hp2 hs2 => ?_)
    obtain ⟨⟨rfl, l_1, h_5⟩, hq4, hI3, hF2⟩ := hp2
    subst sz2
    replace hs2 : st2 = [.int 1] := hs2
    subst st2
    replace hI3 : Im G x (rd, (NNq c), cr, tp, tt, (SiQ fa), (AtQ fb), pt, ql, fl, pe, le, nx, il, qu, kn, ec, nu, va, st, ep, ti, ad, ob, ra, rt, ex, sa, us, tk, 1, me, dr, se, sn) Φ3 := hI3
    refine z_if_ne (tgt := 38) B dX12_isDue_23 rfl (fun c_2 => ?_) (fun h9 => absurd h9 (by decide))
    refine z_iconst (v := 0) B dX12_isDue_38 rfl ?_
    exact z_ret_z B dX12_isDue_39 (by decide) ⟨⟨0, 1, l_1, rfl, h_5, Or.inr (Or.inl ⟨hq2, rfl⟩)⟩, rfl, ⟨1, hI3⟩, (fun b9 h9 => ((hF2 b9 h9).trans ((hF1 b9 (fun j9 h8 h7 => (show False from h7).elim)).trans ((fset_fr hΦ1 (fun h8 => h9 (0) h8 (show 0 = 0 by decide))).trans rfl))))⟩
  · replace hs1 : st1 = [.int 1, .ref x] := hs1
    subst st1
    replace b_14 : n_3 < 4 := b_14
    refine z_if_ne (tgt := 18) B dX12_isDue_11 rfl (fun c_3 => ?_) (fun h9 => absurd h9 (by decide))
    refine z_iconst (v := 0) B dX12_isDue_18 rfl ?_
    refine z_iconst (v := 1) B dX12_isDue_19 rfl ?_
    have h_6 : Φ2 x = some (o_ 14 [.int 0, .ref (x + 1), .ref (x + 2), .int ti, .int ra, .int (nI rt), .int ex, .int ad, .ref (x + 3), .ref (x + 4), .int me, .long se, .ref (x + 5), .int (nI fl), .int dr, .long ob, .long sa, .long sn, .long us, .ref (x + 6), .ref (x + 7), .int (nI pe), .ref (x + 8), .int (nI le), .ref (x + 9), .ref (x + 10), .int (nI qu), .ref (x + 11), .ref (x + 12), .ref (x + 13), .ref (x + 14), .ref (x + 15), .ref (x + 16), .int (nI n_1), .long v_1, .ref (x + 17), .ref (x + 18), .ref (x + 19), .ref (x + 20), .ref (x + 21), .ref (x + 22), .int (nI n_2), .ref (x + 23), .ref (x + 24), .int (nI tk), .ref (x + 25), .int (nI il), .int (nI nx), .int ec, .int ep, .int kn, .int (nI st), .int nu, .long va]) := ((hF1 x (fun j9 h8 h7 => (show False from h7).elim)).trans h_3)
    refine z_callV (As := [.int 0, .int 1]) (rest := []) B (r_throwsIf0 G l Φ2 sz x rd (NNq c) cr tp tt (SiQ fa) (AtQ fb) pt ql fl pe le nx il qu kn ec nu va st ep ti ad ob ra rt ex sa us tk 0 me dr se sn  hx hI2 (fun f9 h9 => h9.1)) (cwV 2 B.1.2.2.2.2 gX12_isDue_X12_throwsIf rfl rfl rfl (by decide +kernel) ⟨Nat.le_of_ble_eq_true rfl, Nat.le_of_ble_eq_true rfl⟩) h_6 rfl rfl rfl rfl (Nat.le_of_ble_eq_true rfl) dX12_isDue_20 ⟨Nat.le_of_ble_eq_true rfl, Nat.le_of_ble_eq_true rfl⟩ (fun r_3 Φ4 sz3 st3 hp3 hs3 => ?_)
    obtain ⟨rfl, hq5, hI4, hF3⟩ := hp3
    subst sz3
    replace hs3 : st3 = [.int 0] := hs3
    subst st3
    replace hI4 : Im G x (rd, (NNq c), cr, tp, tt, (SiQ fa), (AtQ fb), pt, ql, fl, pe, le, nx, il, qu, kn, ec, nu, va, st, ep, ti, ad, ob, ra, rt, ex, sa, us, tk, 0, me, dr, se, sn) Φ4 := hI4
    refine z_if_ne (tgt := 38) B dX12_isDue_23 rfl (fun h9 => absurd (by decide) h9) (fun c_4 => ?_)
    refine z_aload_n B dX12_isDue_26 rfl 0 rfl ?_
    refine z_iload_n B dX12_isDue_27 rfl 1 rfl ?_
    have h_7 : Φ4 x = some (o_ 14 [.int 0, .ref (x + 1), .ref (x + 2), .int ti, .int ra, .int (nI rt), .int ex, .int ad, .ref (x + 3), .ref (x + 4), .int me, .long se, .ref (x + 5), .int (nI fl), .int dr, .long ob, .long sa, .long sn, .long us, .ref (x + 6), .ref (x + 7), .int (nI pe), .ref (x + 8), .int (nI le), .ref (x + 9), .ref (x + 10), .int (nI qu), .ref (x + 11), .ref (x + 12), .ref (x + 13), .ref (x + 14), .ref (x + 15), .ref (x + 16), .int (nI n_1), .long v_1, .ref (x + 17), .ref (x + 18), .ref (x + 19), .ref (x + 20), .ref (x + 21), .ref (x + 22), .int (nI n_2), .ref (x + 23), .ref (x + 24), .int (nI tk), .ref (x + 25), .int (nI il), .int (nI nx), .int ec, .int ep, .int kn, .int (nI st), .int nu, .long va]) := ((hF3 x (fun j9 h8 h7 => (show False from h7).elim)).trans h_6)
    refine z_callV (As := [.int (nI n_3)]) (rest := []) B (r_due G l Φ4 sz x rd cr tp tt pt ql fl pe le nx il qu kn ec nu va st ep ti ad ob ra rt ex sa us tk 0 me dr se sn c fa fb n_3 hx hI4 (show n_3 < 4 by omega) hcw) (cwV 1 B.1.2.2.2.2 gX12_isDue_X12_due rfl rfl rfl (by decide +kernel) ⟨Nat.le_of_ble_eq_true rfl, Nat.le_of_ble_eq_true rfl⟩) h_7 rfl rfl rfl rfl (Nat.le_of_ble_eq_true rfl) dX12_isDue_28 ⟨Nat.le_of_ble_eq_true rfl, Nat.le_of_ble_eq_true rfl⟩ (fun r_4 Φ5 sz4 st4 hp4 hs4 => ?_)
    obtain ⟨ha2, hq6, hI5, hF4⟩ := hp4
    subst sz4
    replace hI5 : Im G x (rd, (NNq c), cr, tp, tt, (SiQ fa), (AtQ fb), pt, ql, fl, pe, le, nx, il, qu, kn, ec, nu, va, st, ep, ti, ad, ob, ra, rt, ex, sa, us, tk, 0, me, dr, se, sn) Φ5 := hI5
    rcases ha2 with ⟨rfl, e_1⟩ | ⟨rfl, e_2⟩
    · replace hs4 : st4 = [.int 1] := hs4
      subst st4
      replace e_1 : dueP c ti (fa, fb, me, 0, 0) n_3 := e_1
      refine z_if_eq (tgt := 38) B dX12_isDue_31 rfl (fun h9 => absurd h9 (by decide)) (fun c_5 => ?_)
      refine z_iconst (v := 1) B dX12_isDue_34 rfl ?_
      refine z_goto (tgt := 39) B dX12_isDue_35 rfl ?_
      have h_8 : Φ5 x = some (o_ 14 [.int 0, .ref (x + 1), .ref (x + 2), .int ti, .int ra, .int (nI rt), .int ex, .int ad, .ref (x + 3), .ref (x + 4), .int me, .long se, .ref (x + 5), .int (nI fl), .int dr, .long ob, .long sa, .long sn, .long us, .ref (x + 6), .ref (x + 7), .int (nI pe), .ref (x + 8), .int (nI le), .ref (x + 9), .ref (x + 10), .int (nI qu), .ref (x + 11), .ref (x + 12), .ref (x + 13), .ref (x + 14), .ref (x + 15), .ref (x + 16), .int (nI n_1), .long v_1, .ref (x + 17), .ref (x + 18), .ref (x + 19), .ref (x + 20), .ref (x + 21), .ref (x + 22), .int (nI n_2), .ref (x + 23), .ref (x + 24), .int (nI tk), .ref (x + 25), .int (nI il), .int (nI nx), .int ec, .int ep, .int kn, .int (nI st), .int nu, .long va]) := ((hF4 x (fun j9 h8 h7 => (show False from h7).elim)).trans h_7)
      exact z_ret_z B dX12_isDue_39 (by decide) ⟨⟨1, 0, _, rfl, h_8, Or.inl ⟨hq3, trivial, rfl, (congrArg Int32.toInt64 (show 1 = duV c ti (fa, fb, me, 0, 0) n_3 from (duV_y e_1).symm)).trans (congrArg (fun w9 : Nat => (duV c ti (fa, fb, me, 0, 0) w9).toInt64) (nI_clamp (n := n_3) (by omega)).symm)⟩⟩, rfl, ⟨0, hI5⟩, (fun b9 h9 => ((hF4 b9 (fun j9 h8 h7 => (show False from h7).elim)).trans ((hF3 b9 (fun j9 h8 h7 => (show False from h7).elim)).trans ((hF1 b9 (fun j9 h8 h7 => (show False from h7).elim)).trans ((fset_fr hΦ1 (fun h8 => h9 (0) h8 (show 0 = 0 by decide))).trans rfl)))))⟩
    · replace hs4 : st4 = [.int 0] := hs4
      subst st4
      replace e_2 : ¬ dueP c ti (fa, fb, me, 0, 0) n_3 := e_2
      refine z_if_eq (tgt := 38) B dX12_isDue_31 rfl (fun c_6 => ?_) (fun h9 => absurd (by decide) h9)
      refine z_iconst (v := 0) B dX12_isDue_38 rfl ?_
      have h_9 : Φ5 x = some (o_ 14 [.int 0, .ref (x + 1), .ref (x + 2), .int ti, .int ra, .int (nI rt), .int ex, .int ad, .ref (x + 3), .ref (x + 4), .int me, .long se, .ref (x + 5), .int (nI fl), .int dr, .long ob, .long sa, .long sn, .long us, .ref (x + 6), .ref (x + 7), .int (nI pe), .ref (x + 8), .int (nI le), .ref (x + 9), .ref (x + 10), .int (nI qu), .ref (x + 11), .ref (x + 12), .ref (x + 13), .ref (x + 14), .ref (x + 15), .ref (x + 16), .int (nI n_1), .long v_1, .ref (x + 17), .ref (x + 18), .ref (x + 19), .ref (x + 20), .ref (x + 21), .ref (x + 22), .int (nI n_2), .ref (x + 23), .ref (x + 24), .int (nI tk), .ref (x + 25), .int (nI il), .int (nI nx), .int ec, .int ep, .int kn, .int (nI st), .int nu, .long va]) := ((hF4 x (fun j9 h8 h7 => (show False from h7).elim)).trans h_7)
      exact z_ret_z B dX12_isDue_39 (by decide) ⟨⟨0, 0, _, rfl, h_9, Or.inl ⟨hq3, trivial, rfl, (congrArg Int32.toInt64 (show 0 = duV c ti (fa, fb, me, 0, 0) n_3 from (duV_n e_2).symm)).trans (congrArg (fun w9 : Nat => (duV c ti (fa, fb, me, 0, 0) w9).toInt64) (nI_clamp (n := n_3) (by omega)).symm)⟩⟩, rfl, ⟨0, hI5⟩, (fun b9 h9 => ((hF4 b9 (fun j9 h8 h7 => (show False from h7).elim)).trans ((hF3 b9 (fun j9 h8 h7 => (show False from h7).elim)).trans ((hF1 b9 (fun j9 h8 h7 => (show False from h7).elim)).trans ((fset_fr hΦ1 (fun h8 => h9 (0) h8 (show 0 = 0 by decide))).trans rfl)))))⟩

set_option maxRecDepth 20000 in
theorem ggX3_value_X3_partOf : GoodIn wsX3_value wsX3_partOf := goodIn_ca ((goodIn_r _ [9, 10, 11] rfl (by decide +kernel))) (goodIn_sub (fun _ h => List.mem_cons_of_mem _ (List.mem_append_right _ h)) (all_fg _))
set_option maxRecDepth 20000 in
theorem gX3_value_X3_partOf : GoodIn wsX3_value (va_wsS RX3 38 yX3_partOf wsX3_partOf) := goodIn_app (goodIn_m (mem_cA (List.mem_cons_of_mem _ (List.mem_append_left _ (List.mem_append_left _ (List.mem_of_getElem? (i := 5) rfl)))) (mem_cA (List.mem_cons_of_mem _ (List.mem_append_left _ (List.mem_append_left _ (List.mem_of_getElem? (i := 6) rfl)))) (mem_cA (List.mem_cons_of_mem _ (List.mem_append_left _ (List.mem_append_left _ (List.mem_of_getElem? (i := 7) rfl)))) mem_cZ))) (by decide +kernel)) ggX3_value_X3_partOf
theorem dX3_value_0 : decode cX3_value 0 = .ok (.iload_n 1, 1) := by decide +kernel
theorem dX3_value_1 : decode cX3_value 1 = .ok (.tableswitch 53 4 7 #[31, 36, 41, 47], 31) := by decide +kernel
theorem dX3_value_32 : decode cX3_value 32 = .ok (.aload_n 0, 1) := by decide +kernel
theorem dX3_value_33 : decode cX3_value 33 = .ok (.getfield 15, 3) := by decide +kernel
theorem dX3_value_36 : decode cX3_value 36 = .ok (.lreturn, 1) := by decide +kernel
theorem dX3_value_37 : decode cX3_value 37 = .ok (.aload_n 0, 1) := by decide +kernel
theorem dX3_value_38 : decode cX3_value 38 = .ok (.getfield 18, 3) := by decide +kernel
theorem dX3_value_41 : decode cX3_value 41 = .ok (.lreturn, 1) := by decide +kernel
theorem dX3_value_42 : decode cX3_value 42 = .ok (.aload_n 0, 1) := by decide +kernel
theorem dX3_value_43 : decode cX3_value 43 = .ok (.getfield 21, 3) := by decide +kernel
theorem dX3_value_46 : decode cX3_value 46 = .ok (.i2l, 1) := by decide +kernel
theorem dX3_value_47 : decode cX3_value 47 = .ok (.lreturn, 1) := by decide +kernel
theorem dX3_value_48 : decode cX3_value 48 = .ok (.aload_n 0, 1) := by decide +kernel
theorem dX3_value_49 : decode cX3_value 49 = .ok (.getfield 25, 3) := by decide +kernel
theorem dX3_value_52 : decode cX3_value 52 = .ok (.i2l, 1) := by decide +kernel
theorem dX3_value_53 : decode cX3_value 53 = .ok (.lreturn, 1) := by decide +kernel
theorem dX3_value_54 : decode cX3_value 54 = .ok (.aload_n 0, 1) := by decide +kernel
theorem dX3_value_55 : decode cX3_value 55 = .ok (.getfield 9, 3) := by decide +kernel
theorem dX3_value_58 : decode cX3_value 58 = .ok (.iload_n 1, 1) := by decide +kernel
theorem dX3_value_59 : decode cX3_value 59 = .ok (.invokestatic 38, 3) := by decide +kernel
theorem dX3_value_62 : decode cX3_value 62 = .ok (.i2l, 1) := by decide +kernel
theorem dX3_value_63 : decode cX3_value 63 = .ok (.lreturn, 1) := by decide +kernel
theorem dX5_put_0 : decode cX5_put 0 = .ok (.iload_n 3, 1) := by decide +kernel
theorem dX5_put_1 : decode cX5_put 1 = .ok (.iconst 1, 1) := by decide +kernel
theorem dX5_put_2 : decode cX5_put 2 = .ok (.isub, 1) := by decide +kernel
theorem dX5_put_3 : decode cX5_put 3 = .ok (.istore 4, 2) := by decide +kernel
theorem dX5_put_5 : decode cX5_put 5 = .ok (.iload 4, 2) := by decide +kernel
theorem dX5_put_7 : decode cX5_put 7 = .ok (.ifCond .lt 49, 3) := by decide +kernel
theorem dX5_put_10 : decode cX5_put 10 = .ok (.aload_n 0, 1) := by decide +kernel
theorem dX5_put_11 : decode cX5_put 11 = .ok (.getfield 9, 3) := by decide +kernel
theorem dX5_put_14 : decode cX5_put 14 = .ok (.aload_n 0, 1) := by decide +kernel
theorem dX5_put_15 : decode cX5_put 15 = .ok (.getfield 21, 3) := by decide +kernel
theorem dX5_put_18 : decode cX5_put 18 = .ok (.arraylength, 1) := by decide +kernel
theorem dX5_put_19 : decode cX5_put 19 = .ok (.if_icmp .ge 31, 3) := by decide +kernel
theorem dX5_put_22 : decode cX5_put 22 = .ok (.aload_n 0, 1) := by decide +kernel
theorem dX5_put_23 : decode cX5_put 23 = .ok (.getfield 21, 3) := by decide +kernel
theorem dX5_put_26 : decode cX5_put 26 = .ok (.aload_n 0, 1) := by decide +kernel
theorem dX5_put_27 : decode cX5_put 27 = .ok (.getfield 9, 3) := by decide +kernel
theorem dX5_put_30 : decode cX5_put 30 = .ok (.lload_n 1, 1) := by decide +kernel
theorem dX5_put_31 : decode cX5_put 31 = .ok (.bipush 8, 2) := by decide +kernel
theorem dX5_put_33 : decode cX5_put 33 = .ok (.iload 4, 2) := by decide +kernel
theorem dX5_put_35 : decode cX5_put 35 = .ok (.imul, 1) := by decide +kernel
theorem dX5_put_36 : decode cX5_put 36 = .ok (.lshr, 1) := by decide +kernel
theorem dX5_put_37 : decode cX5_put 37 = .ok (.l2i, 1) := by decide +kernel
theorem dX5_put_38 : decode cX5_put 38 = .ok (.i2b, 1) := by decide +kernel
theorem dX5_put_39 : decode cX5_put 39 = .ok (.bastore, 1) := by decide +kernel
theorem dX5_put_40 : decode cX5_put 40 = .ok (.aload_n 0, 1) := by decide +kernel
theorem dX5_put_41 : decode cX5_put 41 = .ok (.dup, 1) := by decide +kernel
theorem dX5_put_42 : decode cX5_put 42 = .ok (.getfield 9, 3) := by decide +kernel
theorem dX5_put_45 : decode cX5_put 45 = .ok (.iconst 1, 1) := by decide +kernel
theorem dX5_put_46 : decode cX5_put 46 = .ok (.iadd, 1) := by decide +kernel
theorem dX5_put_47 : decode cX5_put 47 = .ok (.putfield 9, 3) := by decide +kernel
theorem dX5_put_50 : decode cX5_put 50 = .ok (.iinc 4 (-1), 3) := by decide +kernel
theorem dX5_put_53 : decode cX5_put 53 = .ok (.goto (-48), 3) := by decide +kernel
theorem dX5_put_56 : decode cX5_put 56 = .ok (.return_, 1) := by decide +kernel
theorem dX5_putFrom_0 : decode cX5_putFrom 0 = .ok (.iload_n 3, 1) := by decide +kernel
theorem dX5_putFrom_1 : decode cX5_putFrom 1 = .ok (.aload_n 0, 1) := by decide +kernel
theorem dX5_putFrom_2 : decode cX5_putFrom 2 = .ok (.getfield 21, 3) := by decide +kernel
theorem dX5_putFrom_5 : decode cX5_putFrom 5 = .ok (.arraylength, 1) := by decide +kernel
theorem dX5_putFrom_6 : decode cX5_putFrom 6 = .ok (.aload_n 0, 1) := by decide +kernel
theorem dX5_putFrom_7 : decode cX5_putFrom 7 = .ok (.getfield 9, 3) := by decide +kernel
theorem dX5_putFrom_10 : decode cX5_putFrom 10 = .ok (.isub, 1) := by decide +kernel
theorem dX5_putFrom_11 : decode cX5_putFrom 11 = .ok (.invokestatic 25, 3) := by decide +kernel
theorem dX5_putFrom_14 : decode cX5_putFrom 14 = .ok (.istore 4, 2) := by decide +kernel
theorem dX5_putFrom_16 : decode cX5_putFrom 16 = .ok (.iload 4, 2) := by decide +kernel
theorem dX5_putFrom_18 : decode cX5_putFrom 18 = .ok (.ifCond .le 47, 3) := by decide +kernel
theorem dX5_putFrom_21 : decode cX5_putFrom 21 = .ok (.iload_n 2, 1) := by decide +kernel
theorem dX5_putFrom_22 : decode cX5_putFrom 22 = .ok (.ifCond .lt 43, 3) := by decide +kernel
theorem dX5_putFrom_25 : decode cX5_putFrom 25 = .ok (.iload 4, 2) := by decide +kernel
theorem dX5_putFrom_27 : decode cX5_putFrom 27 = .ok (.aload_n 1, 1) := by decide +kernel
theorem dX5_putFrom_28 : decode cX5_putFrom 28 = .ok (.getfield 9, 3) := by decide +kernel
theorem dX5_putFrom_31 : decode cX5_putFrom 31 = .ok (.iload_n 2, 1) := by decide +kernel
theorem dX5_putFrom_32 : decode cX5_putFrom 32 = .ok (.isub, 1) := by decide +kernel
theorem dX5_putFrom_33 : decode cX5_putFrom 33 = .ok (.if_icmp .gt 32, 3) := by decide +kernel
theorem dX5_putFrom_36 : decode cX5_putFrom 36 = .ok (.aload_n 1, 1) := by decide +kernel
theorem dX5_putFrom_37 : decode cX5_putFrom 37 = .ok (.getfield 21, 3) := by decide +kernel
theorem dX5_putFrom_40 : decode cX5_putFrom 40 = .ok (.iload_n 2, 1) := by decide +kernel
theorem dX5_putFrom_41 : decode cX5_putFrom 41 = .ok (.aload_n 0, 1) := by decide +kernel
theorem dX5_putFrom_42 : decode cX5_putFrom 42 = .ok (.getfield 21, 3) := by decide +kernel
theorem dX5_putFrom_45 : decode cX5_putFrom 45 = .ok (.aload_n 0, 1) := by decide +kernel
theorem dX5_putFrom_46 : decode cX5_putFrom 46 = .ok (.getfield 9, 3) := by decide +kernel
theorem dX5_putFrom_49 : decode cX5_putFrom 49 = .ok (.iload 4, 2) := by decide +kernel
theorem dX5_putFrom_51 : decode cX5_putFrom 51 = .ok (.invokestatic 28, 3) := by decide +kernel
theorem dX5_putFrom_54 : decode cX5_putFrom 54 = .ok (.aload_n 0, 1) := by decide +kernel
theorem dX5_putFrom_55 : decode cX5_putFrom 55 = .ok (.dup, 1) := by decide +kernel
theorem dX5_putFrom_56 : decode cX5_putFrom 56 = .ok (.getfield 9, 3) := by decide +kernel
theorem dX5_putFrom_59 : decode cX5_putFrom 59 = .ok (.iload 4, 2) := by decide +kernel
theorem dX5_putFrom_61 : decode cX5_putFrom 61 = .ok (.iadd, 1) := by decide +kernel
theorem dX5_putFrom_62 : decode cX5_putFrom 62 = .ok (.putfield 9, 3) := by decide +kernel
theorem dX5_putFrom_65 : decode cX5_putFrom 65 = .ok (.return_, 1) := by decide +kernel
theorem dX7_swap_0 : decode cX7_swap 0 = .ok (.iload_n 1, 1) := by decide +kernel
theorem dX7_swap_1 : decode cX7_swap 1 = .ok (.ifCond .lt 23, 3) := by decide +kernel
theorem dX7_swap_4 : decode cX7_swap 4 = .ok (.iload_n 1, 1) := by decide +kernel
theorem dX7_swap_5 : decode cX7_swap 5 = .ok (.aload_n 0, 1) := by decide +kernel
theorem dX7_swap_6 : decode cX7_swap 6 = .ok (.getfield 17, 3) := by decide +kernel
theorem dX7_swap_9 : decode cX7_swap 9 = .ok (.if_icmp .ge 15, 3) := by decide +kernel
theorem dX7_swap_12 : decode cX7_swap 12 = .ok (.iload_n 2, 1) := by decide +kernel
theorem dX7_swap_13 : decode cX7_swap 13 = .ok (.ifCond .lt 11, 3) := by decide +kernel
theorem dX7_swap_16 : decode cX7_swap 16 = .ok (.iload_n 2, 1) := by decide +kernel
theorem dX7_swap_17 : decode cX7_swap 17 = .ok (.aload_n 0, 1) := by decide +kernel
theorem dX7_swap_18 : decode cX7_swap 18 = .ok (.getfield 17, 3) := by decide +kernel
theorem dX7_swap_21 : decode cX7_swap 21 = .ok (.if_icmp .lt 4, 3) := by decide +kernel
theorem dX7_swap_24 : decode cX7_swap 24 = .ok (.return_, 1) := by decide +kernel
theorem dX7_swap_25 : decode cX7_swap 25 = .ok (.aload_n 0, 1) := by decide +kernel
theorem dX7_swap_26 : decode cX7_swap 26 = .ok (.getfield 11, 3) := by decide +kernel
theorem dX7_swap_29 : decode cX7_swap 29 = .ok (.iload_n 1, 1) := by decide +kernel
theorem dX7_swap_30 : decode cX7_swap 30 = .ok (.aaload, 1) := by decide +kernel
theorem dX7_swap_31 : decode cX7_swap 31 = .ok (.astore_n 3, 1) := by decide +kernel
theorem dX7_swap_32 : decode cX7_swap 32 = .ok (.aload_n 0, 1) := by decide +kernel
theorem dX7_swap_33 : decode cX7_swap 33 = .ok (.getfield 11, 3) := by decide +kernel
theorem dX7_swap_36 : decode cX7_swap 36 = .ok (.iload_n 1, 1) := by decide +kernel
theorem dX7_swap_37 : decode cX7_swap 37 = .ok (.aload_n 0, 1) := by decide +kernel
theorem dX7_swap_38 : decode cX7_swap 38 = .ok (.getfield 11, 3) := by decide +kernel
theorem dX7_swap_41 : decode cX7_swap 41 = .ok (.iload_n 2, 1) := by decide +kernel
theorem dX7_swap_42 : decode cX7_swap 42 = .ok (.aaload, 1) := by decide +kernel
theorem dX7_swap_43 : decode cX7_swap 43 = .ok (.aastore, 1) := by decide +kernel
theorem dX7_swap_44 : decode cX7_swap 44 = .ok (.aload_n 0, 1) := by decide +kernel
theorem dX7_swap_45 : decode cX7_swap 45 = .ok (.getfield 11, 3) := by decide +kernel
theorem dX7_swap_48 : decode cX7_swap 48 = .ok (.iload_n 2, 1) := by decide +kernel
theorem dX7_swap_49 : decode cX7_swap 49 = .ok (.aload_n 3, 1) := by decide +kernel
theorem dX7_swap_50 : decode cX7_swap 50 = .ok (.aastore, 1) := by decide +kernel
theorem dX7_swap_51 : decode cX7_swap 51 = .ok (.return_, 1) := by decide +kernel
set_option maxRecDepth 20000 in
theorem ggX8_clear_X8_restart : GoodIn wsX8_clear wsX8_restart := (goodIn_ca (goodIn_ca (goodIn_r _ [7, 8, 9, 10, 11, 6, 12, 13, 14, 15, 16, 17, 18, 19, 20, 21, 22, 23, 24] rfl (by decide +kernel)) (goodIn_sub (fun _ h => List.mem_cons_of_mem _ (List.mem_append_left _ (List.mem_append_right _ h))) gw_wsX80)) (goodIn_sub (fun _ h => List.mem_cons_of_mem _ (List.mem_append_right _ h)) gw_wsX50))
set_option maxRecDepth 20000 in
theorem gX8_clear_X8_restart : GoodIn wsX8_clear (wsV RX8 52 RX8 yX8_restart wsX8_restart) := goodIn_app (goodIn_m (mem_cA (List.mem_cons_of_mem _ (List.mem_append_left _ (List.mem_append_left _ (List.mem_of_getElem? (i := 2) rfl)))) (mem_cA (List.mem_cons_of_mem _ (List.mem_append_left _ (List.mem_append_left _ (List.mem_of_getElem? (i := 3) rfl)))) (mem_cA (List.mem_cons_of_mem _ (List.mem_append_left _ (List.mem_append_left _ (List.mem_of_getElem? (i := 4) rfl)))) (mem_cA (List.mem_cons_of_mem _ (List.mem_append_left _ (List.mem_append_left _ (List.mem_of_getElem? (i := 5) rfl)))) mem_cZ)))) (by decide +kernel)) ggX8_clear_X8_restart
theorem dX8_clear_0 : decode cX8_clear 0 = .ok (.aload_n 0, 1) := by decide +kernel
theorem dX8_clear_1 : decode cX8_clear 1 = .ok (.lconst 0, 1) := by decide +kernel
theorem dX8_clear_2 : decode cX8_clear 2 = .ok (.putfield 37, 3) := by decide +kernel
theorem dX8_clear_5 : decode cX8_clear 5 = .ok (.aload_n 0, 1) := by decide +kernel
theorem dX8_clear_6 : decode cX8_clear 6 = .ok (.iconst 0, 1) := by decide +kernel
theorem dX8_clear_7 : decode cX8_clear 7 = .ok (.putfield 34, 3) := by decide +kernel
theorem dX8_clear_10 : decode cX8_clear 10 = .ok (.aload_n 0, 1) := by decide +kernel
theorem dX8_clear_11 : decode cX8_clear 11 = .ok (.invokevirtual 52, 3) := by decide +kernel
theorem dX8_clear_14 : decode cX8_clear 14 = .ok (.return_, 1) := by decide +kernel
set_option maxRecDepth 20000 in
theorem ggX8_restart_X8_emptyPending : GoodIn wsX8_restart wsX8_emptyPending := (goodIn_ca (goodIn_ca (goodIn_r _ [6, 7, 8, 9] rfl (by decide +kernel)) (goodIn_sub (fun _ h => List.mem_cons_of_mem _ (List.mem_append_left _ (List.mem_append_right _ h))) gw_wsX80)) (goodIn_sub (fun _ h => List.mem_cons_of_mem _ (List.mem_append_right _ h)) gw_wsX50))
set_option maxRecDepth 20000 in
theorem gX8_restart_X8_emptyPending : GoodIn wsX8_restart (wsV RX8 55 RX8 yX8_emptyPending wsX8_emptyPending) := goodIn_app (goodIn_m (mem_cA (List.mem_cons_of_mem _ (List.mem_append_left _ (List.mem_append_left _ (List.mem_of_getElem? (i := 1) rfl)))) (mem_cA (List.mem_cons_of_mem _ (List.mem_append_left _ (List.mem_append_left _ (List.mem_of_getElem? (i := 2) rfl)))) (mem_cA (List.mem_cons_of_mem _ (List.mem_append_left _ (List.mem_append_left _ (List.mem_of_getElem? (i := 3) rfl)))) (mem_cA (List.mem_cons_of_mem _ (List.mem_append_left _ (List.mem_append_left _ (List.mem_of_getElem? (i := 4) rfl)))) mem_cZ)))) (by decide +kernel)) ggX8_restart_X8_emptyPending
set_option maxRecDepth 20000 in
theorem ggX8_restart_X8_forgetTemplates : GoodIn wsX8_restart wsX8_forgetTemplates := (goodIn_ca (goodIn_r _ [13, 14, 15, 16, 17, 18] rfl (by decide +kernel)) (goodIn_sub (fun _ h => List.mem_cons_of_mem _ (List.mem_append_left _ (List.mem_append_right _ h))) gw_wsX80))
set_option maxRecDepth 20000 in
theorem gX8_restart_X8_forgetTemplates : GoodIn wsX8_restart (wsV RX8 58 RX8 yX8_forgetTemplates wsX8_forgetTemplates) := goodIn_app (goodIn_m (mem_cA (List.mem_cons_of_mem _ (List.mem_append_left _ (List.mem_append_left _ (List.mem_of_getElem? (i := 9) rfl)))) (mem_cA (List.mem_cons_of_mem _ (List.mem_append_left _ (List.mem_append_left _ (List.mem_of_getElem? (i := 10) rfl)))) (mem_cA (List.mem_cons_of_mem _ (List.mem_append_left _ (List.mem_append_left _ (List.mem_of_getElem? (i := 11) rfl)))) (mem_cA (List.mem_cons_of_mem _ (List.mem_append_left _ (List.mem_append_left _ (List.mem_of_getElem? (i := 4) rfl)))) mem_cZ)))) (by decide +kernel)) ggX8_restart_X8_forgetTemplates
theorem dX8_restart_0 : decode cX8_restart 0 = .ok (.aload_n 0, 1) := by decide +kernel
theorem dX8_restart_1 : decode cX8_restart 1 = .ok (.invokevirtual 55, 3) := by decide +kernel
theorem dX8_restart_4 : decode cX8_restart 4 = .ok (.aload_n 0, 1) := by decide +kernel
theorem dX8_restart_5 : decode cX8_restart 5 = .ok (.iconst 0, 1) := by decide +kernel
theorem dX8_restart_6 : decode cX8_restart 6 = .ok (.putfield 41, 3) := by decide +kernel
theorem dX8_restart_9 : decode cX8_restart 9 = .ok (.aload_n 0, 1) := by decide +kernel
theorem dX8_restart_10 : decode cX8_restart 10 = .ok (.invokevirtual 58, 3) := by decide +kernel
theorem dX8_restart_13 : decode cX8_restart 13 = .ok (.return_, 1) := by decide +kernel
theorem dX8_emptyPending_0 : decode cX8_emptyPending 0 = .ok (.aload_n 0, 1) := by decide +kernel
theorem dX8_emptyPending_1 : decode cX8_emptyPending 1 = .ok (.getfield 14, 3) := by decide +kernel
theorem dX8_emptyPending_4 : decode cX8_emptyPending 4 = .ok (.iconst 0, 1) := by decide +kernel
theorem dX8_emptyPending_5 : decode cX8_emptyPending 5 = .ok (.putfield 61, 3) := by decide +kernel
theorem dX8_emptyPending_8 : decode cX8_emptyPending 8 = .ok (.aload_n 0, 1) := by decide +kernel
theorem dX8_emptyPending_9 : decode cX8_emptyPending 9 = .ok (.iconst 0, 1) := by decide +kernel
theorem dX8_emptyPending_10 : decode cX8_emptyPending 10 = .ok (.putfield 24, 3) := by decide +kernel
theorem dX8_emptyPending_13 : decode cX8_emptyPending 13 = .ok (.return_, 1) := by decide +kernel
set_option maxRecDepth 20000 in
theorem ggX8_forgetTemplates_J7_fill_53178 : GoodIn wsX8_forgetTemplates wsJ7_fill_53178 := (goodIn_r _ [5] rfl (by decide +kernel))
set_option maxRecDepth 20000 in
theorem gX8_forgetTemplates_J7_fill_53178 : GoodIn wsX8_forgetTemplates (va_wsS RX8 64 yJ7_fill_53178 wsJ7_fill_53178) := goodIn_app (goodIn_m (mem_cA (List.mem_cons_of_mem _ (List.mem_append_left _ (List.mem_of_getElem? (i := 1) rfl))) (mem_cA (List.mem_cons_of_mem _ (List.mem_append_left _ (List.mem_of_getElem? (i := 2) rfl))) (mem_cA (List.mem_cons_of_mem _ (List.mem_append_left _ (List.mem_of_getElem? (i := 3) rfl))) mem_cZ))) (by decide +kernel)) ggX8_forgetTemplates_J7_fill_53178
theorem dX8_forgetTemplates_0 : decode cX8_forgetTemplates 0 = .ok (.aload_n 0, 1) := by decide +kernel
theorem dX8_forgetTemplates_1 : decode cX8_forgetTemplates 1 = .ok (.getfield 28, 3) := by decide +kernel
theorem dX8_forgetTemplates_4 : decode cX8_forgetTemplates 4 = .ok (.iconst 0, 1) := by decide +kernel
theorem dX8_forgetTemplates_5 : decode cX8_forgetTemplates 5 = .ok (.invokestatic 64, 3) := by decide +kernel
theorem dX8_forgetTemplates_8 : decode cX8_forgetTemplates 8 = .ok (.return_, 1) := by decide +kernel
set_option maxRecDepth 20000 in
theorem ggX8_forgetTemplatesWith_X1_template : GoodIn wsX8_forgetTemplatesWith wsX1_template := (goodIn_ca (goodIn_r _ [7, 8] rfl (by decide +kernel)) (goodIn_sub (fun _ h => List.mem_cons_of_mem _ (List.mem_append_left _ (List.mem_append_left _ (List.mem_append_right _ h)))) gw_wsX10))
set_option maxRecDepth 20000 in
theorem gX8_forgetTemplatesWith_X1_template : GoodIn wsX8_forgetTemplatesWith (wsV RX8 70 RX1 yX1_template wsX1_template) := goodIn_app (goodIn_m (mem_cA (List.mem_cons_of_mem _ (List.mem_append_left _ (List.mem_append_left _ (List.mem_append_left _ (List.mem_append_left _ (List.mem_of_getElem? (i := 2) rfl)))))) (mem_cA (List.mem_cons_of_mem _ (List.mem_append_left _ (List.mem_append_left _ (List.mem_append_left _ (List.mem_append_left _ (List.mem_of_getElem? (i := 3) rfl)))))) (mem_cA (List.mem_cons_of_mem _ (List.mem_append_left _ (List.mem_append_left _ (List.mem_append_left _ (List.mem_append_left _ (List.mem_of_getElem? (i := 4) rfl)))))) (mem_cA (List.mem_cons_of_mem _ (List.mem_append_left _ (List.mem_append_left _ (List.mem_append_left _ (List.mem_append_left _ (List.mem_of_getElem? (i := 5) rfl)))))) mem_cZ)))) (by decide +kernel)) ggX8_forgetTemplatesWith_X1_template
set_option maxRecDepth 20000 in
theorem ggX8_forgetTemplatesWith_X10_has : GoodIn wsX8_forgetTemplatesWith wsX10_has := (goodIn_ca (goodIn_r _ [13, 14] rfl (by decide +kernel)) (goodIn_sub (fun _ h => List.mem_cons_of_mem _ (List.mem_append_left _ (List.mem_append_right _ h))) gw_wsX100))
set_option maxRecDepth 20000 in
theorem gX8_forgetTemplatesWith_X10_has : GoodIn wsX8_forgetTemplatesWith (wsV RX8 76 RX10 yX10_has wsX10_has) := goodIn_app (goodIn_m (mem_cA (List.mem_cons_of_mem _ (List.mem_append_left _ (List.mem_append_left _ (List.mem_append_left _ (List.mem_append_left _ (List.mem_of_getElem? (i := 8) rfl)))))) (mem_cA (List.mem_cons_of_mem _ (List.mem_append_left _ (List.mem_append_left _ (List.mem_append_left _ (List.mem_append_left _ (List.mem_of_getElem? (i := 9) rfl)))))) (mem_cA (List.mem_cons_of_mem _ (List.mem_append_left _ (List.mem_append_left _ (List.mem_append_left _ (List.mem_append_left _ (List.mem_of_getElem? (i := 10) rfl)))))) (mem_cA (List.mem_cons_of_mem _ (List.mem_append_left _ (List.mem_append_left _ (List.mem_append_left _ (List.mem_append_left _ (List.mem_of_getElem? (i := 11) rfl)))))) mem_cZ)))) (by decide +kernel)) ggX8_forgetTemplatesWith_X10_has
theorem dX8_forgetTemplatesWith_0 : decode cX8_forgetTemplatesWith 0 = .ok (.iconst 0, 1) := by decide +kernel
theorem dX8_forgetTemplatesWith_1 : decode cX8_forgetTemplatesWith 1 = .ok (.istore_n 2, 1) := by decide +kernel
theorem dX8_forgetTemplatesWith_2 : decode cX8_forgetTemplatesWith 2 = .ok (.iload_n 2, 1) := by decide +kernel
theorem dX8_forgetTemplatesWith_3 : decode cX8_forgetTemplatesWith 3 = .ok (.iconst 4, 1) := by decide +kernel
theorem dX8_forgetTemplatesWith_4 : decode cX8_forgetTemplatesWith 4 = .ok (.if_icmp .ge 31, 3) := by decide +kernel
theorem dX8_forgetTemplatesWith_7 : decode cX8_forgetTemplatesWith 7 = .ok (.aload_n 0, 1) := by decide +kernel
theorem dX8_forgetTemplatesWith_8 : decode cX8_forgetTemplatesWith 8 = .ok (.getfield 44, 3) := by decide +kernel
theorem dX8_forgetTemplatesWith_11 : decode cX8_forgetTemplatesWith 11 = .ok (.iload_n 2, 1) := by decide +kernel
theorem dX8_forgetTemplatesWith_12 : decode cX8_forgetTemplatesWith 12 = .ok (.invokevirtual 70, 3) := by decide +kernel
theorem dX8_forgetTemplatesWith_15 : decode cX8_forgetTemplatesWith 15 = .ok (.iload_n 1, 1) := by decide +kernel
theorem dX8_forgetTemplatesWith_16 : decode cX8_forgetTemplatesWith 16 = .ok (.invokevirtual 76, 3) := by decide +kernel
theorem dX8_forgetTemplatesWith_19 : decode cX8_forgetTemplatesWith 19 = .ok (.ifCond .eq 10, 3) := by decide +kernel
theorem dX8_forgetTemplatesWith_22 : decode cX8_forgetTemplatesWith 22 = .ok (.aload_n 0, 1) := by decide +kernel
theorem dX8_forgetTemplatesWith_23 : decode cX8_forgetTemplatesWith 23 = .ok (.getfield 28, 3) := by decide +kernel
theorem dX8_forgetTemplatesWith_26 : decode cX8_forgetTemplatesWith 26 = .ok (.iload_n 2, 1) := by decide +kernel
theorem dX8_forgetTemplatesWith_27 : decode cX8_forgetTemplatesWith 27 = .ok (.iconst 0, 1) := by decide +kernel
theorem dX8_forgetTemplatesWith_28 : decode cX8_forgetTemplatesWith 28 = .ok (.iastore, 1) := by decide +kernel
theorem dX8_forgetTemplatesWith_29 : decode cX8_forgetTemplatesWith 29 = .ok (.iinc 2 1, 3) := by decide +kernel
theorem dX8_forgetTemplatesWith_32 : decode cX8_forgetTemplatesWith 32 = .ok (.goto (-30), 3) := by decide +kernel
theorem dX8_forgetTemplatesWith_35 : decode cX8_forgetTemplatesWith 35 = .ok (.return_, 1) := by decide +kernel
set_option maxRecDepth 20000 in
theorem ggX8_mustSend_X1_effective : GoodIn wsX8_mustSend wsX1_effective := (goodIn_ca (goodIn_r _ [10, 11] rfl (by decide +kernel)) (goodIn_sub (fun _ h => List.mem_cons_of_mem _ (List.mem_append_left _ (List.mem_append_right _ h))) gw_wsX10))
set_option maxRecDepth 20000 in
theorem gX8_mustSend_X1_effective : GoodIn wsX8_mustSend (wsV RX8 82 RX1 yX1_effective wsX1_effective) := goodIn_app (goodIn_m (mem_cA (List.mem_cons_of_mem _ (List.mem_append_left _ (List.mem_append_left _ (List.mem_append_left _ (List.mem_append_left _ (List.mem_of_getElem? (i := 5) rfl)))))) (mem_cA (List.mem_cons_of_mem _ (List.mem_append_left _ (List.mem_append_left _ (List.mem_append_left _ (List.mem_append_left _ (List.mem_of_getElem? (i := 6) rfl)))))) (mem_cA (List.mem_cons_of_mem _ (List.mem_append_left _ (List.mem_append_left _ (List.mem_append_left _ (List.mem_append_left _ (List.mem_of_getElem? (i := 7) rfl)))))) (mem_cA (List.mem_cons_of_mem _ (List.mem_append_left _ (List.mem_append_left _ (List.mem_append_left _ (List.mem_append_left _ (List.mem_of_getElem? (i := 8) rfl)))))) mem_cZ)))) (by decide +kernel)) ggX8_mustSend_X1_effective
set_option maxRecDepth 20000 in
theorem ggX8_mustSend_X1_get : GoodIn wsX8_mustSend wsX1_get := goodIn_ca ((goodIn_ca (goodIn_r _ [15, 16] rfl (by decide +kernel)) (goodIn_sub (fun _ h => List.mem_cons_of_mem _ (List.mem_append_left _ (List.mem_append_right _ h))) gw_wsX10))) (goodIn_sub (fun _ h => List.mem_cons_of_mem _ (List.mem_append_right _ h)) (all_fg _))
set_option maxRecDepth 20000 in
theorem gX8_mustSend_X1_get : GoodIn wsX8_mustSend (wsV RX8 88 RX1 yX1_get wsX1_get) := goodIn_app (goodIn_m (mem_cA (List.mem_cons_of_mem _ (List.mem_append_left _ (List.mem_append_left _ (List.mem_append_left _ (List.mem_append_left _ (List.mem_of_getElem? (i := 11) rfl)))))) (mem_cA (List.mem_cons_of_mem _ (List.mem_append_left _ (List.mem_append_left _ (List.mem_append_left _ (List.mem_append_left _ (List.mem_of_getElem? (i := 12) rfl)))))) (mem_cA (List.mem_cons_of_mem _ (List.mem_append_left _ (List.mem_append_left _ (List.mem_append_left _ (List.mem_append_left _ (List.mem_of_getElem? (i := 13) rfl)))))) (mem_cA (List.mem_cons_of_mem _ (List.mem_append_left _ (List.mem_append_left _ (List.mem_append_left _ (List.mem_append_left _ (List.mem_of_getElem? (i := 8) rfl)))))) mem_cZ)))) (by decide +kernel)) ggX8_mustSend_X1_get
theorem dX8_mustSend_0 : decode cX8_mustSend 0 = .ok (.iload_n 1, 1) := by decide +kernel
theorem dX8_mustSend_1 : decode cX8_mustSend 1 = .ok (.ifCond .lt 22, 3) := by decide +kernel
theorem dX8_mustSend_4 : decode cX8_mustSend 4 = .ok (.iload_n 1, 1) := by decide +kernel
theorem dX8_mustSend_5 : decode cX8_mustSend 5 = .ok (.iconst 4, 1) := by decide +kernel
theorem dX8_mustSend_6 : decode cX8_mustSend 6 = .ok (.if_icmp .ge 17, 3) := by decide +kernel
theorem dX8_mustSend_9 : decode cX8_mustSend 9 = .ok (.aload_n 0, 1) := by decide +kernel
theorem dX8_mustSend_10 : decode cX8_mustSend 10 = .ok (.getfield 44, 3) := by decide +kernel
theorem dX8_mustSend_13 : decode cX8_mustSend 13 = .ok (.iload_n 1, 1) := by decide +kernel
theorem dX8_mustSend_14 : decode cX8_mustSend 14 = .ok (.invokevirtual 82, 3) := by decide +kernel
theorem dX8_mustSend_17 : decode cX8_mustSend 17 = .ok (.getfield 85, 3) := by decide +kernel
theorem dX8_mustSend_20 : decode cX8_mustSend 20 = .ok (.ifCond .ne 5, 3) := by decide +kernel
theorem dX8_mustSend_23 : decode cX8_mustSend 23 = .ok (.iconst 0, 1) := by decide +kernel
theorem dX8_mustSend_24 : decode cX8_mustSend 24 = .ok (.ireturn, 1) := by decide +kernel
theorem dX8_mustSend_25 : decode cX8_mustSend 25 = .ok (.aload_n 0, 1) := by decide +kernel
theorem dX8_mustSend_26 : decode cX8_mustSend 26 = .ok (.getfield 28, 3) := by decide +kernel
theorem dX8_mustSend_29 : decode cX8_mustSend 29 = .ok (.iload_n 1, 1) := by decide +kernel
theorem dX8_mustSend_30 : decode cX8_mustSend 30 = .ok (.iaload, 1) := by decide +kernel
theorem dX8_mustSend_31 : decode cX8_mustSend 31 = .ok (.ifCond .eq 44, 3) := by decide +kernel
theorem dX8_mustSend_34 : decode cX8_mustSend 34 = .ok (.aload_n 0, 1) := by decide +kernel
theorem dX8_mustSend_35 : decode cX8_mustSend 35 = .ok (.getfield 34, 3) := by decide +kernel
theorem dX8_mustSend_38 : decode cX8_mustSend 38 = .ok (.aload_n 0, 1) := by decide +kernel
theorem dX8_mustSend_39 : decode cX8_mustSend 39 = .ok (.getfield 28, 3) := by decide +kernel
theorem dX8_mustSend_42 : decode cX8_mustSend 42 = .ok (.iload_n 1, 1) := by decide +kernel
theorem dX8_mustSend_43 : decode cX8_mustSend 43 = .ok (.iaload, 1) := by decide +kernel
theorem dX8_mustSend_44 : decode cX8_mustSend 44 = .ok (.isub, 1) := by decide +kernel
theorem dX8_mustSend_45 : decode cX8_mustSend 45 = .ok (.aload_n 0, 1) := by decide +kernel
theorem dX8_mustSend_46 : decode cX8_mustSend 46 = .ok (.getfield 44, 3) := by decide +kernel
theorem dX8_mustSend_49 : decode cX8_mustSend 49 = .ok (.iconst 4, 1) := by decide +kernel
theorem dX8_mustSend_50 : decode cX8_mustSend 50 = .ok (.invokevirtual 88, 3) := by decide +kernel
theorem dX8_mustSend_53 : decode cX8_mustSend 53 = .ok (.if_icmp .ge 22, 3) := by decide +kernel
theorem dX8_mustSend_56 : decode cX8_mustSend 56 = .ok (.iload_n 2, 1) := by decide +kernel
theorem dX8_mustSend_57 : decode cX8_mustSend 57 = .ok (.aload_n 0, 1) := by decide +kernel
theorem dX8_mustSend_58 : decode cX8_mustSend 58 = .ok (.getfield 31, 3) := by decide +kernel
theorem dX8_mustSend_61 : decode cX8_mustSend 61 = .ok (.iload_n 1, 1) := by decide +kernel
theorem dX8_mustSend_62 : decode cX8_mustSend 62 = .ok (.iaload, 1) := by decide +kernel
theorem dX8_mustSend_63 : decode cX8_mustSend 63 = .ok (.isub, 1) := by decide +kernel
theorem dX8_mustSend_64 : decode cX8_mustSend 64 = .ok (.aload_n 0, 1) := by decide +kernel
theorem dX8_mustSend_65 : decode cX8_mustSend 65 = .ok (.getfield 44, 3) := by decide +kernel
theorem dX8_mustSend_68 : decode cX8_mustSend 68 = .ok (.iconst 5, 1) := by decide +kernel
theorem dX8_mustSend_69 : decode cX8_mustSend 69 = .ok (.invokevirtual 88, 3) := by decide +kernel
theorem dX8_mustSend_72 : decode cX8_mustSend 72 = .ok (.if_icmp .lt 7, 3) := by decide +kernel
theorem dX8_mustSend_75 : decode cX8_mustSend 75 = .ok (.iconst 1, 1) := by decide +kernel
theorem dX8_mustSend_76 : decode cX8_mustSend 76 = .ok (.goto 4, 3) := by decide +kernel
theorem dX8_mustSend_79 : decode cX8_mustSend 79 = .ok (.iconst 0, 1) := by decide +kernel
theorem dX8_mustSend_80 : decode cX8_mustSend 80 = .ok (.ireturn, 1) := by decide +kernel
theorem dX11_lengthOf_0 : decode cX11_lengthOf 0 = .ok (.iload_n 0, 1) := by decide +kernel
theorem dX11_lengthOf_1 : decode cX11_lengthOf 1 = .ok (.ifCond .lt 17, 3) := by decide +kernel
theorem dX11_lengthOf_4 : decode cX11_lengthOf 4 = .ok (.iload_n 0, 1) := by decide +kernel
theorem dX11_lengthOf_5 : decode cX11_lengthOf 5 = .ok (.bipush 9, 2) := by decide +kernel
theorem dX11_lengthOf_7 : decode cX11_lengthOf 7 = .ok (.if_icmp .ge 11, 3) := by decide +kernel
theorem dX11_lengthOf_10 : decode cX11_lengthOf 10 = .ok (.getstatic 343, 3) := by decide +kernel
theorem dX11_lengthOf_13 : decode cX11_lengthOf 13 = .ok (.iload_n 0, 1) := by decide +kernel
theorem dX11_lengthOf_14 : decode cX11_lengthOf 14 = .ok (.iaload, 1) := by decide +kernel
theorem dX11_lengthOf_15 : decode cX11_lengthOf 15 = .ok (.goto 4, 3) := by decide +kernel
theorem dX11_lengthOf_18 : decode cX11_lengthOf 18 = .ok (.iconst 0, 1) := by decide +kernel
theorem dX11_lengthOf_19 : decode cX11_lengthOf 19 = .ok (.ireturn, 1) := by decide +kernel
set_option maxHeartbeats 4000000 in
set_option maxRecDepth 100000 in
theorem s_X7_swap (G : EnvG) (l : Launch) (Φ : Hm) (sz x ca : Nat) (a : Int32) (b : Int32) (hx : G.2.2.2 ≤ x) (hI : In G x ca Φ)  : Ct G l yX7_swap wsX7_swap ({ frames := 0, cells := 0, slots := 0, locals := 0 }) 0 0 [.ref (x + 46), .int a, .int b] Φ sz (fun v Φ1 sz1 => (v = none) ∧ sz1 = sz ∧ In G x (ca) Φ1 ∧ Fr x (fun j9 => j9 = 47) Φ Φ1) := by
  refine Ct.of (cc := cX7_swap) (maxL := 4) (ret := none) (by decide) rfl (Nat.le_of_ble_eq_true rfl) ?_
  intro p9 e9 s9 m9 w9 t9 k9 B
  show Z p9 l e9 _ s9 m9 _ w9 t9 k9 _ G 4 0 [(0, .ref (x + 46)), (1, .int a), (2, .int b)] [] Φ sz 0 0
  refine z_iload_n B dX7_swap_0 rfl 1 rfl ?_
  refine z_if_lt (tgt := 24) B dX7_swap_1 rfl (fun c_1 => ?_) (fun c_1 => ?_)
  · exact z_ret_v B dX7_swap_24 ⟨rfl, rfl, hI, (fun b9 h9 => rfl)⟩
  · obtain ⟨n_1, e_1, rfl⟩ := nI_of c_1
    refine z_iload_n B dX7_swap_4 rfl 1 rfl ?_
    refine z_aload_n B dX7_swap_5 rfl 0 rfl ?_
    obtain ⟨n_2, v_1, h_1, b_1⟩ := in11 (k := 46) hI rfl
    have h_2 : Φ (x + 46) = some (o_ 9 [.ref (x + 47), .int (nI n_2), .int v_1]) := h_1
    refine z_get (ref := "FlowExporter$Queue") (C := RX7) (T := TX7) (N := 3) (ci := 9) (v := .int (nI n_2)) B hu_X7_swap_X7 rfl 1 (Nat.le_of_ble_eq_true rfl) hv_X7_swap_17 rfl h_2 rfl dX7_swap_6 ?_
    refine z_icmp_ge (tgt := 24) B dX7_swap_9 rfl (fun c_2 => ?_) (fun c_2 => ?_)
    · have e_2 : n_2 ≤ n_1 := (nI_leI (a := n_2) (b := n_1) (by omega) (by omega)).mp c_2
      exact z_ret_v B dX7_swap_24 ⟨rfl, rfl, hI, (fun b9 h9 => rfl)⟩
    · have e_3 : ¬ (n_2 ≤ n_1) := fun h9 => c_2 ((nI_leI (a := n_2) (b := n_1) (by omega) (by omega)).mpr h9)
      refine z_iload_n B dX7_swap_12 rfl 2 rfl ?_
      refine z_if_lt (tgt := 24) B dX7_swap_13 rfl (fun c_3 => ?_) (fun c_3 => ?_)
      · exact z_ret_v B dX7_swap_24 ⟨rfl, rfl, hI, (fun b9 h9 => rfl)⟩
      · obtain ⟨n_3, e_4, rfl⟩ := nI_of c_3
        refine z_iload_n B dX7_swap_16 rfl 2 rfl ?_
        refine z_aload_n B dX7_swap_17 rfl 0 rfl ?_
        refine z_get (ref := "FlowExporter$Queue") (C := RX7) (T := TX7) (N := 3) (ci := 9) (v := .int (nI n_2)) B hu_X7_swap_X7 rfl 1 (Nat.le_of_ble_eq_true rfl) hv_X7_swap_17 rfl h_2 rfl dX7_swap_18 ?_
        refine z_icmp_lt (tgt := 25) B dX7_swap_21 rfl (fun c_4 => ?_) (fun c_4 => ?_)
        · have e_5 : n_3 < n_2 := (nI_ltI (a := n_3) (b := n_2) (by omega) (by omega)).mp c_4
          refine z_aload_n B dX7_swap_25 rfl 0 rfl ?_
          refine z_get (ref := "FlowExporter$Queue") (C := RX7) (T := TX7) (N := 3) (ci := 9) (v := .ref (x + 47)) B hu_X7_swap_X7 rfl 0 (Nat.le_of_ble_eq_true rfl) hv_X7_swap_11 rfl h_2 rfl dX7_swap_26 ?_
          refine z_iload_n B dX7_swap_29 rfl 1 rfl ?_
          obtain ⟨f_1, h_3, r_1⟩ := in12 (k := 47) hI rfl
          have h_4 : Φ (x + 47) = some (aq_ G 6 13 f_1) := h_3
          obtain ⟨m_1, hm_1, hf_1⟩ := r_1 n_1 (by omega)
          refine z_aald (b := x + (48 + 2 * m_1)) B rfl h_4 (vp_in_nI (by omega) (by omega)) ((congrArg f_1 (nI_clamp (by omega))).trans hf_1) dX7_swap_30 ?_
          refine z_astore_n (lv' := [(3, .ref (x + (48 + 2 * m_1))), (0, .ref (x + 46)), (1, .int (nI n_1)), (2, .int (nI n_3))]) B dX7_swap_31 rfl (Nat.le_of_ble_eq_true rfl) rfl ?_
          refine z_aload_n B dX7_swap_32 rfl 1 rfl ?_
          refine z_get (ref := "FlowExporter$Queue") (C := RX7) (T := TX7) (N := 3) (ci := 9) (v := .ref (x + 47)) B hu_X7_swap_X7 rfl 0 (Nat.le_of_ble_eq_true rfl) hv_X7_swap_11 rfl h_2 rfl dX7_swap_33 ?_
          refine z_iload_n B dX7_swap_36 rfl 2 rfl ?_
          refine z_aload_n B dX7_swap_37 rfl 1 rfl ?_
          refine z_get (ref := "FlowExporter$Queue") (C := RX7) (T := TX7) (N := 3) (ci := 9) (v := .ref (x + 47)) B hu_X7_swap_X7 rfl 0 (Nat.le_of_ble_eq_true rfl) hv_X7_swap_11 rfl h_2 rfl dX7_swap_38 ?_
          refine z_iload_n B dX7_swap_41 rfl 3 rfl ?_
          obtain ⟨m_2, hm_2, hf_2⟩ := r_1 n_3 (by omega)
          refine z_aald (b := x + (48 + 2 * m_2)) B rfl h_4 (vp_in_nI (by omega) (by omega)) ((congrArg f_1 (nI_clamp (by omega))).trans hf_2) dX7_swap_42 ?_
          obtain ⟨n_4, h_5, b_2⟩ := in1 (k := 48 + 2 * m_2) hI (kd_q hm_2)
          replace b_2 : n_4 ≤ cap (48 + 2 * m_2) := b_2
          have b_3 := cap_le (48 + 2 * m_2)
          have h_6 : Φ (x + (48 + 2 * m_2)) = some (o_ 7 [.ref (x + (48 + 2 * m_2 + 1)), .int (nI n_4)]) := h_5
          refine z_aast B rfl h_4 (Nat.le_trans hx (Nat.le_add_right x 47)) h_6 rfl (vp_in_nI (by omega) (by omega)) dX7_swap_43 (fun Φ1 hΦ1 => ?_)
          have h_7 : Φ1 (x + 47) = some (aq_ G 6 13 (va_up f_1 (nI n_1).toNatClampNeg (some (x + (48 + 2 * m_2))))) := fset_at hΦ1
          have hI1 : In G x (ca) Φ1 := In.put (k := 47) hI hΦ1 (ok12 (k := 47) rfl ⟨_, rfl, row_up r_1 ⟨m_2, (show m_2 < 13 by omega), rfl⟩⟩)
          refine z_aload_n B dX7_swap_44 rfl 1 rfl ?_
          have h_8 : Φ1 (x + 46) = some (o_ 9 [.ref (x + 47), .int (nI n_2), .int v_1]) := ((fset_fr hΦ1 (ne_off (x := x) (i := 46) (j := 47) rfl)).trans h_2)
          refine z_get (ref := "FlowExporter$Queue") (C := RX7) (T := TX7) (N := 3) (ci := 9) (v := .ref (x + 47)) B hu_X7_swap_X7 rfl 0 (Nat.le_of_ble_eq_true rfl) hv_X7_swap_11 rfl h_8 rfl dX7_swap_45 ?_
          refine z_iload_n B dX7_swap_48 rfl 3 rfl ?_
          refine z_aload_n B dX7_swap_49 rfl 0 rfl ?_
          obtain ⟨f_2, h_9, r_2⟩ := in12 (k := 47) hI1 rfl
          have h_10 : Φ1 (x + 47) = some (aq_ G 6 13 f_2) := h_9
          obtain ⟨n_5, h_11, b_4⟩ := in1 (k := 48 + 2 * m_1) hI1 (kd_q hm_1)
          replace b_4 : n_5 ≤ cap (48 + 2 * m_1) := b_4
          have b_5 := cap_le (48 + 2 * m_1)
          have h_12 : Φ1 (x + (48 + 2 * m_1)) = some (o_ 7 [.ref (x + (48 + 2 * m_1 + 1)), .int (nI n_5)]) := h_11
          refine z_aast B rfl h_10 (Nat.le_trans hx (Nat.le_add_right x 47)) h_12 rfl (vp_in_nI (by omega) (by omega)) dX7_swap_50 (fun Φ2 hΦ2 => ?_)
          have h_13 : Φ2 (x + 47) = some (aq_ G 6 13 (va_up f_2 (nI n_3).toNatClampNeg (some (x + (48 + 2 * m_1))))) := fset_at hΦ2
          have hI2 : In G x (ca) Φ2 := In.put (k := 47) hI1 hΦ2 (ok12 (k := 47) rfl ⟨_, rfl, row_up r_2 ⟨m_1, (show m_1 < 13 by omega), rfl⟩⟩)
          exact z_ret_v B dX7_swap_51 ⟨rfl, rfl, hI2, (fun b9 h9 => ((fset_fr hΦ2 (fun h8 => h9 (47) h8 (show 47 = 47 by decide))).trans ((fset_fr hΦ1 (fun h8 => h9 (47) h8 (show 47 = 47 by decide))).trans rfl)))⟩
        · have e_6 : ¬ (n_3 < n_2) := fun h9 => c_4 ((nI_ltI (a := n_3) (b := n_2) (by omega) (by omega)).mpr h9)
          exact z_ret_v B dX7_swap_24 ⟨rfl, rfl, hI, (fun b9 h9 => rfl)⟩

set_option maxHeartbeats 4000000 in
set_option maxRecDepth 100000 in
theorem s_X11_lengthOf (G : EnvG) (l : Launch) (Φ : Hm) (sz x ca : Nat) (a : Int32) (hx : G.2.2.2 ≤ x) (hI : In G x ca Φ)  : Ct G l yX11_lengthOf wsX11_lengthOf ({ frames := 0, cells := 0, slots := 0, locals := 0 }) 0 0 [.int a] Φ sz (fun v Φ1 sz1 => (∃ n9 : Nat, v = some (.int (nI n9)) ∧ n9 ≤ 8) ∧ sz1 = sz ∧ In G x (ca) Φ1 ∧ Fr x (fun j9 => False) Φ Φ1) := by
  refine Ct.of (cc := cX11_lengthOf) (maxL := 1) (ret := (some .int)) (by decide) rfl (Nat.le_of_ble_eq_true rfl) ?_
  intro p9 e9 s9 m9 w9 t9 k9 B
  show Z p9 l e9 _ s9 m9 _ w9 t9 k9 _ G 1 0 [(0, .int a)] [] Φ sz 0 0
  refine z_iload_n B dX11_lengthOf_0 rfl 0 rfl ?_
  refine z_if_lt (tgt := 18) B dX11_lengthOf_1 rfl (fun c_1 => ?_) (fun c_1 => ?_)
  · refine z_iconst (v := 0) B dX11_lengthOf_18 rfl ?_
    exact z_ret_i B dX11_lengthOf_19 ⟨⟨0, rfl, (show 0 ≤ 8 by omega)⟩, rfl, hI, (fun b9 h9 => rfl)⟩
  · obtain ⟨n_1, e_1, rfl⟩ := nI_of c_1
    refine z_iload_n B dX11_lengthOf_4 rfl 0 rfl ?_
    refine z_bipush (v := 9) B dX11_lengthOf_5 rfl ?_
    refine z_icmp_ge (tgt := 18) B dX11_lengthOf_7 rfl (fun c_2 => ?_) (fun c_2 => ?_)
    · have e_2 : 9 ≤ n_1 := (nI_leI (a := 9) (b := n_1) (by omega) (by omega)).mp c_2
      refine z_iconst (v := 0) B dX11_lengthOf_18 rfl ?_
      exact z_ret_i B dX11_lengthOf_19 ⟨⟨0, rfl, (show 0 ≤ 8 by omega)⟩, rfl, hI, (fun b9 h9 => rfl)⟩
    · have e_3 : ¬ (9 ≤ n_1) := fun h9 => c_2 ((nI_leI (a := 9) (b := n_1) (by omega) (by omega)).mpr h9)
      refine z_sta B B.2.2.2.2.2.1.1.1 (by decide +kernel) rfl dX11_lengthOf_10 ?_
      refine z_iload_n B dX11_lengthOf_13 rfl 0 rfl ?_
      refine z_sald B B.2.2.2.2.2.1.2.2.2.1.1 (B.2.2.2.2.2.1.2.2.2.2 0 (by decide)) (vp_in_nI (by omega) (by omega)) dX11_lengthOf_14 ?_
      obtain ⟨n_2, b_1, e_4⟩ := fbT_nat (show n_1 < 9 by omega)
      refine z_top (st1 := [.int (nI n_2)]) (congrArg (fun w9 : Int32 => ([.int w9] : List Value)) ((congrArg fbT (nI_clamp (by omega))).trans e_4)) ?_
      refine z_goto (tgt := 19) B dX11_lengthOf_15 rfl ?_
      exact z_ret_i B dX11_lengthOf_19 ⟨⟨n_2, rfl, (show n_2 ≤ 8 by omega)⟩, rfl, hI, (fun b9 h9 => rfl)⟩

theorem hu_X5_put_X5 : ∀ w ∈ u_ws RX5 TX5 2, w ∈ wsX5_put := fun _ h => List.mem_cons_of_mem _ (List.mem_append_left _ (List.mem_append_right _ (h)))

theorem hv_X5_put_9 : Cond.fieldLink RX5 9 "FlowExporter$Message" (TX5 1).2.1 (TX5 1).2.2.1 ∈ wsX5_put := List.mem_cons_of_mem _ (List.mem_append_left _ (List.mem_append_left _ (List.mem_of_getElem? (i := 0) rfl)))

theorem hv_X5_put_21 : Cond.fieldLink RX5 21 "FlowExporter$Message" (TX5 0).2.1 (TX5 0).2.2.1 ∈ wsX5_put := List.mem_cons_of_mem _ (List.mem_append_left _ (List.mem_append_left _ (List.mem_of_getElem? (i := 1) rfl)))

set_option maxHeartbeats 4000000 in
set_option maxRecDepth 100000 in
theorem s_X5_put (G : EnvG) (l : Launch) (Φ : Hm) (sz x ca : Nat) (k : Nat) (b : Int64) (n : Nat) (hx : G.2.2.2 ≤ x) (hI : In G x ca Φ) (hk_k : kd k = 1) (hn : n ≤ 8) : Ct G l yX5_put wsX5_put ({ frames := 0, cells := 0, slots := 0, locals := 0 }) 0 0 [.ref (x + (k)), .long b, .int (nI n)] Φ sz (fun v Φ1 sz1 => (v = none) ∧ sz1 = sz ∧ In G x (ca) Φ1 ∧ Fr x (fun j9 => j9 = k ∨ j9 = k + 1) Φ Φ1) := by
  refine Ct.of (cc := cX5_put) (maxL := 5) (ret := none) (by decide) rfl (Nat.le_of_ble_eq_true rfl) ?_
  intro p9 e9 s9 m9 w9 t9 k9 B
  show Z p9 l e9 _ s9 m9 _ w9 t9 k9 _ G 5 0 [(0, .ref (x + (k))), (1, .long b), (3, .int (nI n))] [] Φ sz 0 0
  refine z_iload_n B dX5_put_0 rfl 2 rfl ?_
  refine z_iconst (v := 1) B dX5_put_1 rfl ?_
  refine z_isub B dX5_put_2 ?_
  refine z_istore (lv' := [(4, .int (nI n - 1)), (0, .ref (x + (k))), (1, .long b), (3, .int (nI n))]) B dX5_put_3 (Nat.le_of_ble_eq_true rfl) rfl ?_
  refine z_lv [0, 1, 2, 3] rfl ?_
  refine z_loop (α := Nat) (fun (a9 : Nat) Φi => In G x (ca) Φi ∧ Fr x (fun j9 => j9 = k ∨ j9 = k + 1) Φ Φi ∧ True) (fun a9 => [(4, .int (nI a9 - 1)), (0, .ref (x + (k))), (1, .long b), (3, .int (nI n))]) (fun a9 => a9) ?_ (n) ⟨hI, fun _ _ => rfl, trivial⟩
  rintro i_1 Φl1 ⟨hI1, hF1, -⟩ ih1
  replace hI1 : In G x (ca) Φl1 := hI1
  show Z p9 l e9 _ s9 m9 _ w9 t9 k9 _ G 5 5 [(4, .int (nI i_1 - 1)), (0, .ref (x + (k))), (1, .long b), (3, .int (nI n))] [] Φl1 _ _ _
  refine z_iload B dX5_put_5 0 rfl ?_
  refine z_if_lt (tgt := 56) B dX5_put_7 rfl (fun c_1 => ?_) (fun c_1 => ?_)
  · exact z_ret_v B dX5_put_56 ⟨rfl, rfl, hI1, (fun b9 h9 => ((hF1 b9 h9).trans rfl))⟩
  · have e_1 : 1 ≤ i_1 := pred_pos c_1
    refine z_aload_n B dX5_put_10 rfl 1 rfl ?_
    obtain ⟨n_1, h_1, b_1⟩ := in1 (k := k) hI1 hk_k
    replace b_1 : n_1 ≤ cap (k) := b_1
    have b_2 := cap_le (k)
    have h_2 : Φl1 (x + (k)) = some (o_ 7 [.ref (x + (k + 1)), .int (nI n_1)]) := h_1
    refine z_get (ref := "FlowExporter$Message") (C := RX5) (T := TX5) (N := 2) (ci := 7) (v := .int (nI n_1)) B hu_X5_put_X5 rfl 1 (Nat.le_of_ble_eq_true rfl) hv_X5_put_9 rfl h_2 rfl dX5_put_11 ?_
    refine z_aload_n B dX5_put_14 rfl 1 rfl ?_
    refine z_get (ref := "FlowExporter$Message") (C := RX5) (T := TX5) (N := 2) (ci := 7) (v := .ref (x + (k + 1))) B hu_X5_put_X5 rfl 0 (Nat.le_of_ble_eq_true rfl) hv_X5_put_21 rfl h_2 rfl dX5_put_15 ?_
    obtain ⟨f_1, h_3, r_1⟩ := in2 (k := k + 1) hI1 (kd_c hk_k)
    have b_3 := cap_le (k)
    have h_4 : Φl1 (x + (k + 1)) = some (ab_ G (cap (k)) f_1) := h_3
    refine z_alen (t := 2) (v := nI (cap (k))) B rfl h_4 rfl dX5_put_18 ?_
    refine z_icmp_ge (tgt := 50) B dX5_put_19 rfl (fun c_2 => ?_) (fun c_2 => ?_)
    · have e_2 : cap (k) ≤ n_1 := (nI_leI (a := cap (k)) (b := n_1) (by omega) (by omega)).mp c_2
      refine z_iinc (k := 0) (v := nI (i_1 - 1) - 1) (lv' := [(4, .int (nI (i_1 - 1) - 1)), (0, .ref (x + (k))), (1, .long b), (3, .int (nI n))]) B dX5_put_50 rfl (pred_dec (show 1 ≤ i_1 by omega)) (Nat.le_of_ble_eq_true rfl) rfl ?_
      refine z_goto (tgt := 5) B dX5_put_53 rfl ?_
      refine z_lv [0, 1, 2, 3] rfl ?_
      exact ih1 (i_1 - 1) Φl1 (show (i_1 - 1) < i_1 by omega) ⟨hI1, (fun b9 h9 => ((hF1 b9 h9).trans rfl)), trivial⟩
    · have e_3 : ¬ (cap (k) ≤ n_1) := fun h9 => c_2 ((nI_leI (a := cap (k)) (b := n_1) (by omega) (by omega)).mpr h9)
      refine z_aload_n B dX5_put_22 rfl 1 rfl ?_
      refine z_get (ref := "FlowExporter$Message") (C := RX5) (T := TX5) (N := 2) (ci := 7) (v := .ref (x + (k + 1))) B hu_X5_put_X5 rfl 0 (Nat.le_of_ble_eq_true rfl) hv_X5_put_21 rfl h_2 rfl dX5_put_23 ?_
      refine z_aload_n B dX5_put_26 rfl 1 rfl ?_
      refine z_get (ref := "FlowExporter$Message") (C := RX5) (T := TX5) (N := 2) (ci := 7) (v := .int (nI n_1)) B hu_X5_put_X5 rfl 1 (Nat.le_of_ble_eq_true rfl) hv_X5_put_9 rfl h_2 rfl dX5_put_27 ?_
      refine z_lload_n B dX5_put_30 rfl 2 rfl ?_
      refine z_bipush (v := 8) B dX5_put_31 rfl ?_
      refine z_iload B dX5_put_33 0 rfl ?_
      refine z_imul B dX5_put_35 ?_
      refine z_fi (fun v_1 => ?_)
      refine z_lshr (v := b >>> ((v_1 : Int32).toInt64 &&& 63)) B dX5_put_36 rfl ?_
      refine z_fl (fun v_2 => ?_)
      refine z_l2i (v := v_2.toInt32) B dX5_put_37 rfl ?_
      refine z_fi (fun v_3 => ?_)
      refine z_i2b (v := v_3.toInt8.toInt32) B dX5_put_38 rfl ?_
      refine z_fi (fun v_4 => ?_)
      refine z_bast B h_4 (by omega) (vp_in_nI (by omega) (by omega)) dX5_put_39 (fun Φ1 hΦ1 => ?_)
      have h_5 : Φ1 (x + (k + 1)) = some (ab_ G (cap (k)) (upd f_1 (nI n_1).toNatClampNeg (vp_nar .byte v_4))) := fset_at hΦ1
      have hI2 : In G x (ca) Φ1 := In.put (k := k + 1) hI1 hΦ1 (ok2 (k := k + 1) (kd_c hk_k) ⟨_, rfl, upd_fit r_1⟩)
      refine z_aload_n B dX5_put_40 rfl 1 rfl ?_
      refine z_dup B dX5_put_41 rfl ?_
      have h_6 : Φ1 (x + (k)) = some (o_ 7 [.ref (x + (k + 1)), .int (nI n_1)]) := ((fset_fr hΦ1 (by omega)).trans h_2)
      refine z_get (ref := "FlowExporter$Message") (C := RX5) (T := TX5) (N := 2) (ci := 7) (v := .int (nI n_1)) B hu_X5_put_X5 rfl 1 (Nat.le_of_ble_eq_true rfl) hv_X5_put_9 rfl h_6 rfl dX5_put_42 ?_
      refine z_iconst (v := 1) B dX5_put_45 rfl ?_
      refine z_iadd B dX5_put_46 ?_
      refine z_top (st1 := [.int (nI (n_1 + 1)), .ref (x + (k))]) (congrArg (fun w9 : Int32 => ([.int w9, .ref (x + (k))] : List Value)) (nI_add n_1 1)) ?_
      refine z_put (ref := "FlowExporter$Message") (C := RX5) (T := TX5) (N := 2) (ci := 7) (v := .int (nI (n_1 + 1))) B hu_X5_put_X5 tyX5 tyX5_ok nmX5 rfl 1 (Nat.le_of_ble_eq_true rfl) hv_X5_put_9 rfl (Or.inl rfl) h_6 (by omega) rfl rfl (Nat.le_of_ble_eq_true rfl) dX5_put_47 (fun Φ2 hΦ2 => ?_)
      have h_7 : Φ2 (x + (k)) = some (o_ 7 [.ref (x + (k + 1)), .int (nI (n_1 + 1))]) := fset_at hΦ2
      have hI3 : In G x (ca) Φ2 := In.put (k := k) hI2 hΦ2 (ok1 (k := k) hk_k ⟨n_1 + 1, rfl, (show n_1 + 1 ≤ cap (k) by omega)⟩)
      refine z_iinc (k := 0) (v := nI (i_1 - 1) - 1) (lv' := [(4, .int (nI (i_1 - 1) - 1)), (0, .ref (x + (k))), (1, .long b), (3, .int (nI n))]) B dX5_put_50 rfl (pred_dec (show 1 ≤ i_1 by omega)) (Nat.le_of_ble_eq_true rfl) rfl ?_
      refine z_goto (tgt := 5) B dX5_put_53 rfl ?_
      refine z_lv [0, 1, 2, 3] rfl ?_
      exact ih1 (i_1 - 1) Φ2 (show (i_1 - 1) < i_1 by omega) ⟨hI3, (fun b9 h9 => ((fset_fr hΦ2 (fun h8 => h9 (k) h8 (show k = k ∨ k = k + 1 by omega))).trans ((fset_fr hΦ1 (fun h8 => h9 (k + 1) h8 (show (k + 1) = k ∨ (k + 1) = k + 1 by omega))).trans ((hF1 b9 h9).trans rfl)))), trivial⟩

theorem hu_X5_putFrom_X5 : ∀ w ∈ u_ws RX5 TX5 2, w ∈ wsX5_putFrom := fun _ h => List.mem_cons_of_mem _ (List.mem_append_right _ (h))

theorem hv_X5_putFrom_21 : Cond.fieldLink RX5 21 "FlowExporter$Message" (TX5 0).2.1 (TX5 0).2.2.1 ∈ wsX5_putFrom := List.mem_cons_of_mem _ (List.mem_append_left _ (List.mem_of_getElem? (i := 0) rfl))

theorem hv_X5_putFrom_9 : Cond.fieldLink RX5 9 "FlowExporter$Message" (TX5 1).2.1 (TX5 1).2.2.1 ∈ wsX5_putFrom := List.mem_cons_of_mem _ (List.mem_append_left _ (List.mem_of_getElem? (i := 1) rfl))

set_option maxHeartbeats 4000000 in
set_option maxRecDepth 100000 in
theorem s_X5_putFrom (G : EnvG) (l : Launch) (Φ : Hm) (sz x ca : Nat) (k : Nat) (q : Nat) (a : Int32) (b : Int32) (hx : G.2.2.2 ≤ x) (hI : In G x ca Φ) (hk_k : kd k = 1) (hk_q : kd q = 1) : Ct G l yX5_putFrom wsX5_putFrom ({ frames := 1, cells := 0, slots := 0, locals := 18 }) 0 0 [.ref (x + (k)), .ref (x + (q)), .int a, .int b] Φ sz (fun v Φ1 sz1 => (v = none) ∧ sz1 = sz ∧ In G x (ca) Φ1 ∧ Fr x (fun j9 => j9 = k ∨ j9 = k + 1) Φ Φ1) := by
  refine Ct.of (cc := cX5_putFrom) (maxL := 5) (ret := none) (by decide) rfl (Nat.le_of_ble_eq_true rfl) ?_
  intro p9 e9 s9 m9 w9 t9 k9 B
  show Z p9 l e9 _ s9 m9 _ w9 t9 k9 _ G 5 0 [(0, .ref (x + (k))), (1, .ref (x + (q))), (2, .int a), (3, .int b)] [] Φ sz 0 0
  refine z_iload_n B dX5_putFrom_0 rfl 3 rfl ?_
  refine z_aload_n B dX5_putFrom_1 rfl 0 rfl ?_
  obtain ⟨n_1, h_1, b_1⟩ := in1 (k := k) hI hk_k
  replace b_1 : n_1 ≤ cap (k) := b_1
  have b_2 := cap_le (k)
  have h_2 : Φ (x + (k)) = some (o_ 7 [.ref (x + (k + 1)), .int (nI n_1)]) := h_1
  refine z_get (ref := "FlowExporter$Message") (C := RX5) (T := TX5) (N := 2) (ci := 7) (v := .ref (x + (k + 1))) B hu_X5_putFrom_X5 rfl 0 (Nat.le_of_ble_eq_true rfl) hv_X5_putFrom_21 rfl h_2 rfl dX5_putFrom_2 ?_
  obtain ⟨f_1, h_3, r_1⟩ := in2 (k := k + 1) hI (kd_c hk_k)
  have b_3 := cap_le (k)
  have h_4 : Φ (x + (k + 1)) = some (ab_ G (cap (k)) f_1) := h_3
  refine z_alen (t := 2) (v := nI (cap (k))) B rfl h_4 rfl dX5_putFrom_5 ?_
  refine z_aload_n B dX5_putFrom_6 rfl 0 rfl ?_
  refine z_get (ref := "FlowExporter$Message") (C := RX5) (T := TX5) (N := 2) (ci := 7) (v := .int (nI n_1)) B hu_X5_putFrom_X5 rfl 1 (Nat.le_of_ble_eq_true rfl) hv_X5_putFrom_9 rfl h_2 rfl dX5_putFrom_7 ?_
  refine z_isub B dX5_putFrom_10 ?_
  refine z_top (st1 := [.int (nI ((cap (k)) - n_1)), .int b]) (congrArg (fun w9 : Int32 => ([.int w9, .int b] : List Value)) (nI_sub (show n_1 ≤ cap (k) by omega))) ?_
  refine z_mmin B (by decide +kernel) (by decide +kernel) (by decide +kernel) (by decide +kernel) rfl ⟨Nat.le_of_ble_eq_true rfl, Nat.le_of_ble_eq_true rfl⟩ ⟨Nat.le_of_ble_eq_true rfl, Nat.le_of_ble_eq_true rfl⟩ dX5_putFrom_11 ?_
  refine z_fiq (P := fun w9 => w9 ≤ nI ((cap (k)) - n_1)) (imin_le _ _) (fun v_1 b_4 => ?_)
  replace b_4 : v_1 ≤ nI ((cap (k)) - n_1) := b_4
  refine z_istore (lv' := [(4, .int v_1), (0, .ref (x + (k))), (1, .ref (x + (q))), (2, .int a), (3, .int b)]) B dX5_putFrom_14 (Nat.le_of_ble_eq_true rfl) rfl ?_
  refine z_iload B dX5_putFrom_16 0 rfl ?_
  refine z_if_le (tgt := 65) B dX5_putFrom_18 rfl (fun c_1 => ?_) (fun c_1 => ?_)
  · exact z_ret_v B dX5_putFrom_65 ⟨rfl, rfl, hI, (fun b9 h9 => rfl)⟩
  · obtain ⟨n_2, e_2, e_1, rfl⟩ := nI_ofp c_1
    replace b_4 : n_2 ≤ (cap (k)) - n_1 := (nI_leI (a := n_2) (b := (cap (k)) - n_1) (by omega) (by omega)).mp b_4
    refine z_iload_n B dX5_putFrom_21 rfl 3 rfl ?_
    refine z_if_lt (tgt := 65) B dX5_putFrom_22 rfl (fun c_2 => ?_) (fun c_2 => ?_)
    · exact z_ret_v B dX5_putFrom_65 ⟨rfl, rfl, hI, (fun b9 h9 => rfl)⟩
    · obtain ⟨n_3, e_3, rfl⟩ := nI_of c_2
      refine z_iload B dX5_putFrom_25 0 rfl ?_
      refine z_aload_n B dX5_putFrom_27 rfl 2 rfl ?_
      obtain ⟨n_4, h_5, b_5⟩ := in1 (k := q) hI hk_q
      replace b_5 : n_4 ≤ cap (q) := b_5
      have b_6 := cap_le (q)
      have h_6 : Φ (x + (q)) = some (o_ 7 [.ref (x + (q + 1)), .int (nI n_4)]) := h_5
      refine z_get (ref := "FlowExporter$Message") (C := RX5) (T := TX5) (N := 2) (ci := 7) (v := .int (nI n_4)) B hu_X5_putFrom_X5 rfl 1 (Nat.le_of_ble_eq_true rfl) hv_X5_putFrom_9 rfl h_6 rfl dX5_putFrom_28 ?_
      refine z_iload_n B dX5_putFrom_31 rfl 3 rfl ?_
      refine z_isub B dX5_putFrom_32 ?_
      refine z_icmp_gt (tgt := 65) B dX5_putFrom_33 rfl (fun c_3 => ?_) (fun c_3 => ?_)
      · exact z_ret_v B dX5_putFrom_65 ⟨rfl, rfl, hI, (fun b9 h9 => rfl)⟩
      · have e_4 : n_3 + n_2 ≤ n_4 := sub_le (by omega) (by omega) (by omega) c_3
        refine z_aload_n B dX5_putFrom_36 rfl 2 rfl ?_
        refine z_get (ref := "FlowExporter$Message") (C := RX5) (T := TX5) (N := 2) (ci := 7) (v := .ref (x + (q + 1))) B hu_X5_putFrom_X5 rfl 0 (Nat.le_of_ble_eq_true rfl) hv_X5_putFrom_21 rfl h_6 rfl dX5_putFrom_37 ?_
        refine z_iload_n B dX5_putFrom_40 rfl 3 rfl ?_
        refine z_aload_n B dX5_putFrom_41 rfl 1 rfl ?_
        refine z_get (ref := "FlowExporter$Message") (C := RX5) (T := TX5) (N := 2) (ci := 7) (v := .ref (x + (k + 1))) B hu_X5_putFrom_X5 rfl 0 (Nat.le_of_ble_eq_true rfl) hv_X5_putFrom_21 rfl h_2 rfl dX5_putFrom_42 ?_
        refine z_aload_n B dX5_putFrom_45 rfl 1 rfl ?_
        refine z_get (ref := "FlowExporter$Message") (C := RX5) (T := TX5) (N := 2) (ci := 7) (v := .int (nI n_1)) B hu_X5_putFrom_X5 rfl 1 (Nat.le_of_ble_eq_true rfl) hv_X5_putFrom_9 rfl h_2 rfl dX5_putFrom_46 ?_
        refine z_iload B dX5_putFrom_49 0 rfl ?_
        obtain ⟨f_2, h_7, r_2⟩ := in2 (k := q + 1) hI (kd_c hk_q)
        have b_7 := cap_le (q)
        have h_8 : Φ (x + (q + 1)) = some (ab_ G (cap (q)) f_2) := h_7
        refine z_copy (t := 2) (ty := .byte) B (by decide +kernel) (by decide +kernel) (by decide +kernel) (by decide +kernel) rfl rfl h_8 h_4 (by omega) (nI_pos (by omega)) (nI_pos (by omega)) (nI_pos (by omega)) (by rw [nI_clamp (n := n_3) (by omega), nI_clamp (n := n_2) (by omega)]; omega) (by rw [nI_clamp (n := n_1) (by omega), nI_clamp (n := n_2) (by omega)]; omega) (fun _ _ => r_2 _) (Nat.le_of_ble_eq_true rfl) (by decide +kernel) dX5_putFrom_51 (fun Φ1 hΦ1 => ?_)
        have h_9 : Φ1 (x + (k + 1)) = some (ab_ G (cap (k)) (va_cpy f_2 f_1 (nI n_3).toNatClampNeg (nI n_1).toNatClampNeg (nI n_2).toNatClampNeg)) := fset_at hΦ1
        have hI1 : In G x (ca) Φ1 := In.put (k := k + 1) hI hΦ1 (ok2 (k := k + 1) (kd_c hk_k) ⟨_, rfl, cpy_fit r_2 r_1⟩)
        refine z_aload_n B dX5_putFrom_54 rfl 1 rfl ?_
        refine z_dup B dX5_putFrom_55 rfl ?_
        have h_10 : Φ1 (x + (k)) = some (o_ 7 [.ref (x + (k + 1)), .int (nI n_1)]) := ((fset_fr hΦ1 (by omega)).trans h_2)
        refine z_get (ref := "FlowExporter$Message") (C := RX5) (T := TX5) (N := 2) (ci := 7) (v := .int (nI n_1)) B hu_X5_putFrom_X5 rfl 1 (Nat.le_of_ble_eq_true rfl) hv_X5_putFrom_9 rfl h_10 rfl dX5_putFrom_56 ?_
        refine z_iload B dX5_putFrom_59 0 rfl ?_
        refine z_iadd B dX5_putFrom_61 ?_
        refine z_top (st1 := [.int (nI (n_1 + n_2)), .ref (x + (k))]) (congrArg (fun w9 : Int32 => ([.int w9, .ref (x + (k))] : List Value)) (nI_add n_1 n_2)) ?_
        refine z_put (ref := "FlowExporter$Message") (C := RX5) (T := TX5) (N := 2) (ci := 7) (v := .int (nI (n_1 + n_2))) B hu_X5_putFrom_X5 tyX5 tyX5_ok nmX5 rfl 1 (Nat.le_of_ble_eq_true rfl) hv_X5_putFrom_9 rfl (Or.inl rfl) h_10 (by omega) rfl rfl (Nat.le_of_ble_eq_true rfl) dX5_putFrom_62 (fun Φ2 hΦ2 => ?_)
        have h_11 : Φ2 (x + (k)) = some (o_ 7 [.ref (x + (k + 1)), .int (nI (n_1 + n_2))]) := fset_at hΦ2
        have hI2 : In G x (ca) Φ2 := In.put (k := k) hI1 hΦ2 (ok1 (k := k) hk_k ⟨n_1 + n_2, rfl, (show n_1 + n_2 ≤ cap (k) by omega)⟩)
        exact z_ret_v B dX5_putFrom_65 ⟨rfl, rfl, hI2, (fun b9 h9 => ((fset_fr hΦ2 (fun h8 => h9 (k) h8 (show k = k ∨ k = k + 1 by omega))).trans ((fset_fr hΦ1 (fun h8 => h9 (k + 1) h8 (show (k + 1) = k ∨ (k + 1) = k + 1 by omega))).trans rfl)))⟩

theorem pred_zero {i : Nat} (hi : i < 2 ^ 31) (h : nI i - 1 < 0) : i = 0 := by
  rcases i with _ | i
  · rfl
  · have h1 : nI (i + 1) - 1 = nI i := nI_sub (a := i + 1) (b := 1) (by omega)
    rw [h1] at h
    exact absurd h (nI_pos (by omega))

set_option maxHeartbeats 4000000 in
set_option maxRecDepth 100000 in
theorem s_X5_put1 (G : EnvG) (l : Launch) (Φ : Hm) (sz x ca : Nat) (m : Nat) (b : Int64) (n : Nat) (hx : G.2.2.2 ≤ x) (hI : In G x ca Φ) (hc0 : Φ (x + 1) = some (o_ 7 [.ref (x + 2), .int (nI m)])) (hn : n ≤ 8) (hm : m + n ≤ 700) : Ct G l yX5_put wsX5_put ({ frames := 0, cells := 0, slots := 0, locals := 0 }) 0 0 [.ref (x + 1), .long b, .int (nI n)] Φ sz (fun v Φ1 sz1 => ((v = none) ∧ Φ1 (x + 1) = some (o_ 7 [.ref (x + 2), .int (nI (m + n))])) ∧ sz1 = sz ∧ In G x (ca) Φ1 ∧ Fr x (fun j9 => j9 = 1 ∨ j9 = 2) Φ Φ1) := by
  refine Ct.of (cc := cX5_put) (maxL := 5) (ret := none) (by decide) rfl (Nat.le_of_ble_eq_true rfl) ?_
  intro p9 e9 s9 m9 w9 t9 k9 B
  show Z p9 l e9 _ s9 m9 _ w9 t9 k9 _ G 5 0 [(0, .ref (x + 1)), (1, .long b), (3, .int (nI n))] [] Φ sz 0 0
  refine z_iload_n B dX5_put_0 rfl 2 rfl ?_
  refine z_iconst (v := 1) B dX5_put_1 rfl ?_
  refine z_isub B dX5_put_2 ?_
  refine z_istore (lv' := [(4, .int (nI n - 1)), (0, .ref (x + 1)), (1, .long b), (3, .int (nI n))]) B dX5_put_3 (Nat.le_of_ble_eq_true rfl) rfl ?_
  refine z_lv [0, 1, 2, 3] rfl ?_
  refine z_loop (α := Nat) (fun (a9 : Nat) Φi => In G x (ca) Φi ∧ Fr x (fun j9 => j9 = 1 ∨ j9 = 2) Φ Φi ∧ (a9 ≤ n) ∧ (Φi (x + 1) = some (o_ 7 [.ref (x + 2), .int (nI (m + (n - a9)))])) ∧ True) (fun a9 => [(4, .int (nI a9 - 1)), (0, .ref (x + 1)), (1, .long b), (3, .int (nI n))]) (fun a9 => a9) ?_ (n) ⟨hI, fun _ _ => rfl, (show n ≤ n by omega), (hc0.trans (congrArg (fun w9 : Nat => some (o_ 7 [.ref (x + 2), .int (nI w9)])) (show m = m + (n - n) by omega))), trivial⟩
  rintro i_1 Φl1 ⟨hI1, hF1, b_1, b_2, -⟩ ih1
  replace hI1 : In G x (ca) Φl1 := hI1
  replace b_1 : i_1 ≤ n := b_1
  replace b_2 : Φl1 (x + 1) = some (o_ 7 [.ref (x + 2), .int (nI (m + (n - i_1)))]) := b_2
  show Z p9 l e9 _ s9 m9 _ w9 t9 k9 _ G 5 5 [(4, .int (nI i_1 - 1)), (0, .ref (x + 1)), (1, .long b), (3, .int (nI n))] [] Φl1 _ _ _
  refine z_iload B dX5_put_5 0 rfl ?_
  refine z_if_lt (tgt := 56) B dX5_put_7 rfl (fun c_1 => ?_) (fun c_1 => ?_)
  · have e_1 : i_1 = 0 := pred_zero (by omega) c_1
    exact z_ret_v B dX5_put_56 ⟨⟨rfl, (b_2.trans (congrArg (fun w9 : Nat => some (o_ 7 [.ref (x + 2), .int (nI w9)])) (show m + (n - i_1) = m + n by omega)))⟩, rfl, hI1, (fun b9 h9 => ((hF1 b9 h9).trans rfl))⟩
  · have e_2 : 1 ≤ i_1 := pred_pos c_1
    refine z_aload_n B dX5_put_10 rfl 1 rfl ?_
    refine z_get (ref := "FlowExporter$Message") (C := RX5) (T := TX5) (N := 2) (ci := 7) (v := .int (nI (m + (n - i_1)))) B hu_X5_put_X5 rfl 1 (Nat.le_of_ble_eq_true rfl) hv_X5_put_9 rfl b_2 rfl dX5_put_11 ?_
    refine z_aload_n B dX5_put_14 rfl 1 rfl ?_
    refine z_get (ref := "FlowExporter$Message") (C := RX5) (T := TX5) (N := 2) (ci := 7) (v := .ref (x + 2)) B hu_X5_put_X5 rfl 0 (Nat.le_of_ble_eq_true rfl) hv_X5_put_21 rfl b_2 rfl dX5_put_15 ?_
    obtain ⟨f_1, h_1, r_1⟩ := in2 (k := 2) hI1 rfl
    have h_2 : Φl1 (x + 2) = some (ab_ G 700 f_1) := h_1
    refine z_alen (t := 2) (v := 700) B rfl h_2 rfl dX5_put_18 ?_
    refine z_icmp_ge (tgt := 50) B dX5_put_19 rfl (fun c_2 => ?_) (fun c_2 => ?_)
    · have e_3 : 700 ≤ m + (n - i_1) := (nI_leI (a := 700) (b := m + (n - i_1)) (by omega) (by omega)).mp c_2
      refine z_iinc (k := 0) (v := nI (i_1 - 1) - 1) (lv' := [(4, .int (nI (i_1 - 1) - 1)), (0, .ref (x + 1)), (1, .long b), (3, .int (nI n))]) B dX5_put_50 rfl (pred_dec (show 1 ≤ i_1 by omega)) (Nat.le_of_ble_eq_true rfl) rfl ?_
      refine z_goto (tgt := 5) B dX5_put_53 rfl ?_
      refine z_lv [0, 1, 2, 3] rfl ?_
      exact ih1 (i_1 - 1) Φl1 (show (i_1 - 1) < i_1 by omega) ⟨hI1, (fun b9 h9 => ((hF1 b9 h9).trans rfl)), (show (i_1 - 1) ≤ n by omega), (b_2.trans (congrArg (fun w9 : Nat => some (o_ 7 [.ref (x + 2), .int (nI w9)])) (show m + (n - i_1) = m + (n - (i_1 - 1)) by omega))), trivial⟩
    · have e_4 : ¬ (700 ≤ m + (n - i_1)) := fun h9 => c_2 ((nI_leI (a := 700) (b := m + (n - i_1)) (by omega) (by omega)).mpr h9)
      refine z_aload_n B dX5_put_22 rfl 1 rfl ?_
      refine z_get (ref := "FlowExporter$Message") (C := RX5) (T := TX5) (N := 2) (ci := 7) (v := .ref (x + 2)) B hu_X5_put_X5 rfl 0 (Nat.le_of_ble_eq_true rfl) hv_X5_put_21 rfl b_2 rfl dX5_put_23 ?_
      refine z_aload_n B dX5_put_26 rfl 1 rfl ?_
      refine z_get (ref := "FlowExporter$Message") (C := RX5) (T := TX5) (N := 2) (ci := 7) (v := .int (nI (m + (n - i_1)))) B hu_X5_put_X5 rfl 1 (Nat.le_of_ble_eq_true rfl) hv_X5_put_9 rfl b_2 rfl dX5_put_27 ?_
      refine z_lload_n B dX5_put_30 rfl 2 rfl ?_
      refine z_bipush (v := 8) B dX5_put_31 rfl ?_
      refine z_iload B dX5_put_33 0 rfl ?_
      refine z_imul B dX5_put_35 ?_
      refine z_fi (fun v_1 => ?_)
      refine z_lshr (v := b >>> ((v_1 : Int32).toInt64 &&& 63)) B dX5_put_36 rfl ?_
      refine z_fl (fun v_2 => ?_)
      refine z_l2i (v := v_2.toInt32) B dX5_put_37 rfl ?_
      refine z_fi (fun v_3 => ?_)
      refine z_i2b (v := v_3.toInt8.toInt32) B dX5_put_38 rfl ?_
      refine z_fi (fun v_4 => ?_)
      refine z_bast B h_2 (Nat.le_trans hx (Nat.le_add_right x 2)) (vp_in_nI (by omega) (by omega)) dX5_put_39 (fun Φ1 hΦ1 => ?_)
      have h_3 : Φ1 (x + 2) = some (ab_ G 700 (upd f_1 (nI (m + (n - i_1))).toNatClampNeg (vp_nar .byte v_4))) := fset_at hΦ1
      have hI2 : In G x (ca) Φ1 := In.put (k := 2) hI1 hΦ1 (ok2 (k := 2) rfl ⟨_, rfl, upd_fit r_1⟩)
      refine z_aload_n B dX5_put_40 rfl 1 rfl ?_
      refine z_dup B dX5_put_41 rfl ?_
      have h_4 : Φ1 (x + 1) = some (o_ 7 [.ref (x + 2), .int (nI (m + (n - i_1)))]) := ((fset_fr hΦ1 (ne_off (x := x) (i := 1) (j := 2) rfl)).trans b_2)
      refine z_get (ref := "FlowExporter$Message") (C := RX5) (T := TX5) (N := 2) (ci := 7) (v := .int (nI (m + (n - i_1)))) B hu_X5_put_X5 rfl 1 (Nat.le_of_ble_eq_true rfl) hv_X5_put_9 rfl h_4 rfl dX5_put_42 ?_
      refine z_iconst (v := 1) B dX5_put_45 rfl ?_
      refine z_iadd B dX5_put_46 ?_
      refine z_top (st1 := [.int (nI (m + (n - i_1) + 1)), .ref (x + 1)]) (congrArg (fun w9 : Int32 => ([.int w9, .ref (x + 1)] : List Value)) (nI_add (m + (n - i_1)) 1)) ?_
      refine z_put (ref := "FlowExporter$Message") (C := RX5) (T := TX5) (N := 2) (ci := 7) (v := .int (nI (m + (n - i_1) + 1))) B hu_X5_put_X5 tyX5 tyX5_ok nmX5 rfl 1 (Nat.le_of_ble_eq_true rfl) hv_X5_put_9 rfl (Or.inl rfl) h_4 (Nat.le_trans hx (Nat.le_add_right x 1)) rfl rfl (Nat.le_of_ble_eq_true rfl) dX5_put_47 (fun Φ2 hΦ2 => ?_)
      have h_5 : Φ2 (x + 1) = some (o_ 7 [.ref (x + 2), .int (nI (m + (n - i_1) + 1))]) := fset_at hΦ2
      have hI3 : In G x (ca) Φ2 := In.put (k := 1) hI2 hΦ2 (ok1 (k := 1) rfl ⟨m + (n - i_1) + 1, rfl, (show m + (n - i_1) + 1 ≤ 700 by omega)⟩)
      refine z_iinc (k := 0) (v := nI (i_1 - 1) - 1) (lv' := [(4, .int (nI (i_1 - 1) - 1)), (0, .ref (x + 1)), (1, .long b), (3, .int (nI n))]) B dX5_put_50 rfl (pred_dec (show 1 ≤ i_1 by omega)) (Nat.le_of_ble_eq_true rfl) rfl ?_
      refine z_goto (tgt := 5) B dX5_put_53 rfl ?_
      refine z_lv [0, 1, 2, 3] rfl ?_
      exact ih1 (i_1 - 1) Φ2 (show (i_1 - 1) < i_1 by omega) ⟨hI3, (fun b9 h9 => ((fset_fr hΦ2 (fun h8 => h9 (1) h8 (show 1 = 1 ∨ 1 = 2 by decide))).trans ((fset_fr hΦ1 (fun h8 => h9 (2) h8 (show 2 = 1 ∨ 2 = 2 by decide))).trans ((hF1 b9 h9).trans rfl)))), (show (i_1 - 1) ≤ n by omega), (h_5.trans (congrArg (fun w9 : Nat => some (o_ 7 [.ref (x + 2), .int (nI w9)])) (show m + (n - i_1) + 1 = m + (n - (i_1 - 1)) by omega))), trivial⟩

theorem hu_X3_value_X3 : ∀ w ∈ u_ws RX3 TX3 5, w ∈ wsX3_value := fun _ h => List.mem_cons_of_mem _ (List.mem_append_left _ (List.mem_append_right _ (h)))

theorem hv_X3_value_15 : Cond.fieldLink RX3 15 "FlowExporter$Flow" (TX3 1).2.1 (TX3 1).2.2.1 ∈ wsX3_value := List.mem_cons_of_mem _ (List.mem_append_left _ (List.mem_append_left _ (List.mem_of_getElem? (i := 0) rfl)))

theorem hv_X3_value_18 : Cond.fieldLink RX3 18 "FlowExporter$Flow" (TX3 2).2.1 (TX3 2).2.2.1 ∈ wsX3_value := List.mem_cons_of_mem _ (List.mem_append_left _ (List.mem_append_left _ (List.mem_of_getElem? (i := 1) rfl)))

theorem hv_X3_value_21 : Cond.fieldLink RX3 21 "FlowExporter$Flow" (TX3 3).2.1 (TX3 3).2.2.1 ∈ wsX3_value := List.mem_cons_of_mem _ (List.mem_append_left _ (List.mem_append_left _ (List.mem_of_getElem? (i := 2) rfl)))

theorem hv_X3_value_25 : Cond.fieldLink RX3 25 "FlowExporter$Flow" (TX3 4).2.1 (TX3 4).2.2.1 ∈ wsX3_value := List.mem_cons_of_mem _ (List.mem_append_left _ (List.mem_append_left _ (List.mem_of_getElem? (i := 3) rfl)))

theorem hv_X3_value_9 : Cond.fieldLink RX3 9 "FlowExporter$Flow" (TX3 0).2.1 (TX3 0).2.2.1 ∈ wsX3_value := List.mem_cons_of_mem _ (List.mem_append_left _ (List.mem_append_left _ (List.mem_of_getElem? (i := 4) rfl)))

set_option maxHeartbeats 4000000 in
set_option maxRecDepth 100000 in
theorem s_X3_value (G : EnvG) (l : Launch) (Φ : Hm) (sz x ca : Nat) (k : Nat) (a : Int32) (hx : G.2.2.2 ≤ x) (hI : In G x ca Φ) (hk_k : kd k = 19) : Ct G l yX3_value wsX3_value ({ frames := 1, cells := 0, slots := 0, locals := 22 }) 0 0 [.ref (x + (k)), .int a] Φ sz (fun v Φ1 sz1 => (∃ r9 : Int64, v = some (.long r9)) ∧ sz1 = sz ∧ In G x (ca) Φ1 ∧ Fr x (fun j9 => False) Φ Φ1) := by
  refine Ct.of (cc := cX3_value) (maxL := 2) (ret := (some .long)) (by decide) rfl (Nat.le_of_ble_eq_true rfl) ?_
  intro p9 e9 s9 m9 w9 t9 k9 B
  show Z p9 l e9 _ s9 m9 _ w9 t9 k9 _ G 2 0 [(0, .ref (x + (k))), (1, .int a)] [] Φ sz 0 0
  refine z_iload_n B dX3_value_0 rfl 1 rfl ?_
  by_cases e_1 : a = 4
  · subst e_1
    refine z_tableIn (off := 31) (tgt := 32) B dX3_value_1 (by decide) (by decide) (by decide) rfl ?_
    refine z_aload_n B dX3_value_32 rfl 0 rfl ?_
    obtain ⟨v_1, v_2, v_3, v_4, v_5, h_1⟩ := in19 (k := k) hI hk_k
    have h_2 : Φ (x + (k)) = some (o_ 5 [.long v_1, .long v_2, .long v_3, .int v_4, .int v_5]) := h_1
    refine z_get (ref := "FlowExporter$Flow") (C := RX3) (T := TX3) (N := 5) (ci := 5) (v := .long v_2) B hu_X3_value_X3 rfl 1 (Nat.le_of_ble_eq_true rfl) hv_X3_value_15 rfl h_2 rfl dX3_value_33 ?_
    exact z_ret_l B dX3_value_36 ⟨⟨_, rfl⟩, rfl, hI, (fun b9 h9 => rfl)⟩
  by_cases e_2 : a = 5
  · subst e_2
    refine z_tableIn (off := 36) (tgt := 37) B dX3_value_1 (by decide) (by decide) (by decide) rfl ?_
    refine z_aload_n B dX3_value_37 rfl 0 rfl ?_
    obtain ⟨v_6, v_7, v_8, v_9, v_10, h_3⟩ := in19 (k := k) hI hk_k
    have h_4 : Φ (x + (k)) = some (o_ 5 [.long v_6, .long v_7, .long v_8, .int v_9, .int v_10]) := h_3
    refine z_get (ref := "FlowExporter$Flow") (C := RX3) (T := TX3) (N := 5) (ci := 5) (v := .long v_8) B hu_X3_value_X3 rfl 2 (Nat.le_of_ble_eq_true rfl) hv_X3_value_18 rfl h_4 rfl dX3_value_38 ?_
    exact z_ret_l B dX3_value_41 ⟨⟨_, rfl⟩, rfl, hI, (fun b9 h9 => rfl)⟩
  by_cases e_3 : a = 6
  · subst e_3
    refine z_tableIn (off := 41) (tgt := 42) B dX3_value_1 (by decide) (by decide) (by decide) rfl ?_
    refine z_aload_n B dX3_value_42 rfl 0 rfl ?_
    obtain ⟨v_11, v_12, v_13, v_14, v_15, h_5⟩ := in19 (k := k) hI hk_k
    have h_6 : Φ (x + (k)) = some (o_ 5 [.long v_11, .long v_12, .long v_13, .int v_14, .int v_15]) := h_5
    refine z_get (ref := "FlowExporter$Flow") (C := RX3) (T := TX3) (N := 5) (ci := 5) (v := .int v_14) B hu_X3_value_X3 rfl 3 (Nat.le_of_ble_eq_true rfl) hv_X3_value_21 rfl h_6 rfl dX3_value_43 ?_
    refine z_i2l (v := v_14.toInt64) B dX3_value_46 rfl ?_
    refine z_fl (fun v_16 => ?_)
    exact z_ret_l B dX3_value_47 ⟨⟨_, rfl⟩, rfl, hI, (fun b9 h9 => rfl)⟩
  by_cases e_4 : a = 7
  · subst e_4
    refine z_tableIn (off := 47) (tgt := 48) B dX3_value_1 (by decide) (by decide) (by decide) rfl ?_
    refine z_aload_n B dX3_value_48 rfl 0 rfl ?_
    obtain ⟨v_17, v_18, v_19, v_20, v_21, h_7⟩ := in19 (k := k) hI hk_k
    have h_8 : Φ (x + (k)) = some (o_ 5 [.long v_17, .long v_18, .long v_19, .int v_20, .int v_21]) := h_7
    refine z_get (ref := "FlowExporter$Flow") (C := RX3) (T := TX3) (N := 5) (ci := 5) (v := .int v_21) B hu_X3_value_X3 rfl 4 (Nat.le_of_ble_eq_true rfl) hv_X3_value_25 rfl h_8 rfl dX3_value_49 ?_
    refine z_i2l (v := v_21.toInt64) B dX3_value_52 rfl ?_
    refine z_fl (fun v_22 => ?_)
    exact z_ret_l B dX3_value_53 ⟨⟨_, rfl⟩, rfl, hI, (fun b9 h9 => rfl)⟩
  have e_5 : (a).toInt ≠ 4 := fun q9 => e_1 (Int32.toInt_inj.mp (q9.trans (show (4 : Int) = (4 : Int32).toInt by decide)))
  have e_6 : (a).toInt ≠ 5 := fun q9 => e_2 (Int32.toInt_inj.mp (q9.trans (show (5 : Int) = (5 : Int32).toInt by decide)))
  have e_7 : (a).toInt ≠ 6 := fun q9 => e_3 (Int32.toInt_inj.mp (q9.trans (show (6 : Int) = (6 : Int32).toInt by decide)))
  have e_8 : (a).toInt ≠ 7 := fun q9 => e_4 (Int32.toInt_inj.mp (q9.trans (show (7 : Int) = (7 : Int32).toInt by decide)))
  refine z_tableOut (tgt := 54) B dX3_value_1 (by omega) rfl ?_
  refine z_aload_n B dX3_value_54 rfl 0 rfl ?_
  obtain ⟨v_23, v_24, v_25, v_26, v_27, h_9⟩ := in19 (k := k) hI hk_k
  have h_10 : Φ (x + (k)) = some (o_ 5 [.long v_23, .long v_24, .long v_25, .int v_26, .int v_27]) := h_9
  refine z_get (ref := "FlowExporter$Flow") (C := RX3) (T := TX3) (N := 5) (ci := 5) (v := .long v_23) B hu_X3_value_X3 rfl 0 (Nat.le_of_ble_eq_true rfl) hv_X3_value_9 rfl h_10 rfl dX3_value_55 ?_
  refine z_iload_n B dX3_value_58 rfl 1 rfl ?_
  refine z_callS (As := [.long v_23, .int a]) (rest := []) B (s_X3_partOf G l Φ sz x (ca) v_23 a hx hI ) (va_cwS 2 B.1.2.2.2.2 gX3_value_X3_partOf rfl rfl rfl (by decide +kernel) ⟨Nat.le_of_ble_eq_true rfl, Nat.le_of_ble_eq_true rfl⟩) rfl rfl (Nat.le_of_ble_eq_true rfl) dX3_value_59 ⟨Nat.le_of_ble_eq_true rfl, Nat.le_of_ble_eq_true rfl⟩ (fun r_1 Φ1 sz1 st1 hp1 hs1 => ?_)
  obtain ⟨⟨v_28, rfl⟩, hq1, hI1, hF1⟩ := hp1
  subst sz1
  replace hs1 : st1 = [.int v_28] := hs1
  subst st1
  replace hI1 : In G x (ca) Φ1 := hI1
  refine z_i2l (v := v_28.toInt64) B dX3_value_62 rfl ?_
  refine z_fl (fun v_29 => ?_)
  exact z_ret_l B dX3_value_63 ⟨⟨_, rfl⟩, rfl, hI1, (fun b9 h9 => ((hF1 b9 (fun j9 h8 h7 => (show False from h7).elim)).trans rfl))⟩

theorem hu_X8_emptyPending_X8 : ∀ w ∈ u_ws RX8 TX8 10, w ∈ wsX8_emptyPending := fun _ h => List.mem_cons_of_mem _ (List.mem_append_left _ (List.mem_append_right _ (h)))

theorem hv_X8_emptyPending_14 : Cond.fieldLink RX8 14 "FlowExporter$Sender" (TX8 2).2.1 (TX8 2).2.2.1 ∈ wsX8_emptyPending := List.mem_cons_of_mem _ (List.mem_append_left _ (List.mem_append_left _ (List.mem_of_getElem? (i := 0) rfl)))

theorem hu_X8_emptyPending_X5 : ∀ w ∈ u_ws RX5 TX5 2, w ∈ wsX8_emptyPending := fun _ h => List.mem_cons_of_mem _ (List.mem_append_right _ (h))

theorem hv_X8_emptyPending_61 : Cond.fieldLink RX8 61 "FlowExporter$Message" (TX5 1).2.1 (TX5 1).2.2.1 ∈ wsX8_emptyPending := List.mem_cons_of_mem _ (List.mem_append_left _ (List.mem_append_left _ (List.mem_of_getElem? (i := 1) rfl)))

theorem hv_X8_emptyPending_24 : Cond.fieldLink RX8 24 "FlowExporter$Sender" (TX8 4).2.1 (TX8 4).2.2.1 ∈ wsX8_emptyPending := List.mem_cons_of_mem _ (List.mem_append_left _ (List.mem_append_left _ (List.mem_of_getElem? (i := 2) rfl)))

set_option maxHeartbeats 4000000 in
set_option maxRecDepth 100000 in
theorem s_X8_emptyPending (G : EnvG) (l : Launch) (Φ : Hm) (sz x ca : Nat)  (hx : G.2.2.2 ≤ x) (hI : In G x ca Φ)  : Ct G l yX8_emptyPending wsX8_emptyPending ({ frames := 0, cells := 0, slots := 0, locals := 0 }) 0 0 [.ref (x + 74)] Φ sz (fun v Φ1 sz1 => (v = none) ∧ sz1 = sz ∧ In G x (ca) Φ1 ∧ Fr x (fun j9 => j9 = 74 ∨ j9 = 75) Φ Φ1) := by
  refine Ct.of (cc := cX8_emptyPending) (maxL := 1) (ret := none) (by decide) rfl (Nat.le_of_ble_eq_true rfl) ?_
  intro p9 e9 s9 m9 w9 t9 k9 B
  show Z p9 l e9 _ s9 m9 _ w9 t9 k9 _ G 1 0 [(0, .ref (x + 74))] [] Φ sz 0 0
  refine z_aload_n B dX8_emptyPending_0 rfl 0 rfl ?_
  obtain ⟨n_1, v_1, v_2, v_3, h_1, b_1⟩ := in13 (k := 74) hI rfl
  have h_2 : Φ (x + 74) = some (o_ 10 [.ref (x + 3), .ref (x + 46), .ref (x + 75), .ref (x + 77), .int (nI n_1), .ref (x + 78), .ref (x + 79), .int v_1, .long v_2, .int v_3]) := h_1
  refine z_get (ref := "FlowExporter$Sender") (C := RX8) (T := TX8) (N := 10) (ci := 10) (v := .ref (x + 75)) B hu_X8_emptyPending_X8 rfl 2 (Nat.le_of_ble_eq_true rfl) hv_X8_emptyPending_14 rfl h_2 rfl dX8_emptyPending_1 ?_
  refine z_iconst (v := 0) B dX8_emptyPending_4 rfl ?_
  obtain ⟨n_2, h_3, b_2⟩ := in1 (k := 75) hI rfl
  replace b_2 : n_2 ≤ 348 := b_2
  have h_4 : Φ (x + 75) = some (o_ 7 [.ref (x + 76), .int (nI n_2)]) := h_3
  refine z_put (ref := "FlowExporter$Message") (C := RX5) (T := TX5) (N := 2) (ci := 7) (v := .int 0) B hu_X8_emptyPending_X5 tyX5 tyX5_ok nmX5 rfl 1 (Nat.le_of_ble_eq_true rfl) hv_X8_emptyPending_61 rfl (Or.inl rfl) h_4 (Nat.le_trans hx (Nat.le_add_right x 75)) rfl rfl (Nat.le_of_ble_eq_true rfl) dX8_emptyPending_5 (fun Φ1 hΦ1 => ?_)
  have h_5 : Φ1 (x + 75) = some (o_ 7 [.ref (x + 76), .int 0]) := fset_at hΦ1
  have hI1 : In G x (ca) Φ1 := In.put (k := 75) hI hΦ1 (ok1 (k := 75) rfl ⟨0, rfl, (show 0 ≤ 348 by omega)⟩)
  refine z_aload_n B dX8_emptyPending_8 rfl 0 rfl ?_
  refine z_iconst (v := 0) B dX8_emptyPending_9 rfl ?_
  have h_6 : Φ1 (x + 74) = some (o_ 10 [.ref (x + 3), .ref (x + 46), .ref (x + 75), .ref (x + 77), .int (nI n_1), .ref (x + 78), .ref (x + 79), .int v_1, .long v_2, .int v_3]) := ((fset_fr hΦ1 (ne_off (x := x) (i := 74) (j := 75) rfl)).trans h_2)
  refine z_put (ref := "FlowExporter$Sender") (C := RX8) (T := TX8) (N := 10) (ci := 10) (v := .int 0) B hu_X8_emptyPending_X8 tyX8 tyX8_ok nmX8 rfl 4 (Nat.le_of_ble_eq_true rfl) hv_X8_emptyPending_24 rfl (Or.inl rfl) h_6 (Nat.le_trans hx (Nat.le_add_right x 74)) rfl rfl (Nat.le_of_ble_eq_true rfl) dX8_emptyPending_10 (fun Φ2 hΦ2 => ?_)
  have h_7 : Φ2 (x + 74) = some (o_ 10 [.ref (x + 3), .ref (x + 46), .ref (x + 75), .ref (x + 77), .int 0, .ref (x + 78), .ref (x + 79), .int v_1, .long v_2, .int v_3]) := fset_at hΦ2
  have hI2 : In G x (ca) Φ2 := In.put (k := 74) hI1 hΦ2 (ok13 (k := 74) rfl ⟨0, v_1, v_2, v_3, rfl, (show 0 ≤ 12 by omega)⟩)
  exact z_ret_v B dX8_emptyPending_13 ⟨rfl, rfl, hI2, (fun b9 h9 => ((fset_fr hΦ2 (fun h8 => h9 (74) h8 (show 74 = 74 ∨ 74 = 75 by decide))).trans ((fset_fr hΦ1 (fun h8 => h9 (75) h8 (show 75 = 74 ∨ 75 = 75 by decide))).trans rfl)))⟩

theorem hu_X8_forgetTemplates_X8 : ∀ w ∈ u_ws RX8 TX8 10, w ∈ wsX8_forgetTemplates := fun _ h => List.mem_cons_of_mem _ (List.mem_append_right _ (h))

theorem hv_X8_forgetTemplates_28 : Cond.fieldLink RX8 28 "FlowExporter$Sender" (TX8 5).2.1 (TX8 5).2.2.1 ∈ wsX8_forgetTemplates := List.mem_cons_of_mem _ (List.mem_append_left _ (List.mem_of_getElem? (i := 0) rfl))

set_option maxHeartbeats 4000000 in
set_option maxRecDepth 100000 in
theorem s_X8_forgetTemplates (G : EnvG) (l : Launch) (Φ : Hm) (sz x ca : Nat)  (hx : G.2.2.2 ≤ x) (hI : In G x ca Φ)  : Ct G l yX8_forgetTemplates wsX8_forgetTemplates ({ frames := 1, cells := 0, slots := 0, locals := 23 }) 0 0 [.ref (x + 74)] Φ sz (fun v Φ1 sz1 => (v = none) ∧ sz1 = sz ∧ In G x (ca) Φ1 ∧ Fr x (fun j9 => j9 = 78) Φ Φ1) := by
  refine Ct.of (cc := cX8_forgetTemplates) (maxL := 1) (ret := none) (by decide) rfl (Nat.le_of_ble_eq_true rfl) ?_
  intro p9 e9 s9 m9 w9 t9 k9 B
  show Z p9 l e9 _ s9 m9 _ w9 t9 k9 _ G 1 0 [(0, .ref (x + 74))] [] Φ sz 0 0
  refine z_aload_n B dX8_forgetTemplates_0 rfl 0 rfl ?_
  obtain ⟨n_1, v_1, v_2, v_3, h_1, b_1⟩ := in13 (k := 74) hI rfl
  have h_2 : Φ (x + 74) = some (o_ 10 [.ref (x + 3), .ref (x + 46), .ref (x + 75), .ref (x + 77), .int (nI n_1), .ref (x + 78), .ref (x + 79), .int v_1, .long v_2, .int v_3]) := h_1
  refine z_get (ref := "FlowExporter$Sender") (C := RX8) (T := TX8) (N := 10) (ci := 10) (v := .ref (x + 78)) B hu_X8_forgetTemplates_X8 rfl 5 (Nat.le_of_ble_eq_true rfl) hv_X8_forgetTemplates_28 rfl h_2 rfl dX8_forgetTemplates_1 ?_
  refine z_iconst (v := 0) B dX8_forgetTemplates_4 rfl ?_
  obtain ⟨f_1, h_3⟩ := in15 (k := 78) hI rfl
  have h_4 : Φ (x + 78) = some (ai_ G 4 f_1) := h_3
  refine z_callS (As := [.ref (x + 78), .int 0]) (rest := []) B (c_J7_fill_53178 G l Φ sz (x + 78) 4 f_1 0 h_4 (Nat.le_trans hx (Nat.le_add_right x 78)) (by decide)) (va_cwS 2 B.1.2.2.2.2 gX8_forgetTemplates_J7_fill_53178 rfl rfl rfl (by decide +kernel) ⟨Nat.le_of_ble_eq_true rfl, Nat.le_of_ble_eq_true rfl⟩) rfl rfl (Nat.le_of_ble_eq_true rfl) dX8_forgetTemplates_5 ⟨Nat.le_of_ble_eq_true rfl, Nat.le_of_ble_eq_true rfl⟩ (fun r_1 Φ1 sz1 st1 hp1 hs1 => ?_)
  obtain ⟨rfl, hq1, fr1, h_5⟩ := hp1
  subst sz1
  replace hs1 : st1 = [] := hs1
  subst st1
  have hΦ1 : Φ1 = fset Φ (x + 78) (ai_ G 4 (fun _ => 0)) := fset_of fr1 h_5
  have h_6 : Φ1 (x + 78) = some (ai_ G 4 (fun _ => 0)) := fset_at hΦ1
  have hI1 : In G x (ca) Φ1 := In.put (k := 78) hI hΦ1 (ok15 (k := 78) rfl ⟨_, rfl⟩)
  exact z_ret_v B dX8_forgetTemplates_8 ⟨rfl, rfl, hI1, (fun b9 h9 => ((fset_fr hΦ1 (fun h8 => h9 (78) h8 (show 78 = 78 by decide))).trans rfl))⟩

theorem hu_X8_restart_X8 : ∀ w ∈ u_ws RX8 TX8 10, w ∈ wsX8_restart := fun _ h => List.mem_cons_of_mem _ (List.mem_append_left _ (List.mem_append_right _ (h)))

theorem hv_X8_restart_41 : Cond.fieldLink RX8 41 "FlowExporter$Sender" (TX8 9).2.1 (TX8 9).2.2.1 ∈ wsX8_restart := List.mem_cons_of_mem _ (List.mem_append_left _ (List.mem_append_left _ (List.mem_of_getElem? (i := 0) rfl)))

theorem fq_126 : ∀ j9 : Nat, (j9 = 74 ∨ j9 = 75) → (74 ≤ j9 ∧ j9 < 80) := by
  intro j9 h
  omega

theorem fq_127 : ∀ j9 : Nat, (j9 = 78) → (74 ≤ j9 ∧ j9 < 80) := by
  intro j9 h
  omega

set_option maxHeartbeats 4000000 in
set_option maxRecDepth 100000 in
theorem s_X8_restart (G : EnvG) (l : Launch) (Φ : Hm) (sz x ca : Nat)  (hx : G.2.2.2 ≤ x) (hI : In G x ca Φ)  : Ct G l yX8_restart wsX8_restart ({ frames := 2, cells := 0, slots := 0, locals := 43 }) 0 0 [.ref (x + 74)] Φ sz (fun v Φ1 sz1 => (v = none) ∧ sz1 = sz ∧ In G x (ca) Φ1 ∧ Fr x (fun j9 => 74 ≤ j9 ∧ j9 < 80) Φ Φ1) := by
  refine Ct.of (cc := cX8_restart) (maxL := 1) (ret := none) (by decide) rfl (Nat.le_of_ble_eq_true rfl) ?_
  intro p9 e9 s9 m9 w9 t9 k9 B
  show Z p9 l e9 _ s9 m9 _ w9 t9 k9 _ G 1 0 [(0, .ref (x + 74))] [] Φ sz 0 0
  refine z_aload_n B dX8_restart_0 rfl 0 rfl ?_
  obtain ⟨n_1, v_1, v_2, v_3, h_1, b_1⟩ := in13 (k := 74) hI rfl
  have h_2 : Φ (x + 74) = some (o_ 10 [.ref (x + 3), .ref (x + 46), .ref (x + 75), .ref (x + 77), .int (nI n_1), .ref (x + 78), .ref (x + 79), .int v_1, .long v_2, .int v_3]) := h_1
  refine z_callV (As := []) (rest := []) B (s_X8_emptyPending G l Φ sz x (ca)  hx hI ) (cwV 0 B.1.2.2.2.2 gX8_restart_X8_emptyPending rfl rfl rfl (by decide +kernel) ⟨Nat.le_of_ble_eq_true rfl, Nat.le_of_ble_eq_true rfl⟩) h_2 rfl rfl rfl rfl (Nat.le_of_ble_eq_true rfl) dX8_restart_1 ⟨Nat.le_of_ble_eq_true rfl, Nat.le_of_ble_eq_true rfl⟩ (fun r_1 Φ1 sz1 st1 hp1 hs1 => ?_)
  obtain ⟨rfl, hq1, hI1, hF1⟩ := hp1
  subst sz1
  replace hs1 : st1 = [] := hs1
  subst st1
  replace hI1 : In G x (ca) Φ1 := hI1
  refine z_aload_n B dX8_restart_4 rfl 0 rfl ?_
  refine z_iconst (v := 0) B dX8_restart_5 rfl ?_
  obtain ⟨n_2, v_4, v_5, v_6, h_3, b_2⟩ := in13 (k := 74) hI1 rfl
  have h_4 : Φ1 (x + 74) = some (o_ 10 [.ref (x + 3), .ref (x + 46), .ref (x + 75), .ref (x + 77), .int (nI n_2), .ref (x + 78), .ref (x + 79), .int v_4, .long v_5, .int v_6]) := h_3
  refine z_put (ref := "FlowExporter$Sender") (C := RX8) (T := TX8) (N := 10) (ci := 10) (v := .int 0) B hu_X8_restart_X8 tyX8 tyX8_ok nmX8 rfl 9 (Nat.le_of_ble_eq_true rfl) hv_X8_restart_41 rfl (Or.inl rfl) h_4 (Nat.le_trans hx (Nat.le_add_right x 74)) rfl rfl (Nat.le_of_ble_eq_true rfl) dX8_restart_6 (fun Φ2 hΦ1 => ?_)
  have h_5 : Φ2 (x + 74) = some (o_ 10 [.ref (x + 3), .ref (x + 46), .ref (x + 75), .ref (x + 77), .int (nI n_2), .ref (x + 78), .ref (x + 79), .int v_4, .long v_5, .int 0]) := fset_at hΦ1
  have hI2 : In G x (ca) Φ2 := In.put (k := 74) hI1 hΦ1 (ok13 (k := 74) rfl ⟨n_2, v_4, v_5, 0, rfl, (show n_2 ≤ 12 by omega)⟩)
  refine z_aload_n B dX8_restart_9 rfl 0 rfl ?_
  refine z_callV (As := []) (rest := []) B (s_X8_forgetTemplates G l Φ2 sz x (ca)  hx hI2 ) (cwV 0 B.1.2.2.2.2 gX8_restart_X8_forgetTemplates rfl rfl rfl (by decide +kernel) ⟨Nat.le_of_ble_eq_true rfl, Nat.le_of_ble_eq_true rfl⟩) h_5 rfl rfl rfl rfl (Nat.le_of_ble_eq_true rfl) dX8_restart_10 ⟨Nat.le_of_ble_eq_true rfl, Nat.le_of_ble_eq_true rfl⟩ (fun r_2 Φ3 sz2 st2 hp2 hs2 => ?_)
  obtain ⟨rfl, hq2, hI3, hF2⟩ := hp2
  subst sz2
  replace hs2 : st2 = [] := hs2
  subst st2
  replace hI3 : In G x (ca) Φ3 := hI3
  exact z_ret_v B dX8_restart_13 ⟨rfl, rfl, hI3, (fun b9 h9 => ((hF2 b9 (fun j9 h8 h7 => h9 j9 h8 (fq_127 j9 h7))).trans ((fset_fr hΦ1 (fun h8 => h9 (74) h8 (show 74 ≤ 74 ∧ 74 < 80 by decide))).trans ((hF1 b9 (fun j9 h8 h7 => h9 j9 h8 (fq_126 j9 h7))).trans rfl))))⟩

theorem hu_X8_clear_X8 : ∀ w ∈ u_ws RX8 TX8 10, w ∈ wsX8_clear := fun _ h => List.mem_cons_of_mem _ (List.mem_append_left _ (List.mem_append_right _ (h)))

theorem hv_X8_clear_37 : Cond.fieldLink RX8 37 "FlowExporter$Sender" (TX8 8).2.1 (TX8 8).2.2.1 ∈ wsX8_clear := List.mem_cons_of_mem _ (List.mem_append_left _ (List.mem_append_left _ (List.mem_of_getElem? (i := 0) rfl)))

theorem hv_X8_clear_34 : Cond.fieldLink RX8 34 "FlowExporter$Sender" (TX8 7).2.1 (TX8 7).2.2.1 ∈ wsX8_clear := List.mem_cons_of_mem _ (List.mem_append_left _ (List.mem_append_left _ (List.mem_of_getElem? (i := 1) rfl)))

set_option maxHeartbeats 4000000 in
set_option maxRecDepth 100000 in
theorem s_X8_clear (G : EnvG) (l : Launch) (Φ : Hm) (sz x ca : Nat)  (hx : G.2.2.2 ≤ x) (hI : In G x ca Φ)  : Ct G l yX8_clear wsX8_clear ({ frames := 3, cells := 0, slots := 0, locals := 63 }) 0 0 [.ref (x + 74)] Φ sz (fun v Φ1 sz1 => (v = none) ∧ sz1 = sz ∧ In G x (ca) Φ1 ∧ Fr x (fun j9 => 74 ≤ j9 ∧ j9 < 80) Φ Φ1) := by
  refine Ct.of (cc := cX8_clear) (maxL := 1) (ret := none) (by decide) rfl (Nat.le_of_ble_eq_true rfl) ?_
  intro p9 e9 s9 m9 w9 t9 k9 B
  show Z p9 l e9 _ s9 m9 _ w9 t9 k9 _ G 1 0 [(0, .ref (x + 74))] [] Φ sz 0 0
  refine z_aload_n B dX8_clear_0 rfl 0 rfl ?_
  refine z_lconst (v := 0) B dX8_clear_1 rfl ?_
  obtain ⟨n_1, v_1, v_2, v_3, h_1, b_1⟩ := in13 (k := 74) hI rfl
  have h_2 : Φ (x + 74) = some (o_ 10 [.ref (x + 3), .ref (x + 46), .ref (x + 75), .ref (x + 77), .int (nI n_1), .ref (x + 78), .ref (x + 79), .int v_1, .long v_2, .int v_3]) := h_1
  refine z_put (ref := "FlowExporter$Sender") (C := RX8) (T := TX8) (N := 10) (ci := 10) (v := .long 0) B hu_X8_clear_X8 tyX8 tyX8_ok nmX8 rfl 8 (Nat.le_of_ble_eq_true rfl) hv_X8_clear_37 rfl (Or.inl rfl) h_2 (Nat.le_trans hx (Nat.le_add_right x 74)) rfl rfl (Nat.le_of_ble_eq_true rfl) dX8_clear_2 (fun Φ1 hΦ1 => ?_)
  have h_3 : Φ1 (x + 74) = some (o_ 10 [.ref (x + 3), .ref (x + 46), .ref (x + 75), .ref (x + 77), .int (nI n_1), .ref (x + 78), .ref (x + 79), .int v_1, .long 0, .int v_3]) := fset_at hΦ1
  have hI1 : In G x (ca) Φ1 := In.put (k := 74) hI hΦ1 (ok13 (k := 74) rfl ⟨n_1, v_1, 0, v_3, rfl, (show n_1 ≤ 12 by omega)⟩)
  refine z_aload_n B dX8_clear_5 rfl 0 rfl ?_
  refine z_iconst (v := 0) B dX8_clear_6 rfl ?_
  refine z_put (ref := "FlowExporter$Sender") (C := RX8) (T := TX8) (N := 10) (ci := 10) (v := .int 0) B hu_X8_clear_X8 tyX8 tyX8_ok nmX8 rfl 7 (Nat.le_of_ble_eq_true rfl) hv_X8_clear_34 rfl (Or.inl rfl) h_3 (Nat.le_trans hx (Nat.le_add_right x 74)) rfl rfl (Nat.le_of_ble_eq_true rfl) dX8_clear_7 (fun Φ2 hΦ2 => ?_)
  have h_4 : Φ2 (x + 74) = some (o_ 10 [.ref (x + 3), .ref (x + 46), .ref (x + 75), .ref (x + 77), .int (nI n_1), .ref (x + 78), .ref (x + 79), .int 0, .long 0, .int v_3]) := fset_at hΦ2
  have hI2 : In G x (ca) Φ2 := In.put (k := 74) hI1 hΦ2 (ok13 (k := 74) rfl ⟨n_1, 0, 0, v_3, rfl, (show n_1 ≤ 12 by omega)⟩)
  refine z_aload_n B dX8_clear_10 rfl 0 rfl ?_
  refine z_callV (As := []) (rest := []) B (s_X8_restart G l Φ2 sz x (ca)  hx hI2 ) (cwV 0 B.1.2.2.2.2 gX8_clear_X8_restart rfl rfl rfl (by decide +kernel) ⟨Nat.le_of_ble_eq_true rfl, Nat.le_of_ble_eq_true rfl⟩) h_4 rfl rfl rfl rfl (Nat.le_of_ble_eq_true rfl) dX8_clear_11 ⟨Nat.le_of_ble_eq_true rfl, Nat.le_of_ble_eq_true rfl⟩ (fun r_1 Φ3 sz1 st1 hp1 hs1 => ?_)
  obtain ⟨rfl, hq1, hI3, hF1⟩ := hp1
  subst sz1
  replace hs1 : st1 = [] := hs1
  subst st1
  replace hI3 : In G x (ca) Φ3 := hI3
  exact z_ret_v B dX8_clear_14 ⟨rfl, rfl, hI3, (fun b9 h9 => ((hF1 b9 h9).trans ((fset_fr hΦ2 (fun h8 => h9 (74) h8 (show 74 ≤ 74 ∧ 74 < 80 by decide))).trans ((fset_fr hΦ1 (fun h8 => h9 (74) h8 (show 74 ≤ 74 ∧ 74 < 80 by decide))).trans rfl))))⟩

theorem hu_X8_forgetTemplatesWith_X8 : ∀ w ∈ u_ws RX8 TX8 10, w ∈ wsX8_forgetTemplatesWith := fun _ h => List.mem_cons_of_mem _ (List.mem_append_left _ (List.mem_append_left _ (List.mem_append_left _ (List.mem_append_right _ (h)))))

theorem hv_X8_forgetTemplatesWith_44 : Cond.fieldLink RX8 44 "FlowExporter$Sender" (TX8 0).2.1 (TX8 0).2.2.1 ∈ wsX8_forgetTemplatesWith := List.mem_cons_of_mem _ (List.mem_append_left _ (List.mem_append_left _ (List.mem_append_left _ (List.mem_append_left _ (List.mem_of_getElem? (i := 0) rfl)))))

theorem hv_X8_forgetTemplatesWith_28 : Cond.fieldLink RX8 28 "FlowExporter$Sender" (TX8 5).2.1 (TX8 5).2.2.1 ∈ wsX8_forgetTemplatesWith := List.mem_cons_of_mem _ (List.mem_append_left _ (List.mem_append_left _ (List.mem_append_left _ (List.mem_append_left _ (List.mem_of_getElem? (i := 1) rfl)))))

set_option maxHeartbeats 4000000 in
set_option maxRecDepth 100000 in
theorem s_X8_forgetTemplatesWith (G : EnvG) (l : Launch) (Φ : Hm) (sz x ca : Nat) (a : Int32) (hx : G.2.2.2 ≤ x) (hI : In G x ca Φ)  : Ct G l yX8_forgetTemplatesWith wsX8_forgetTemplatesWith ({ frames := 1, cells := 0, slots := 0, locals := 21 }) 0 0 [.ref (x + 74), .int a] Φ sz (fun v Φ1 sz1 => (v = none) ∧ sz1 = sz ∧ In G x (ca) Φ1 ∧ Fr x (fun j9 => j9 = 78) Φ Φ1) := by
  refine Ct.of (cc := cX8_forgetTemplatesWith) (maxL := 3) (ret := none) (by decide) rfl (Nat.le_of_ble_eq_true rfl) ?_
  intro p9 e9 s9 m9 w9 t9 k9 B
  show Z p9 l e9 _ s9 m9 _ w9 t9 k9 _ G 3 0 [(0, .ref (x + 74)), (1, .int a)] [] Φ sz 0 0
  refine z_iconst (v := 0) B dX8_forgetTemplatesWith_0 rfl ?_
  refine z_istore_n (lv' := [(2, .int 0), (0, .ref (x + 74)), (1, .int a)]) B dX8_forgetTemplatesWith_1 rfl (Nat.le_of_ble_eq_true rfl) rfl ?_
  refine z_lv [0, 1, 2] rfl ?_
  refine z_loop (α := Nat) (fun (a9 : Nat) Φi => In G x (ca) Φi ∧ Fr x (fun j9 => j9 = 78) Φ Φi ∧ (a9 ≤ 4) ∧ True) (fun a9 => [(2, .int (nI a9)), (0, .ref (x + 74)), (1, .int a)]) (fun a9 => 4 - a9) ?_ (0) ⟨hI, fun _ _ => rfl, (show 0 ≤ 4 by omega), trivial⟩
  rintro i_1 Φl1 ⟨hI1, hF1, b_1, -⟩ ih1
  replace hI1 : In G x (ca) Φl1 := hI1
  replace b_1 : i_1 ≤ 4 := b_1
  show Z p9 l e9 _ s9 m9 _ w9 t9 k9 _ G 3 2 [(2, .int (nI i_1)), (0, .ref (x + 74)), (1, .int a)] [] Φl1 _ _ _
  refine z_iload_n B dX8_forgetTemplatesWith_2 rfl 0 rfl ?_
  refine z_iconst (v := 4) B dX8_forgetTemplatesWith_3 rfl ?_
  refine z_icmp_ge (tgt := 35) B dX8_forgetTemplatesWith_4 rfl (fun c_1 => ?_) (fun c_1 => ?_)
  · have e_1 : 4 ≤ i_1 := (nI_leI (a := 4) (b := i_1) (by omega) (by omega)).mp c_1
    exact z_ret_v B dX8_forgetTemplatesWith_35 ⟨rfl, rfl, hI1, (fun b9 h9 => ((hF1 b9 h9).trans rfl))⟩
  · have e_2 : ¬ (4 ≤ i_1) := fun h9 => c_1 ((nI_leI (a := 4) (b := i_1) (by omega) (by omega)).mpr h9)
    refine z_aload_n B dX8_forgetTemplatesWith_7 rfl 1 rfl ?_
    obtain ⟨n_1, v_1, v_2, v_3, h_1, b_2⟩ := in13 (k := 74) hI1 rfl
    have h_2 : Φl1 (x + 74) = some (o_ 10 [.ref (x + 3), .ref (x + 46), .ref (x + 75), .ref (x + 77), .int (nI n_1), .ref (x + 78), .ref (x + 79), .int v_1, .long v_2, .int v_3]) := h_1
    refine z_get (ref := "FlowExporter$Sender") (C := RX8) (T := TX8) (N := 10) (ci := 10) (v := .ref (x + 3)) B hu_X8_forgetTemplatesWith_X8 rfl 0 (Nat.le_of_ble_eq_true rfl) hv_X8_forgetTemplatesWith_44 rfl h_2 rfl dX8_forgetTemplatesWith_8 ?_
    refine z_iload_n B dX8_forgetTemplatesWith_11 rfl 0 rfl ?_
    obtain ⟨v_4, v_5, h_3⟩ := in3 (k := 3) hI1 rfl
    have h_4 : Φl1 (x + 3) = some (o_ 3 [.ref (x + 4), .ref (x + 5), .ref (x + 6), .ref (x + 7), .int v_4, .int v_5]) := h_3
    refine z_callV (As := [.int (nI i_1)]) (rest := []) B (s_X1_template G l Φl1 sz x (ca) 3 (nI i_1) hx hI1 rfl) (cwV 1 B.1.2.2.2.2 gX8_forgetTemplatesWith_X1_template rfl rfl rfl (by decide +kernel) ⟨Nat.le_of_ble_eq_true rfl, Nat.le_of_ble_eq_true rfl⟩) h_4 rfl rfl rfl rfl (Nat.le_of_ble_eq_true rfl) dX8_forgetTemplatesWith_12 ⟨Nat.le_of_ble_eq_true rfl, Nat.le_of_ble_eq_true rfl⟩ (fun r_1 Φ1 sz1 st1 hp1 hs1 => ?_)
    obtain ⟨⟨m_1, hm_1, rfl⟩, hq1, hI2, hF2⟩ := hp1
    subst sz1
    replace hs1 : st1 = [.ref (x + (3 + 5 + 4 * m_1))] := hs1
    subst st1
    replace hI2 : In G x (ca) Φ1 := hI2
    replace hm_1 : m_1 < 4 := hm_1
    refine z_iload_n B dX8_forgetTemplatesWith_15 rfl 2 rfl ?_
    obtain ⟨n_2, v_6, v_7, h_5, b_3⟩ := in8 (k := 3 + 5 + 4 * m_1) hI2 (kd_w (kd_s rfl).2.2.1 hm_1)
    have h_6 : Φ1 (x + (3 + 5 + 4 * m_1)) = some (o_ 12 [.ref (x + (3 + 5 + 4 * m_1 + 1)), .int (nI n_2), .int v_6, .int v_7]) := h_5
    refine z_callV (As := [.int a]) (rest := []) B (s_X10_has G l Φ1 sz x (ca) (3 + 5 + 4 * m_1) a hx hI2 (kd_w (kd_s rfl).2.2.1 hm_1)) (cwV 1 B.1.2.2.2.2 gX8_forgetTemplatesWith_X10_has rfl rfl rfl (by decide +kernel) ⟨Nat.le_of_ble_eq_true rfl, Nat.le_of_ble_eq_true rfl⟩) h_6 rfl rfl rfl rfl (Nat.le_of_ble_eq_true rfl) dX8_forgetTemplatesWith_16 ⟨Nat.le_of_ble_eq_true rfl, Nat.le_of_ble_eq_true rfl⟩ (fun r_2 Φ2 sz2 st2 hp2 hs2 => ?_)
    obtain ⟨⟨v_8, rfl, b_4⟩, hq2, hI3, hF3⟩ := hp2
    subst sz2
    replace hs2 : st2 = [.int v_8] := hs2
    subst st2
    replace hI3 : In G x (ca) Φ2 := hI3
    refine z_if_eq (tgt := 29) B dX8_forgetTemplatesWith_19 rfl (fun c_2 => ?_) (fun c_2 => ?_)
    · refine z_iinc (k := 0) (v := nI (i_1 + 1)) (lv' := [(2, .int (nI (i_1 + 1))), (0, .ref (x + 74)), (1, .int a)]) B dX8_forgetTemplatesWith_29 rfl (nI_add i_1 1) (Nat.le_of_ble_eq_true rfl) rfl ?_
      refine z_goto (tgt := 2) B dX8_forgetTemplatesWith_32 rfl ?_
      refine z_lv [0, 1, 2] rfl ?_
      exact ih1 (i_1 + 1) Φ2 (show 4 - (i_1 + 1) < 4 - i_1 by omega) ⟨hI3, (fun b9 h9 => ((hF3 b9 (fun j9 h8 h7 => (show False from h7).elim)).trans ((hF2 b9 (fun j9 h8 h7 => (show False from h7).elim)).trans ((hF1 b9 h9).trans rfl)))), (show (i_1 + 1) ≤ 4 by omega), trivial⟩
    · refine z_aload_n B dX8_forgetTemplatesWith_22 rfl 1 rfl ?_
      have h_7 : Φ2 (x + 74) = some (o_ 10 [.ref (x + 3), .ref (x + 46), .ref (x + 75), .ref (x + 77), .int (nI n_1), .ref (x + 78), .ref (x + 79), .int v_1, .long v_2, .int v_3]) := ((hF3 (x + 74) (fun j9 h8 h7 => (show False from h7).elim)).trans ((hF2 (x + 74) (fun j9 h8 h7 => (show False from h7).elim)).trans h_2))
      refine z_get (ref := "FlowExporter$Sender") (C := RX8) (T := TX8) (N := 10) (ci := 10) (v := .ref (x + 78)) B hu_X8_forgetTemplatesWith_X8 rfl 5 (Nat.le_of_ble_eq_true rfl) hv_X8_forgetTemplatesWith_28 rfl h_7 rfl dX8_forgetTemplatesWith_23 ?_
      refine z_iload_n B dX8_forgetTemplatesWith_26 rfl 0 rfl ?_
      refine z_iconst (v := 0) B dX8_forgetTemplatesWith_27 rfl ?_
      obtain ⟨f_1, h_8⟩ := in15 (k := 78) hI3 rfl
      have h_9 : Φ2 (x + 78) = some (ai_ G 4 f_1) := h_8
      refine z_iast B h_9 (Nat.le_trans hx (Nat.le_add_right x 78)) (vp_in_nI (by omega) (by omega)) dX8_forgetTemplatesWith_28 (fun Φ3 hΦ1 => ?_)
      have h_10 : Φ3 (x + 78) = some (ai_ G 4 (upd f_1 (nI i_1).toNatClampNeg 0)) := fset_at hΦ1
      have hI4 : In G x (ca) Φ3 := In.put (k := 78) hI3 hΦ1 (ok15 (k := 78) rfl ⟨_, rfl⟩)
      refine z_iinc (k := 0) (v := nI (i_1 + 1)) (lv' := [(2, .int (nI (i_1 + 1))), (0, .ref (x + 74)), (1, .int a)]) B dX8_forgetTemplatesWith_29 rfl (nI_add i_1 1) (Nat.le_of_ble_eq_true rfl) rfl ?_
      refine z_goto (tgt := 2) B dX8_forgetTemplatesWith_32 rfl ?_
      refine z_lv [0, 1, 2] rfl ?_
      exact ih1 (i_1 + 1) Φ3 (show 4 - (i_1 + 1) < 4 - i_1 by omega) ⟨hI4, (fun b9 h9 => ((fset_fr hΦ1 (fun h8 => h9 (78) h8 (show 78 = 78 by decide))).trans ((hF3 b9 (fun j9 h8 h7 => (show False from h7).elim)).trans ((hF2 b9 (fun j9 h8 h7 => (show False from h7).elim)).trans ((hF1 b9 h9).trans rfl))))), (show (i_1 + 1) ≤ 4 by omega), trivial⟩

theorem hu_X8_mustSend_X8 : ∀ w ∈ u_ws RX8 TX8 10, w ∈ wsX8_mustSend := fun _ h => List.mem_cons_of_mem _ (List.mem_append_left _ (List.mem_append_left _ (List.mem_append_left _ (List.mem_append_right _ (h)))))

theorem hv_X8_mustSend_44 : Cond.fieldLink RX8 44 "FlowExporter$Sender" (TX8 0).2.1 (TX8 0).2.2.1 ∈ wsX8_mustSend := List.mem_cons_of_mem _ (List.mem_append_left _ (List.mem_append_left _ (List.mem_append_left _ (List.mem_append_left _ (List.mem_of_getElem? (i := 0) rfl)))))

theorem hu_X8_mustSend_X10 : ∀ w ∈ u_ws RX10 TX10 4, w ∈ wsX8_mustSend := fun _ h => List.mem_cons_of_mem _ (List.mem_append_left _ (List.mem_append_left _ (List.mem_append_right _ (h))))

theorem hv_X8_mustSend_85 : Cond.fieldLink RX8 85 "FlowExporter$Template" (TX10 1).2.1 (TX10 1).2.2.1 ∈ wsX8_mustSend := List.mem_cons_of_mem _ (List.mem_append_left _ (List.mem_append_left _ (List.mem_append_left _ (List.mem_append_left _ (List.mem_of_getElem? (i := 1) rfl)))))

theorem hv_X8_mustSend_28 : Cond.fieldLink RX8 28 "FlowExporter$Sender" (TX8 5).2.1 (TX8 5).2.2.1 ∈ wsX8_mustSend := List.mem_cons_of_mem _ (List.mem_append_left _ (List.mem_append_left _ (List.mem_append_left _ (List.mem_append_left _ (List.mem_of_getElem? (i := 2) rfl)))))

theorem hv_X8_mustSend_34 : Cond.fieldLink RX8 34 "FlowExporter$Sender" (TX8 7).2.1 (TX8 7).2.2.1 ∈ wsX8_mustSend := List.mem_cons_of_mem _ (List.mem_append_left _ (List.mem_append_left _ (List.mem_append_left _ (List.mem_append_left _ (List.mem_of_getElem? (i := 3) rfl)))))

theorem hv_X8_mustSend_31 : Cond.fieldLink RX8 31 "FlowExporter$Sender" (TX8 6).2.1 (TX8 6).2.2.1 ∈ wsX8_mustSend := List.mem_cons_of_mem _ (List.mem_append_left _ (List.mem_append_left _ (List.mem_append_left _ (List.mem_append_left _ (List.mem_of_getElem? (i := 4) rfl)))))

set_option maxHeartbeats 4000000 in
set_option maxRecDepth 100000 in
theorem s_X8_mustSend (G : EnvG) (l : Launch) (Φ : Hm) (sz x ca : Nat) (a : Int32) (b : Int32) (hx : G.2.2.2 ≤ x) (hI : In G x ca Φ)  : Ct G l yX8_mustSend wsX8_mustSend ({ frames := 1, cells := 0, slots := 0, locals := 21 }) 0 0 [.ref (x + 74), .int a, .int b] Φ sz (fun v Φ1 sz1 => (∃ r9 : Int32, v = some (.int r9) ∧ (r9 = 0 ∨ r9 = 1)) ∧ sz1 = sz ∧ In G x (ca) Φ1 ∧ Fr x (fun j9 => False) Φ Φ1) := by
  refine Ct.of (cc := cX8_mustSend) (maxL := 3) (ret := (some .boolean)) (by decide) rfl (Nat.le_of_ble_eq_true rfl) ?_
  intro p9 e9 s9 m9 w9 t9 k9 B
  show Z p9 l e9 _ s9 m9 _ w9 t9 k9 _ G 3 0 [(0, .ref (x + 74)), (1, .int a), (2, .int b)] [] Φ sz 0 0
  refine z_iload_n B dX8_mustSend_0 rfl 1 rfl ?_
  refine z_if_lt (tgt := 23) B dX8_mustSend_1 rfl (fun c_1 => ?_) (fun c_1 => ?_)
  · refine z_iconst (v := 0) B dX8_mustSend_23 rfl ?_
    exact z_ret_z B dX8_mustSend_24 (by decide) ⟨⟨_, rfl, by decide⟩, rfl, hI, (fun b9 h9 => rfl)⟩
  · obtain ⟨n_1, e_1, rfl⟩ := nI_of c_1
    refine z_iload_n B dX8_mustSend_4 rfl 1 rfl ?_
    refine z_iconst (v := 4) B dX8_mustSend_5 rfl ?_
    refine z_icmp_ge (tgt := 23) B dX8_mustSend_6 rfl (fun c_2 => ?_) (fun c_2 => ?_)
    · have e_2 : 4 ≤ n_1 := (nI_leI (a := 4) (b := n_1) (by omega) (by omega)).mp c_2
      refine z_iconst (v := 0) B dX8_mustSend_23 rfl ?_
      exact z_ret_z B dX8_mustSend_24 (by decide) ⟨⟨_, rfl, by decide⟩, rfl, hI, (fun b9 h9 => rfl)⟩
    · have e_3 : ¬ (4 ≤ n_1) := fun h9 => c_2 ((nI_leI (a := 4) (b := n_1) (by omega) (by omega)).mpr h9)
      refine z_aload_n B dX8_mustSend_9 rfl 0 rfl ?_
      obtain ⟨n_2, v_1, v_2, v_3, h_1, b_1⟩ := in13 (k := 74) hI rfl
      have h_2 : Φ (x + 74) = some (o_ 10 [.ref (x + 3), .ref (x + 46), .ref (x + 75), .ref (x + 77), .int (nI n_2), .ref (x + 78), .ref (x + 79), .int v_1, .long v_2, .int v_3]) := h_1
      refine z_get (ref := "FlowExporter$Sender") (C := RX8) (T := TX8) (N := 10) (ci := 10) (v := .ref (x + 3)) B hu_X8_mustSend_X8 rfl 0 (Nat.le_of_ble_eq_true rfl) hv_X8_mustSend_44 rfl h_2 rfl dX8_mustSend_10 ?_
      refine z_iload_n B dX8_mustSend_13 rfl 1 rfl ?_
      obtain ⟨v_4, v_5, h_3⟩ := in3 (k := 3) hI rfl
      have h_4 : Φ (x + 3) = some (o_ 3 [.ref (x + 4), .ref (x + 5), .ref (x + 6), .ref (x + 7), .int v_4, .int v_5]) := h_3
      refine z_callV (As := [.int (nI n_1)]) (rest := []) B (s_X1_effective G l Φ sz x (ca) 3 (nI n_1) hx hI rfl) (cwV 1 B.1.2.2.2.2 gX8_mustSend_X1_effective rfl rfl rfl (by decide +kernel) ⟨Nat.le_of_ble_eq_true rfl, Nat.le_of_ble_eq_true rfl⟩) h_4 rfl rfl rfl rfl (Nat.le_of_ble_eq_true rfl) dX8_mustSend_14 ⟨Nat.le_of_ble_eq_true rfl, Nat.le_of_ble_eq_true rfl⟩ (fun r_1 Φ1 sz1 st1 hp1 hs1 => ?_)
      obtain ⟨⟨m_1, hm_1, rfl⟩, hq1, hI1, hF1⟩ := hp1
      subst sz1
      replace hs1 : st1 = [.ref (x + (3 + 7 + 4 * m_1))] := hs1
      subst st1
      replace hI1 : In G x (ca) Φ1 := hI1
      replace hm_1 : m_1 < 4 := hm_1
      obtain ⟨n_3, v_6, v_7, h_5, b_2⟩ := in8 (k := 3 + 7 + 4 * m_1) hI1 (kd_e (kd_s rfl).2.2.2 hm_1)
      have h_6 : Φ1 (x + (3 + 7 + 4 * m_1)) = some (o_ 12 [.ref (x + (3 + 7 + 4 * m_1 + 1)), .int (nI n_3), .int v_6, .int v_7]) := h_5
      refine z_get (ref := "FlowExporter$Template") (C := RX10) (T := TX10) (N := 4) (ci := 12) (v := .int (nI n_3)) B hu_X8_mustSend_X10 rfl 1 (Nat.le_of_ble_eq_true rfl) hv_X8_mustSend_85 rfl h_6 rfl dX8_mustSend_17 ?_
      refine z_if_ne (tgt := 25) B dX8_mustSend_20 rfl (fun c_3 => ?_) (fun c_3 => ?_)
      · have e_4 : ¬ (n_3 = 0) := fun h9 => c_3 ((nI_eq (a := n_3) (b := 0) (by omega) (by omega)).mpr h9)
        refine z_aload_n B dX8_mustSend_25 rfl 0 rfl ?_
        have h_7 : Φ1 (x + 74) = some (o_ 10 [.ref (x + 3), .ref (x + 46), .ref (x + 75), .ref (x + 77), .int (nI n_2), .ref (x + 78), .ref (x + 79), .int v_1, .long v_2, .int v_3]) := ((hF1 (x + 74) (fun j9 h8 h7 => (show False from h7).elim)).trans h_2)
        refine z_get (ref := "FlowExporter$Sender") (C := RX8) (T := TX8) (N := 10) (ci := 10) (v := .ref (x + 78)) B hu_X8_mustSend_X8 rfl 5 (Nat.le_of_ble_eq_true rfl) hv_X8_mustSend_28 rfl h_7 rfl dX8_mustSend_26 ?_
        refine z_iload_n B dX8_mustSend_29 rfl 1 rfl ?_
        obtain ⟨f_1, h_8⟩ := in15 (k := 78) hI1 rfl
        have h_9 : Φ1 (x + 78) = some (ai_ G 4 f_1) := h_8
        refine z_iald B h_9 (vp_in_nI (by omega) (by omega)) dX8_mustSend_30 ?_
        refine z_fi (fun v_8 => ?_)
        refine z_if_eq (tgt := 75) B dX8_mustSend_31 rfl (fun c_4 => ?_) (fun c_4 => ?_)
        · refine z_iconst (v := 1) B dX8_mustSend_75 rfl ?_
          refine z_goto (tgt := 80) B dX8_mustSend_76 rfl ?_
          exact z_ret_z B dX8_mustSend_80 (by decide) ⟨⟨_, rfl, by decide⟩, rfl, hI1, (fun b9 h9 => ((hF1 b9 (fun j9 h8 h7 => (show False from h7).elim)).trans rfl))⟩
        · refine z_aload_n B dX8_mustSend_34 rfl 0 rfl ?_
          refine z_get (ref := "FlowExporter$Sender") (C := RX8) (T := TX8) (N := 10) (ci := 10) (v := .int v_1) B hu_X8_mustSend_X8 rfl 7 (Nat.le_of_ble_eq_true rfl) hv_X8_mustSend_34 rfl h_7 rfl dX8_mustSend_35 ?_
          refine z_aload_n B dX8_mustSend_38 rfl 0 rfl ?_
          refine z_get (ref := "FlowExporter$Sender") (C := RX8) (T := TX8) (N := 10) (ci := 10) (v := .ref (x + 78)) B hu_X8_mustSend_X8 rfl 5 (Nat.le_of_ble_eq_true rfl) hv_X8_mustSend_28 rfl h_7 rfl dX8_mustSend_39 ?_
          refine z_iload_n B dX8_mustSend_42 rfl 1 rfl ?_
          refine z_iald B h_9 (vp_in_nI (by omega) (by omega)) dX8_mustSend_43 ?_
          refine z_fi (fun v_9 => ?_)
          refine z_isub B dX8_mustSend_44 ?_
          refine z_fi (fun v_10 => ?_)
          refine z_aload_n B dX8_mustSend_45 rfl 0 rfl ?_
          refine z_get (ref := "FlowExporter$Sender") (C := RX8) (T := TX8) (N := 10) (ci := 10) (v := .ref (x + 3)) B hu_X8_mustSend_X8 rfl 0 (Nat.le_of_ble_eq_true rfl) hv_X8_mustSend_44 rfl h_7 rfl dX8_mustSend_46 ?_
          refine z_iconst (v := 4) B dX8_mustSend_49 rfl ?_
          have h_10 : Φ1 (x + 3) = some (o_ 3 [.ref (x + 4), .ref (x + 5), .ref (x + 6), .ref (x + 7), .int v_4, .int v_5]) := ((hF1 (x + 3) (fun j9 h8 h7 => (show False from h7).elim)).trans h_4)
          refine z_callV (As := [.int 4]) (rest := [.int v_10]) B (s_X1_get G l Φ1 sz x (ca) 3 4 hx hI1 rfl) (cwV 1 B.1.2.2.2.2 gX8_mustSend_X1_get rfl rfl rfl (by decide +kernel) ⟨Nat.le_of_ble_eq_true rfl, Nat.le_of_ble_eq_true rfl⟩) h_10 rfl rfl rfl rfl (Nat.le_of_ble_eq_true rfl) dX8_mustSend_50 ⟨Nat.le_of_ble_eq_true rfl, Nat.le_of_ble_eq_true rfl⟩ (fun r_2 Φ2 sz2 st2 hp2 hs2 => ?_)
          obtain ⟨⟨n_4, rfl, b_3⟩, hq2, hI2, hF2⟩ := hp2
          subst sz2
          replace hs2 : st2 = [.int (nI n_4), .int v_10] := hs2
          subst st2
          replace hI2 : In G x (ca) Φ2 := hI2
          replace b_3 : n_4 < 2 ^ 31 := b_3
          refine z_icmp_ge (tgt := 75) B dX8_mustSend_53 rfl (fun c_5 => ?_) (fun c_5 => ?_)
          · obtain ⟨n_5, e_6, e_5, rfl⟩ := nI_ofge (c := n_4) (by omega) (Int32.not_lt.mpr c_5)
            refine z_iconst (v := 1) B dX8_mustSend_75 rfl ?_
            refine z_goto (tgt := 80) B dX8_mustSend_76 rfl ?_
            exact z_ret_z B dX8_mustSend_80 (by decide) ⟨⟨_, rfl, by decide⟩, rfl, hI2, (fun b9 h9 => ((hF2 b9 (fun j9 h8 h7 => (show False from h7).elim)).trans ((hF1 b9 (fun j9 h8 h7 => (show False from h7).elim)).trans rfl)))⟩
          · refine z_iload_n B dX8_mustSend_56 rfl 2 rfl ?_
            refine z_aload_n B dX8_mustSend_57 rfl 0 rfl ?_
            have h_11 : Φ2 (x + 74) = some (o_ 10 [.ref (x + 3), .ref (x + 46), .ref (x + 75), .ref (x + 77), .int (nI n_2), .ref (x + 78), .ref (x + 79), .int v_1, .long v_2, .int v_3]) := ((hF2 (x + 74) (fun j9 h8 h7 => (show False from h7).elim)).trans h_7)
            refine z_get (ref := "FlowExporter$Sender") (C := RX8) (T := TX8) (N := 10) (ci := 10) (v := .ref (x + 79)) B hu_X8_mustSend_X8 rfl 6 (Nat.le_of_ble_eq_true rfl) hv_X8_mustSend_31 rfl h_11 rfl dX8_mustSend_58 ?_
            refine z_iload_n B dX8_mustSend_61 rfl 1 rfl ?_
            obtain ⟨f_2, h_12⟩ := in15 (k := 79) hI2 rfl
            have h_13 : Φ2 (x + 79) = some (ai_ G 4 f_2) := h_12
            refine z_iald B h_13 (vp_in_nI (by omega) (by omega)) dX8_mustSend_62 ?_
            refine z_fi (fun v_11 => ?_)
            refine z_isub B dX8_mustSend_63 ?_
            refine z_fi (fun v_12 => ?_)
            refine z_aload_n B dX8_mustSend_64 rfl 0 rfl ?_
            refine z_get (ref := "FlowExporter$Sender") (C := RX8) (T := TX8) (N := 10) (ci := 10) (v := .ref (x + 3)) B hu_X8_mustSend_X8 rfl 0 (Nat.le_of_ble_eq_true rfl) hv_X8_mustSend_44 rfl h_11 rfl dX8_mustSend_65 ?_
            refine z_iconst (v := 5) B dX8_mustSend_68 rfl ?_
            have h_14 : Φ2 (x + 3) = some (o_ 3 [.ref (x + 4), .ref (x + 5), .ref (x + 6), .ref (x + 7), .int v_4, .int v_5]) := ((hF2 (x + 3) (fun j9 h8 h7 => (show False from h7).elim)).trans h_10)
            refine z_callV (As := [.int 5]) (rest := [.int v_12]) B (s_X1_get G l Φ2 sz x (ca) 3 5 hx hI2 rfl) (cwV 1 B.1.2.2.2.2 gX8_mustSend_X1_get rfl rfl rfl (by decide +kernel) ⟨Nat.le_of_ble_eq_true rfl, Nat.le_of_ble_eq_true rfl⟩) h_14 rfl rfl rfl rfl (Nat.le_of_ble_eq_true rfl) dX8_mustSend_69 ⟨Nat.le_of_ble_eq_true rfl, Nat.le_of_ble_eq_true rfl⟩ (fun r_3 Φ3 sz3 st3 hp3 hs3 => ?_)
            obtain ⟨⟨n_6, rfl, b_4⟩, hq3, hI3, hF3⟩ := hp3
            subst sz3
            replace hs3 : st3 = [.int (nI n_6), .int v_12] := hs3
            subst st3
            replace hI3 : In G x (ca) Φ3 := hI3
            replace b_4 : n_6 < 2 ^ 31 := b_4
            refine z_icmp_lt (tgt := 79) B dX8_mustSend_72 rfl (fun c_6 => ?_) (fun c_6 => ?_)
            · refine z_iconst (v := 0) B dX8_mustSend_79 rfl ?_
              exact z_ret_z B dX8_mustSend_80 (by decide) ⟨⟨_, rfl, by decide⟩, rfl, hI3, (fun b9 h9 => ((hF3 b9 (fun j9 h8 h7 => (show False from h7).elim)).trans ((hF2 b9 (fun j9 h8 h7 => (show False from h7).elim)).trans ((hF1 b9 (fun j9 h8 h7 => (show False from h7).elim)).trans rfl))))⟩
            · obtain ⟨n_7, e_8, e_7, rfl⟩ := nI_ofge (c := n_6) (by omega) c_6
              refine z_iconst (v := 1) B dX8_mustSend_75 rfl ?_
              refine z_goto (tgt := 80) B dX8_mustSend_76 rfl ?_
              exact z_ret_z B dX8_mustSend_80 (by decide) ⟨⟨_, rfl, by decide⟩, rfl, hI3, (fun b9 h9 => ((hF3 b9 (fun j9 h8 h7 => (show False from h7).elim)).trans ((hF2 b9 (fun j9 h8 h7 => (show False from h7).elim)).trans ((hF1 b9 (fun j9 h8 h7 => (show False from h7).elim)).trans rfl))))⟩
      · have e_9 : n_3 = 0 := (nI_eq (a := n_3) (b := 0) (by omega) (by omega)).mp c_3
        refine z_iconst (v := 0) B dX8_mustSend_23 rfl ?_
        exact z_ret_z B dX8_mustSend_24 (by decide) ⟨⟨_, rfl, by decide⟩, rfl, hI1, (fun b9 h9 => ((hF1 b9 (fun j9 h8 h7 => (show False from h7).elim)).trans rfl))⟩

theorem hu_X8_addRecord_X8 : ∀ w ∈ u_ws RX8 TX8 10, w ∈ wsX8_addRecord := fun _ h => List.mem_cons_of_mem _ (List.mem_append_left _ (List.mem_append_left _ (List.mem_append_left _ (List.mem_append_left _ (List.mem_append_left _ (List.mem_append_right _ (h)))))))

theorem hv_X8_addRecord_24 : Cond.fieldLink RX8 24 "FlowExporter$Sender" (TX8 4).2.1 (TX8 4).2.2.1 ∈ wsX8_addRecord := List.mem_cons_of_mem _ (List.mem_append_left _ (List.mem_append_left _ (List.mem_append_left _ (List.mem_append_left _ (List.mem_append_left _ (List.mem_append_left _ (List.mem_append_left _ (List.mem_of_getElem? (i := 0) rfl))))))))

theorem hv_X8_addRecord_20 : Cond.fieldLink RX8 20 "FlowExporter$Sender" (TX8 3).2.1 (TX8 3).2.2.1 ∈ wsX8_addRecord := List.mem_cons_of_mem _ (List.mem_append_left _ (List.mem_append_left _ (List.mem_append_left _ (List.mem_append_left _ (List.mem_append_left _ (List.mem_append_left _ (List.mem_append_left _ (List.mem_of_getElem? (i := 1) rfl))))))))

theorem hv_X8_addRecord_44 : Cond.fieldLink RX8 44 "FlowExporter$Sender" (TX8 0).2.1 (TX8 0).2.2.1 ∈ wsX8_addRecord := List.mem_cons_of_mem _ (List.mem_append_left _ (List.mem_append_left _ (List.mem_append_left _ (List.mem_append_left _ (List.mem_append_left _ (List.mem_append_left _ (List.mem_append_left _ (List.mem_of_getElem? (i := 2) rfl))))))))

theorem hu_X8_addRecord_X10 : ∀ w ∈ u_ws RX10 TX10 4, w ∈ wsX8_addRecord := fun _ h => List.mem_cons_of_mem _ (List.mem_append_left _ (List.mem_append_left _ (List.mem_append_left _ (List.mem_append_left _ (List.mem_append_right _ (h))))))

theorem hv_X8_addRecord_85 : Cond.fieldLink RX8 85 "FlowExporter$Template" (TX10 1).2.1 (TX10 1).2.2.1 ∈ wsX8_addRecord := List.mem_cons_of_mem _ (List.mem_append_left _ (List.mem_append_left _ (List.mem_append_left _ (List.mem_append_left _ (List.mem_append_left _ (List.mem_append_left _ (List.mem_append_left _ (List.mem_of_getElem? (i := 3) rfl))))))))

theorem hv_X8_addRecord_14 : Cond.fieldLink RX8 14 "FlowExporter$Sender" (TX8 2).2.1 (TX8 2).2.2.1 ∈ wsX8_addRecord := List.mem_cons_of_mem _ (List.mem_append_left _ (List.mem_append_left _ (List.mem_append_left _ (List.mem_append_left _ (List.mem_append_left _ (List.mem_append_left _ (List.mem_append_left _ (List.mem_of_getElem? (i := 4) rfl))))))))

theorem fq_148 : ∀ j9 : Nat, (j9 = 75 ∨ j9 = 75 + 1) → (74 ≤ j9 ∧ j9 < 78) := by
  intro j9 h
  omega

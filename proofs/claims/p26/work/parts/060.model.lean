theorem dX12_lengthOf_0 : decode cX12_lengthOf 0 = .ok (.iload_n 0, 1) := by decide +kernel
theorem dX12_lengthOf_1 : decode cX12_lengthOf 1 = .ok (.tableswitch 46 0 5 #[39, 39, 41, 39, 46, 43], 39) := by decide +kernel
theorem dX12_lengthOf_40 : decode cX12_lengthOf 40 = .ok (.iconst 1, 1) := by decide +kernel
theorem dX12_lengthOf_41 : decode cX12_lengthOf 41 = .ok (.ireturn, 1) := by decide +kernel
theorem dX12_lengthOf_42 : decode cX12_lengthOf 42 = .ok (.iconst 2, 1) := by decide +kernel
theorem dX12_lengthOf_43 : decode cX12_lengthOf 43 = .ok (.ireturn, 1) := by decide +kernel
theorem dX12_lengthOf_44 : decode cX12_lengthOf 44 = .ok (.bipush 8, 2) := by decide +kernel
theorem dX12_lengthOf_46 : decode cX12_lengthOf 46 = .ok (.ireturn, 1) := by decide +kernel
theorem dX12_lengthOf_47 : decode cX12_lengthOf 47 = .ok (.iconst 4, 1) := by decide +kernel
theorem dX12_lengthOf_48 : decode cX12_lengthOf 48 = .ok (.ireturn, 1) := by decide +kernel
theorem dX12_sizeOf_0 : decode cX12_sizeOf 0 = .ok (.aload_n 0, 1) := by decide +kernel
theorem dX12_sizeOf_1 : decode cX12_sizeOf 1 = .ok (.getfield 17, 3) := by decide +kernel
theorem dX12_sizeOf_4 : decode cX12_sizeOf 4 = .ok (.bipush 11, 2) := by decide +kernel
theorem dX12_sizeOf_6 : decode cX12_sizeOf 6 = .ok (.iload_n 1, 1) := by decide +kernel
theorem dX12_sizeOf_7 : decode cX12_sizeOf 7 = .ok (.iadd, 1) := by decide +kernel
theorem dX12_sizeOf_8 : decode cX12_sizeOf 8 = .ok (.iaload, 1) := by decide +kernel
theorem dX12_sizeOf_9 : decode cX12_sizeOf 9 = .ok (.ireturn, 1) := by decide +kernel
theorem dX12_fieldOf_0 : decode cX12_fieldOf 0 = .ok (.aload_n 0, 1) := by decide +kernel
theorem dX12_fieldOf_1 : decode cX12_fieldOf 1 = .ok (.getfield 17, 3) := by decide +kernel
theorem dX12_fieldOf_4 : decode cX12_fieldOf 4 = .ok (.bipush 15, 2) := by decide +kernel
theorem dX12_fieldOf_6 : decode cX12_fieldOf 6 = .ok (.bipush 9, 2) := by decide +kernel
theorem dX12_fieldOf_8 : decode cX12_fieldOf 8 = .ok (.iload_n 1, 1) := by decide +kernel
theorem dX12_fieldOf_9 : decode cX12_fieldOf 9 = .ok (.imul, 1) := by decide +kernel
theorem dX12_fieldOf_10 : decode cX12_fieldOf 10 = .ok (.iadd, 1) := by decide +kernel
theorem dX12_fieldOf_11 : decode cX12_fieldOf 11 = .ok (.iload_n 2, 1) := by decide +kernel
theorem dX12_fieldOf_12 : decode cX12_fieldOf 12 = .ok (.iadd, 1) := by decide +kernel
theorem dX12_fieldOf_13 : decode cX12_fieldOf 13 = .ok (.iaload, 1) := by decide +kernel
theorem dX12_fieldOf_14 : decode cX12_fieldOf 14 = .ok (.ireturn, 1) := by decide +kernel
theorem dX12_isSupported_0 : decode cX12_isSupported 0 = .ok (.aload_n 0, 1) := by decide +kernel
theorem dX12_isSupported_1 : decode cX12_isSupported 1 = .ok (.getfield 17, 3) := by decide +kernel
theorem dX12_isSupported_4 : decode cX12_isSupported 4 = .ok (.bipush 9, 2) := by decide +kernel
theorem dX12_isSupported_6 : decode cX12_isSupported 6 = .ok (.iaload, 1) := by decide +kernel
theorem dX12_isSupported_7 : decode cX12_isSupported 7 = .ok (.iload_n 1, 1) := by decide +kernel
theorem dX12_isSupported_8 : decode cX12_isSupported 8 = .ok (.ishr, 1) := by decide +kernel
theorem dX12_isSupported_9 : decode cX12_isSupported 9 = .ok (.iconst 1, 1) := by decide +kernel
theorem dX12_isSupported_10 : decode cX12_isSupported 10 = .ok (.iand, 1) := by decide +kernel
theorem dX12_isSupported_11 : decode cX12_isSupported 11 = .ok (.iconst 1, 1) := by decide +kernel
theorem dX12_isSupported_12 : decode cX12_isSupported 12 = .ok (.if_icmp .ne 7, 3) := by decide +kernel
theorem dX12_isSupported_15 : decode cX12_isSupported 15 = .ok (.iconst 1, 1) := by decide +kernel
theorem dX12_isSupported_16 : decode cX12_isSupported 16 = .ok (.goto 4, 3) := by decide +kernel
theorem dX12_isSupported_19 : decode cX12_isSupported 19 = .ok (.iconst 0, 1) := by decide +kernel
theorem dX12_isSupported_20 : decode cX12_isSupported 20 = .ok (.ireturn, 1) := by decide +kernel
set_option maxRecDepth 20000 in
theorem ggX12_fieldsOf_X12_sizeOf : GoodIn wsX12_fieldsOf wsX12_sizeOf := goodIn_ca ((goodIn_ca (goodIn_r _ [5, 6] rfl (by decide +kernel)) (goodIn_sub (fun _ h => List.mem_cons_of_mem _ (List.mem_append_left _ (List.mem_append_right _ h))) gw_wsX120))) (goodIn_sub (fun _ h => List.mem_cons_of_mem _ (List.mem_append_right _ h)) (all_fg _))
set_option maxRecDepth 20000 in
theorem gX12_fieldsOf_X12_sizeOf : GoodIn wsX12_fieldsOf (wsV RX12 173 RX12 yX12_sizeOf wsX12_sizeOf) := goodIn_app (goodIn_m (mem_cA (List.mem_cons_of_mem _ (List.mem_append_left _ (List.mem_append_left _ (List.mem_of_getElem? (i := 0) rfl)))) (mem_cA (List.mem_cons_of_mem _ (List.mem_append_left _ (List.mem_append_left _ (List.mem_of_getElem? (i := 1) rfl)))) (mem_cA (List.mem_cons_of_mem _ (List.mem_append_left _ (List.mem_append_left _ (List.mem_of_getElem? (i := 2) rfl)))) (mem_cA (List.mem_cons_of_mem _ (List.mem_append_left _ (List.mem_append_left _ (List.mem_of_getElem? (i := 3) rfl)))) mem_cZ)))) (by decide +kernel)) ggX12_fieldsOf_X12_sizeOf
set_option maxRecDepth 20000 in
theorem ggX12_fieldsOf_X12_fieldOf : GoodIn wsX12_fieldsOf wsX12_fieldOf := goodIn_ca ((goodIn_ca (goodIn_r _ [10, 6] rfl (by decide +kernel)) (goodIn_sub (fun _ h => List.mem_cons_of_mem _ (List.mem_append_left _ (List.mem_append_right _ h))) gw_wsX120))) (goodIn_sub (fun _ h => List.mem_cons_of_mem _ (List.mem_append_right _ h)) (all_fg _))
set_option maxRecDepth 20000 in
theorem gX12_fieldsOf_X12_fieldOf : GoodIn wsX12_fieldsOf (wsV RX12 177 RX12 yX12_fieldOf wsX12_fieldOf) := goodIn_app (goodIn_m (mem_cA (List.mem_cons_of_mem _ (List.mem_append_left _ (List.mem_append_left _ (List.mem_of_getElem? (i := 6) rfl)))) (mem_cA (List.mem_cons_of_mem _ (List.mem_append_left _ (List.mem_append_left _ (List.mem_of_getElem? (i := 7) rfl)))) (mem_cA (List.mem_cons_of_mem _ (List.mem_append_left _ (List.mem_append_left _ (List.mem_of_getElem? (i := 8) rfl)))) (mem_cA (List.mem_cons_of_mem _ (List.mem_append_left _ (List.mem_append_left _ (List.mem_of_getElem? (i := 3) rfl)))) mem_cZ)))) (by decide +kernel)) ggX12_fieldsOf_X12_fieldOf
theorem dX12_fieldsOf_0 : decode cX12_fieldsOf 0 = .ok (.iconst 0, 1) := by decide +kernel
theorem dX12_fieldsOf_1 : decode cX12_fieldsOf 1 = .ok (.istore_n 2, 1) := by decide +kernel
theorem dX12_fieldsOf_2 : decode cX12_fieldsOf 2 = .ok (.iconst 0, 1) := by decide +kernel
theorem dX12_fieldsOf_3 : decode cX12_fieldsOf 3 = .ok (.istore_n 3, 1) := by decide +kernel
theorem dX12_fieldsOf_4 : decode cX12_fieldsOf 4 = .ok (.iload_n 3, 1) := by decide +kernel
theorem dX12_fieldsOf_5 : decode cX12_fieldsOf 5 = .ok (.aload_n 0, 1) := by decide +kernel
theorem dX12_fieldsOf_6 : decode cX12_fieldsOf 6 = .ok (.iload_n 1, 1) := by decide +kernel
theorem dX12_fieldsOf_7 : decode cX12_fieldsOf 7 = .ok (.invokevirtual 173, 3) := by decide +kernel
theorem dX12_fieldsOf_10 : decode cX12_fieldsOf 10 = .ok (.if_icmp .ge 20, 3) := by decide +kernel
theorem dX12_fieldsOf_13 : decode cX12_fieldsOf 13 = .ok (.iload_n 2, 1) := by decide +kernel
theorem dX12_fieldsOf_14 : decode cX12_fieldsOf 14 = .ok (.iconst 1, 1) := by decide +kernel
theorem dX12_fieldsOf_15 : decode cX12_fieldsOf 15 = .ok (.aload_n 0, 1) := by decide +kernel
theorem dX12_fieldsOf_16 : decode cX12_fieldsOf 16 = .ok (.iload_n 1, 1) := by decide +kernel
theorem dX12_fieldsOf_17 : decode cX12_fieldsOf 17 = .ok (.iload_n 3, 1) := by decide +kernel
theorem dX12_fieldsOf_18 : decode cX12_fieldsOf 18 = .ok (.invokevirtual 177, 3) := by decide +kernel
theorem dX12_fieldsOf_21 : decode cX12_fieldsOf 21 = .ok (.ishl, 1) := by decide +kernel
theorem dX12_fieldsOf_22 : decode cX12_fieldsOf 22 = .ok (.ior, 1) := by decide +kernel
theorem dX12_fieldsOf_23 : decode cX12_fieldsOf 23 = .ok (.istore_n 2, 1) := by decide +kernel
theorem dX12_fieldsOf_24 : decode cX12_fieldsOf 24 = .ok (.iinc 3 1, 3) := by decide +kernel
theorem dX12_fieldsOf_27 : decode cX12_fieldsOf 27 = .ok (.goto (-23), 3) := by decide +kernel
theorem dX12_fieldsOf_30 : decode cX12_fieldsOf 30 = .ok (.iload_n 2, 1) := by decide +kernel
theorem dX12_fieldsOf_31 : decode cX12_fieldsOf 31 = .ok (.ireturn, 1) := by decide +kernel
set_option maxRecDepth 20000 in
theorem ggX12_templateFields_X12_isTemplate : GoodIn wsX12_templateFields wsX12_isTemplate := goodIn_ca ((goodIn_ca (goodIn_r _ [6, 7, 8, 9, 5, 10] rfl (by decide +kernel)) (goodIn_sub (fun _ h => List.mem_cons_of_mem _ (List.mem_append_left _ (List.mem_append_right _ h))) gw_wsX120))) (goodIn_sub (fun _ h => List.mem_cons_of_mem _ (List.mem_append_right _ h)) (all_fg _))
set_option maxRecDepth 20000 in
theorem gX12_templateFields_X12_isTemplate : GoodIn wsX12_templateFields (wsV RX12 181 RX12 yX12_isTemplate wsX12_isTemplate) := goodIn_app (goodIn_m (mem_cA (List.mem_cons_of_mem _ (List.mem_append_left _ (List.mem_append_left _ (List.mem_append_left _ (List.mem_of_getElem? (i := 1) rfl))))) (mem_cA (List.mem_cons_of_mem _ (List.mem_append_left _ (List.mem_append_left _ (List.mem_append_left _ (List.mem_of_getElem? (i := 2) rfl))))) (mem_cA (List.mem_cons_of_mem _ (List.mem_append_left _ (List.mem_append_left _ (List.mem_append_left _ (List.mem_of_getElem? (i := 3) rfl))))) (mem_cA (List.mem_cons_of_mem _ (List.mem_append_left _ (List.mem_append_left _ (List.mem_append_left _ (List.mem_of_getElem? (i := 4) rfl))))) mem_cZ)))) (by decide +kernel)) ggX12_templateFields_X12_isTemplate
set_option maxRecDepth 20000 in
theorem ggX12_templateFields_X12_throwsIf : GoodIn wsX12_templateFields wsX12_throwsIf := (goodIn_ca (goodIn_r _ [14, 1] rfl (by decide +kernel)) (goodIn_sub (fun _ h => List.mem_cons_of_mem _ (List.mem_append_left _ (List.mem_append_right _ h))) gw_wsX120))
set_option maxRecDepth 20000 in
theorem gX12_templateFields_X12_throwsIf : GoodIn wsX12_templateFields (wsV RX12 185 RX12 yX12_throwsIf wsX12_throwsIf) := goodIn_app (goodIn_m (mem_cA (List.mem_cons_of_mem _ (List.mem_append_left _ (List.mem_append_left _ (List.mem_append_left _ (List.mem_of_getElem? (i := 10) rfl))))) (mem_cA (List.mem_cons_of_mem _ (List.mem_append_left _ (List.mem_append_left _ (List.mem_append_left _ (List.mem_of_getElem? (i := 11) rfl))))) (mem_cA (List.mem_cons_of_mem _ (List.mem_append_left _ (List.mem_append_left _ (List.mem_append_left _ (List.mem_of_getElem? (i := 12) rfl))))) (mem_cA (List.mem_cons_of_mem _ (List.mem_append_left _ (List.mem_append_left _ (List.mem_append_left _ (List.mem_of_getElem? (i := 4) rfl))))) mem_cZ)))) (by decide +kernel)) ggX12_templateFields_X12_throwsIf
set_option maxRecDepth 20000 in
theorem ggX12_templateFields_X12_fieldsOf : GoodIn wsX12_templateFields wsX12_fieldsOf := goodIn_ca ((goodIn_ca (goodIn_r _ [18, 19, 20, 21, 5, 22, 7, 23, 24, 25, 26] rfl (by decide +kernel)) (goodIn_sub (fun _ h => List.mem_cons_of_mem _ (List.mem_append_left _ (List.mem_append_right _ h))) gw_wsX120))) (goodIn_sub (fun _ h => List.mem_cons_of_mem _ (List.mem_append_right _ h)) (all_fg _))
set_option maxRecDepth 20000 in
theorem gX12_templateFields_X12_fieldsOf : GoodIn wsX12_templateFields (wsV RX12 189 RX12 yX12_fieldsOf wsX12_fieldsOf) := goodIn_app (goodIn_m (mem_cA (List.mem_cons_of_mem _ (List.mem_append_left _ (List.mem_append_left _ (List.mem_append_left _ (List.mem_of_getElem? (i := 14) rfl))))) (mem_cA (List.mem_cons_of_mem _ (List.mem_append_left _ (List.mem_append_left _ (List.mem_append_left _ (List.mem_of_getElem? (i := 15) rfl))))) (mem_cA (List.mem_cons_of_mem _ (List.mem_append_left _ (List.mem_append_left _ (List.mem_append_left _ (List.mem_of_getElem? (i := 16) rfl))))) (mem_cA (List.mem_cons_of_mem _ (List.mem_append_left _ (List.mem_append_left _ (List.mem_append_left _ (List.mem_of_getElem? (i := 4) rfl))))) mem_cZ)))) (by decide +kernel)) ggX12_templateFields_X12_fieldsOf
theorem dX12_templateFields_0 : decode cX12_templateFields 0 = .ok (.aload_n 0, 1) := by decide +kernel
theorem dX12_templateFields_1 : decode cX12_templateFields 1 = .ok (.iconst 0, 1) := by decide +kernel
theorem dX12_templateFields_2 : decode cX12_templateFields 2 = .ok (.putfield 1, 3) := by decide +kernel
theorem dX12_templateFields_5 : decode cX12_templateFields 5 = .ok (.aload_n 0, 1) := by decide +kernel
theorem dX12_templateFields_6 : decode cX12_templateFields 6 = .ok (.aload_n 0, 1) := by decide +kernel
theorem dX12_templateFields_7 : decode cX12_templateFields 7 = .ok (.iload_n 1, 1) := by decide +kernel
theorem dX12_templateFields_8 : decode cX12_templateFields 8 = .ok (.invokevirtual 181, 3) := by decide +kernel
theorem dX12_templateFields_11 : decode cX12_templateFields 11 = .ok (.ifCond .ne 7, 3) := by decide +kernel
theorem dX12_templateFields_14 : decode cX12_templateFields 14 = .ok (.iconst 1, 1) := by decide +kernel
theorem dX12_templateFields_15 : decode cX12_templateFields 15 = .ok (.goto 4, 3) := by decide +kernel
theorem dX12_templateFields_18 : decode cX12_templateFields 18 = .ok (.iconst 0, 1) := by decide +kernel
theorem dX12_templateFields_19 : decode cX12_templateFields 19 = .ok (.iconst 1, 1) := by decide +kernel
theorem dX12_templateFields_20 : decode cX12_templateFields 20 = .ok (.invokevirtual 185, 3) := by decide +kernel
theorem dX12_templateFields_23 : decode cX12_templateFields 23 = .ok (.ifCond .eq 7, 3) := by decide +kernel
theorem dX12_templateFields_26 : decode cX12_templateFields 26 = .ok (.iconst 0, 1) := by decide +kernel
theorem dX12_templateFields_27 : decode cX12_templateFields 27 = .ok (.goto 8, 3) := by decide +kernel
theorem dX12_templateFields_30 : decode cX12_templateFields 30 = .ok (.aload_n 0, 1) := by decide +kernel
theorem dX12_templateFields_31 : decode cX12_templateFields 31 = .ok (.iload_n 1, 1) := by decide +kernel
theorem dX12_templateFields_32 : decode cX12_templateFields 32 = .ok (.invokevirtual 189, 3) := by decide +kernel
theorem dX12_templateFields_35 : decode cX12_templateFields 35 = .ok (.ireturn, 1) := by decide +kernel
set_option maxRecDepth 20000 in
theorem ggX12_effective_X12_fieldsOf : GoodIn wsX12_effective wsX12_fieldsOf := goodIn_ca ((goodIn_ca (goodIn_r _ [6, 7, 8, 9, 5, 10, 1, 11, 12, 13, 14] rfl (by decide +kernel)) (goodIn_sub (fun _ h => List.mem_cons_of_mem _ (List.mem_append_left _ (List.mem_append_right _ h))) gw_wsX120))) (goodIn_sub (fun _ h => List.mem_cons_of_mem _ (List.mem_append_right _ h)) (all_fg _))
set_option maxRecDepth 20000 in
theorem gX12_effective_X12_fieldsOf : GoodIn wsX12_effective (wsV RX12 189 RX12 yX12_fieldsOf wsX12_fieldsOf) := goodIn_app (goodIn_m (mem_cA (List.mem_cons_of_mem _ (List.mem_append_left _ (List.mem_append_left _ (List.mem_of_getElem? (i := 1) rfl)))) (mem_cA (List.mem_cons_of_mem _ (List.mem_append_left _ (List.mem_append_left _ (List.mem_of_getElem? (i := 2) rfl)))) (mem_cA (List.mem_cons_of_mem _ (List.mem_append_left _ (List.mem_append_left _ (List.mem_of_getElem? (i := 3) rfl)))) (mem_cA (List.mem_cons_of_mem _ (List.mem_append_left _ (List.mem_append_left _ (List.mem_of_getElem? (i := 4) rfl)))) mem_cZ)))) (by decide +kernel)) ggX12_effective_X12_fieldsOf
theorem dX12_effective_0 : decode cX12_effective 0 = .ok (.aload_n 0, 1) := by decide +kernel
theorem dX12_effective_1 : decode cX12_effective 1 = .ok (.iload_n 1, 1) := by decide +kernel
theorem dX12_effective_2 : decode cX12_effective 2 = .ok (.invokevirtual 189, 3) := by decide +kernel
theorem dX12_effective_5 : decode cX12_effective 5 = .ok (.aload_n 0, 1) := by decide +kernel
theorem dX12_effective_6 : decode cX12_effective 6 = .ok (.getfield 17, 3) := by decide +kernel
theorem dX12_effective_9 : decode cX12_effective 9 = .ok (.bipush 9, 2) := by decide +kernel
theorem dX12_effective_11 : decode cX12_effective 11 = .ok (.iaload, 1) := by decide +kernel
theorem dX12_effective_12 : decode cX12_effective 12 = .ok (.iand, 1) := by decide +kernel
theorem dX12_effective_13 : decode cX12_effective 13 = .ok (.ireturn, 1) := by decide +kernel
set_option maxRecDepth 20000 in
theorem ggX12_recordLengthOf_X12_effective : GoodIn wsX12_recordLengthOf wsX12_effective := goodIn_ca ((goodIn_ca (goodIn_r _ [5, 6, 7, 8, 9, 4, 10, 11, 12, 13, 14, 15, 16, 17, 18] rfl (by decide +kernel)) (goodIn_sub (fun _ h => List.mem_cons_of_mem _ (List.mem_append_left _ (List.mem_append_right _ h))) gw_wsX120))) (goodIn_sub (fun _ h => List.mem_cons_of_mem _ (List.mem_append_right _ h)) (all_fg _))
set_option maxRecDepth 20000 in
theorem gX12_recordLengthOf_X12_effective : GoodIn wsX12_recordLengthOf (wsV RX12 192 RX12 yX12_effective wsX12_effective) := goodIn_app (goodIn_m (mem_cA (List.mem_cons_of_mem _ (List.mem_append_left _ (List.mem_append_left _ (List.mem_of_getElem? (i := 0) rfl)))) (mem_cA (List.mem_cons_of_mem _ (List.mem_append_left _ (List.mem_append_left _ (List.mem_of_getElem? (i := 1) rfl)))) (mem_cA (List.mem_cons_of_mem _ (List.mem_append_left _ (List.mem_append_left _ (List.mem_of_getElem? (i := 2) rfl)))) (mem_cA (List.mem_cons_of_mem _ (List.mem_append_left _ (List.mem_append_left _ (List.mem_of_getElem? (i := 3) rfl)))) mem_cZ)))) (by decide +kernel)) ggX12_recordLengthOf_X12_effective
set_option maxRecDepth 20000 in
theorem ggX12_recordLengthOf_X12_lengthOf : GoodIn wsX12_recordLengthOf wsX12_lengthOf := (goodIn_r _ [21] rfl (by decide +kernel))
set_option maxRecDepth 20000 in
theorem gX12_recordLengthOf_X12_lengthOf : GoodIn wsX12_recordLengthOf (va_wsS RX12 195 yX12_lengthOf wsX12_lengthOf) := goodIn_app (goodIn_m (mem_cA (List.mem_cons_of_mem _ (List.mem_append_left _ (List.mem_append_left _ (List.mem_of_getElem? (i := 18) rfl)))) (mem_cA (List.mem_cons_of_mem _ (List.mem_append_left _ (List.mem_append_left _ (List.mem_of_getElem? (i := 19) rfl)))) (mem_cA (List.mem_cons_of_mem _ (List.mem_append_left _ (List.mem_append_left _ (List.mem_of_getElem? (i := 3) rfl)))) mem_cZ))) (by decide +kernel)) ggX12_recordLengthOf_X12_lengthOf
theorem dX12_recordLengthOf_0 : decode cX12_recordLengthOf 0 = .ok (.iconst 0, 1) := by decide +kernel
theorem dX12_recordLengthOf_1 : decode cX12_recordLengthOf 1 = .ok (.istore_n 2, 1) := by decide +kernel
theorem dX12_recordLengthOf_2 : decode cX12_recordLengthOf 2 = .ok (.iconst 0, 1) := by decide +kernel
theorem dX12_recordLengthOf_3 : decode cX12_recordLengthOf 3 = .ok (.istore_n 3, 1) := by decide +kernel
theorem dX12_recordLengthOf_4 : decode cX12_recordLengthOf 4 = .ok (.iload_n 3, 1) := by decide +kernel
theorem dX12_recordLengthOf_5 : decode cX12_recordLengthOf 5 = .ok (.bipush 9, 2) := by decide +kernel
theorem dX12_recordLengthOf_7 : decode cX12_recordLengthOf 7 = .ok (.if_icmp .ge 29, 3) := by decide +kernel
theorem dX12_recordLengthOf_10 : decode cX12_recordLengthOf 10 = .ok (.aload_n 0, 1) := by decide +kernel
theorem dX12_recordLengthOf_11 : decode cX12_recordLengthOf 11 = .ok (.iload_n 1, 1) := by decide +kernel
theorem dX12_recordLengthOf_12 : decode cX12_recordLengthOf 12 = .ok (.invokevirtual 192, 3) := by decide +kernel
theorem dX12_recordLengthOf_15 : decode cX12_recordLengthOf 15 = .ok (.iload_n 3, 1) := by decide +kernel
theorem dX12_recordLengthOf_16 : decode cX12_recordLengthOf 16 = .ok (.ishr, 1) := by decide +kernel
theorem dX12_recordLengthOf_17 : decode cX12_recordLengthOf 17 = .ok (.iconst 1, 1) := by decide +kernel
theorem dX12_recordLengthOf_18 : decode cX12_recordLengthOf 18 = .ok (.iand, 1) := by decide +kernel
theorem dX12_recordLengthOf_19 : decode cX12_recordLengthOf 19 = .ok (.iconst 1, 1) := by decide +kernel
theorem dX12_recordLengthOf_20 : decode cX12_recordLengthOf 20 = .ok (.if_icmp .ne 10, 3) := by decide +kernel
theorem dX12_recordLengthOf_23 : decode cX12_recordLengthOf 23 = .ok (.iload_n 2, 1) := by decide +kernel
theorem dX12_recordLengthOf_24 : decode cX12_recordLengthOf 24 = .ok (.iload_n 3, 1) := by decide +kernel
theorem dX12_recordLengthOf_25 : decode cX12_recordLengthOf 25 = .ok (.invokestatic 195, 3) := by decide +kernel
theorem dX12_recordLengthOf_28 : decode cX12_recordLengthOf 28 = .ok (.iadd, 1) := by decide +kernel
theorem dX12_recordLengthOf_29 : decode cX12_recordLengthOf 29 = .ok (.istore_n 2, 1) := by decide +kernel
theorem dX12_recordLengthOf_30 : decode cX12_recordLengthOf 30 = .ok (.iinc 3 1, 3) := by decide +kernel
theorem dX12_recordLengthOf_33 : decode cX12_recordLengthOf 33 = .ok (.goto (-29), 3) := by decide +kernel
theorem dX12_recordLengthOf_36 : decode cX12_recordLengthOf 36 = .ok (.iload_n 2, 1) := by decide +kernel
theorem dX12_recordLengthOf_37 : decode cX12_recordLengthOf 37 = .ok (.ireturn, 1) := by decide +kernel
set_option maxHeartbeats 4000000 in
set_option maxRecDepth 100000 in
theorem r_sizeOf (G : EnvG) (l : Launch) (Φ : Hm) (sz x : Nat) (rd : (Nat → Int32) → Prop) (nw : (Nat → Int32) → Prop) (cr : (Nat → Int64) → Prop) (tp : (Nat → Int32) → Prop) (tt : (Nat → Int64) → Prop) (sI : (Nat → Int32) → Prop) (sT : (Nat → Int32) → Prop) (pt : (Nat → Int32) → Prop) (ql : (Nat → Int32) → Prop) (fl : Nat) (pe : Nat) (le : Nat) (nx : Nat) (il : Nat) (qu : Nat) (kn : Int32) (ec : Int32) (nu : Int32) (va : Int64) (st : Nat) (ep : Int32) (ti : Int32) (ad : Int32) (ob : Int64) (ra : Int32) (rt : Nat) (ex : Int32) (sa : Int64) (us : Int64) (tk : Nat) (th : Int32) (me : Int32) (dr : Int32) (se : Int64) (sn : Int64) (t : Nat) (hx : G.2.2.2 ≤ x) (hI : Im G x (rd, nw, cr, tp, tt, sI, sT, pt, ql, fl, pe, le, nx, il, qu, kn, ec, nu, va, st, ep, ti, ad, ob, ra, rt, ex, sa, us, tk, th, me, dr, se, sn) Φ) (ht : t < 4) (hnw : ∀ f9 : Nat → Int32, nw f9 → NN f9) : Ct G l yX12_sizeOf wsX12_sizeOf ({ frames := 0, cells := 0, slots := 0, locals := 0 }) 0 0 [.ref x, .int (nI t)] Φ sz (fun v Φ1 sz1 => (∃ n9 : Nat, v = some (.int (nI n9)) ∧ n9 ≤ 9) ∧ sz1 = sz ∧ (Im G x (rd, nw, cr, tp, tt, sI, sT, pt, ql, fl, pe, le, nx, il, qu, kn, ec, nu, va, st, ep, ti, ad, ob, ra, rt, ex, sa, us, tk, th, me, dr, se, sn) Φ1) ∧ Fr x (fun j9 => False) Φ Φ1) := by
  refine Ct.of (cc := cX12_sizeOf) (maxL := 2) (ret := (some .int)) (by decide) rfl (Nat.le_of_ble_eq_true rfl) ?_
  intro p9 e9 s9 m9 w9 t9 k9 B
  show Z p9 l e9 _ s9 m9 _ w9 t9 k9 _ G 2 0 [(0, .ref x), (1, .int (nI t))] [] Φ sz 0 0
  refine z_aload_n B dX12_sizeOf_0 rfl 0 rfl ?_
  obtain ⟨n_1, v_1, n_2, h_1, b_13, b_1, b_2, b_3, b_4, b_5, b_6, b_7, b_8, b_9, b_10, b_11, b_12⟩ := im0 hI
  replace b_1 : 1 ≤ rt := b_1
  replace b_2 : rt ≤ 1024 := b_2
  replace b_3 : fl ≤ 12 := b_3
  replace b_4 : pe ≤ 24 := b_4
  replace b_5 : le ≤ 700 := b_5
  replace b_6 : qu ≤ 12 := b_6
  replace b_7 : n_1 ≤ 8 := b_7
  replace b_8 : n_2 ≤ 24 := b_8
  replace b_9 : tk ≤ 24 := b_9
  replace b_10 : il ≤ 700 := b_10
  replace b_11 : nx ≤ 701 := b_11
  replace b_12 : st ≤ 701 := b_12
  have h_2 : Φ x = some (o_ 14 [.int th, .ref (x + 1), .ref (x + 2), .int ti, .int ra, .int (nI rt), .int ex, .int ad, .ref (x + 3), .ref (x + 4), .int me, .long se, .ref (x + 5), .int (nI fl), .int dr, .long ob, .long sa, .long sn, .long us, .ref (x + 6), .ref (x + 7), .int (nI pe), .ref (x + 8), .int (nI le), .ref (x + 9), .ref (x + 10), .int (nI qu), .ref (x + 11), .ref (x + 12), .ref (x + 13), .ref (x + 14), .ref (x + 15), .ref (x + 16), .int (nI n_1), .long v_1, .ref (x + 17), .ref (x + 18), .ref (x + 19), .ref (x + 20), .ref (x + 21), .ref (x + 22), .int (nI n_2), .ref (x + 23), .ref (x + 24), .int (nI tk), .ref (x + 25), .int (nI il), .int (nI nx), .int ec, .int ep, .int kn, .int (nI st), .int nu, .long va]) := h_1
  refine z_get (ref := "FlowExporterModel") (C := RX12) (T := TX12) (N := 54) (ci := 14) (v := .ref (x + 2)) B hu_X12_sizeOf_X12 rfl 2 (Nat.le_of_ble_eq_true rfl) hv_X12_sizeOf_17 rfl h_2 rfl dX12_sizeOf_1 ?_
  refine z_bipush (v := 11) B dX12_sizeOf_4 rfl ?_
  refine z_iload_n B dX12_sizeOf_6 rfl 1 rfl ?_
  refine z_iadd B dX12_sizeOf_7 ?_
  refine z_top (st1 := [.int (nI (11 + t)), .ref (x + 2)]) (congrArg (fun w9 : Int32 => ([.int w9, .ref (x + 2)] : List Value)) (nI_add 11 t)) ?_
  obtain ⟨f_1, h_3, r_1⟩ := imk (k := 2) hI
  replace r_1 : nw f_1 := r_1
  have r_2 : NN f_1 := hnw f_1 r_1
  have h_4 : Φ (x + 2) = some (ai_ G 307 f_1) := h_3
  refine z_iald B h_4 (vp_in_nI (by omega) (by omega)) dX12_sizeOf_8 ?_
  obtain ⟨n_3, b_14, e_1⟩ := r_2.1 (11 + t) (by omega) (by omega)
  refine z_top (st1 := [.int (nI n_3)]) (congrArg (fun w9 : Int32 => ([.int w9] : List Value)) ((congrArg f_1 (nI_clamp (by omega))).trans e_1)) ?_
  exact z_ret_i B dX12_sizeOf_9 ⟨⟨n_3, rfl, (show n_3 ≤ 9 by omega)⟩, rfl, hI, (fun b9 h9 => rfl)⟩

theorem hu_X12_fieldOf_X12 : ∀ w ∈ u_ws RX12 TX12 54, w ∈ wsX12_fieldOf := fun _ h => List.mem_cons_of_mem _ (List.mem_append_left _ (List.mem_append_right _ (h)))

theorem hv_X12_fieldOf_17 : Cond.fieldLink RX12 17 "FlowExporterModel" (TX12 2).2.1 (TX12 2).2.2.1 ∈ wsX12_fieldOf := List.mem_cons_of_mem _ (List.mem_append_left _ (List.mem_append_left _ (List.mem_of_getElem? (i := 0) rfl)))

set_option maxHeartbeats 4000000 in
set_option maxRecDepth 100000 in
theorem r_fieldOf (G : EnvG) (l : Launch) (Φ : Hm) (sz x : Nat) (rd : (Nat → Int32) → Prop) (nw : (Nat → Int32) → Prop) (cr : (Nat → Int64) → Prop) (tp : (Nat → Int32) → Prop) (tt : (Nat → Int64) → Prop) (sI : (Nat → Int32) → Prop) (sT : (Nat → Int32) → Prop) (pt : (Nat → Int32) → Prop) (ql : (Nat → Int32) → Prop) (fl : Nat) (pe : Nat) (le : Nat) (nx : Nat) (il : Nat) (qu : Nat) (kn : Int32) (ec : Int32) (nu : Int32) (va : Int64) (st : Nat) (ep : Int32) (ti : Int32) (ad : Int32) (ob : Int64) (ra : Int32) (rt : Nat) (ex : Int32) (sa : Int64) (us : Int64) (tk : Nat) (th : Int32) (me : Int32) (dr : Int32) (se : Int64) (sn : Int64) (t : Nat) (q : Nat) (hx : G.2.2.2 ≤ x) (hI : Im G x (rd, nw, cr, tp, tt, sI, sT, pt, ql, fl, pe, le, nx, il, qu, kn, ec, nu, va, st, ep, ti, ad, ob, ra, rt, ex, sa, us, tk, th, me, dr, se, sn) Φ) (ht : t < 4) (hq : q < 9) (hnw : ∀ f9 : Nat → Int32, nw f9 → NN f9) : Ct G l yX12_fieldOf wsX12_fieldOf ({ frames := 0, cells := 0, slots := 0, locals := 0 }) 0 0 [.ref x, .int (nI t), .int (nI q)] Φ sz (fun v Φ1 sz1 => (∃ n9 : Nat, v = some (.int (nI n9)) ∧ n9 ≤ 8) ∧ sz1 = sz ∧ (Im G x (rd, nw, cr, tp, tt, sI, sT, pt, ql, fl, pe, le, nx, il, qu, kn, ec, nu, va, st, ep, ti, ad, ob, ra, rt, ex, sa, us, tk, th, me, dr, se, sn) Φ1) ∧ Fr x (fun j9 => False) Φ Φ1) := by
  refine Ct.of (cc := cX12_fieldOf) (maxL := 3) (ret := (some .int)) (by decide) rfl (Nat.le_of_ble_eq_true rfl) ?_
  intro p9 e9 s9 m9 w9 t9 k9 B
  show Z p9 l e9 _ s9 m9 _ w9 t9 k9 _ G 3 0 [(0, .ref x), (1, .int (nI t)), (2, .int (nI q))] [] Φ sz 0 0
  refine z_aload_n B dX12_fieldOf_0 rfl 0 rfl ?_
  obtain ⟨n_1, v_1, n_2, h_1, b_13, b_1, b_2, b_3, b_4, b_5, b_6, b_7, b_8, b_9, b_10, b_11, b_12⟩ := im0 hI
  replace b_1 : 1 ≤ rt := b_1
  replace b_2 : rt ≤ 1024 := b_2
  replace b_3 : fl ≤ 12 := b_3
  replace b_4 : pe ≤ 24 := b_4
  replace b_5 : le ≤ 700 := b_5
  replace b_6 : qu ≤ 12 := b_6
  replace b_7 : n_1 ≤ 8 := b_7
  replace b_8 : n_2 ≤ 24 := b_8
  replace b_9 : tk ≤ 24 := b_9
  replace b_10 : il ≤ 700 := b_10
  replace b_11 : nx ≤ 701 := b_11
  replace b_12 : st ≤ 701 := b_12
  have h_2 : Φ x = some (o_ 14 [.int th, .ref (x + 1), .ref (x + 2), .int ti, .int ra, .int (nI rt), .int ex, .int ad, .ref (x + 3), .ref (x + 4), .int me, .long se, .ref (x + 5), .int (nI fl), .int dr, .long ob, .long sa, .long sn, .long us, .ref (x + 6), .ref (x + 7), .int (nI pe), .ref (x + 8), .int (nI le), .ref (x + 9), .ref (x + 10), .int (nI qu), .ref (x + 11), .ref (x + 12), .ref (x + 13), .ref (x + 14), .ref (x + 15), .ref (x + 16), .int (nI n_1), .long v_1, .ref (x + 17), .ref (x + 18), .ref (x + 19), .ref (x + 20), .ref (x + 21), .ref (x + 22), .int (nI n_2), .ref (x + 23), .ref (x + 24), .int (nI tk), .ref (x + 25), .int (nI il), .int (nI nx), .int ec, .int ep, .int kn, .int (nI st), .int nu, .long va]) := h_1
  refine z_get (ref := "FlowExporterModel") (C := RX12) (T := TX12) (N := 54) (ci := 14) (v := .ref (x + 2)) B hu_X12_fieldOf_X12 rfl 2 (Nat.le_of_ble_eq_true rfl) hv_X12_fieldOf_17 rfl h_2 rfl dX12_fieldOf_1 ?_
  refine z_bipush (v := 15) B dX12_fieldOf_4 rfl ?_
  refine z_bipush (v := 9) B dX12_fieldOf_6 rfl ?_
  refine z_iload_n B dX12_fieldOf_8 rfl 1 rfl ?_
  refine z_imul B dX12_fieldOf_9 ?_
  refine z_top (st1 := [.int (nI (9 * t)), .int 15, .ref (x + 2)]) (congrArg (fun w9 : Int32 => ([.int w9, .int 15, .ref (x + 2)] : List Value)) (nI_mul 9 t)) ?_
  refine z_iadd B dX12_fieldOf_10 ?_
  refine z_top (st1 := [.int (nI (15 + 9 * t)), .ref (x + 2)]) (congrArg (fun w9 : Int32 => ([.int w9, .ref (x + 2)] : List Value)) (nI_add 15 (9 * t))) ?_
  refine z_iload_n B dX12_fieldOf_11 rfl 2 rfl ?_
  refine z_iadd B dX12_fieldOf_12 ?_
  refine z_top (st1 := [.int (nI (15 + 9 * t + q)), .ref (x + 2)]) (congrArg (fun w9 : Int32 => ([.int w9, .ref (x + 2)] : List Value)) (nI_add (15 + 9 * t) q)) ?_
  obtain ⟨f_1, h_3, r_1⟩ := imk (k := 2) hI
  replace r_1 : nw f_1 := r_1
  have r_2 : NN f_1 := hnw f_1 r_1
  have h_4 : Φ (x + 2) = some (ai_ G 307 f_1) := h_3
  refine z_iald B h_4 (vp_in_nI (by omega) (by omega)) dX12_fieldOf_13 ?_
  obtain ⟨n_3, b_14, e_1⟩ := r_2.2.1 (15 + 9 * t + q) (by omega) (by omega)
  refine z_top (st1 := [.int (nI n_3)]) (congrArg (fun w9 : Int32 => ([.int w9] : List Value)) ((congrArg f_1 (nI_clamp (by omega))).trans e_1)) ?_
  exact z_ret_i B dX12_fieldOf_14 ⟨⟨n_3, rfl, (show n_3 ≤ 8 by omega)⟩, rfl, hI, (fun b9 h9 => rfl)⟩

theorem hu_X12_isSupported_X12 : ∀ w ∈ u_ws RX12 TX12 54, w ∈ wsX12_isSupported := fun _ h => List.mem_cons_of_mem _ (List.mem_append_left _ (List.mem_append_right _ (h)))

theorem hv_X12_isSupported_17 : Cond.fieldLink RX12 17 "FlowExporterModel" (TX12 2).2.1 (TX12 2).2.2.1 ∈ wsX12_isSupported := List.mem_cons_of_mem _ (List.mem_append_left _ (List.mem_append_left _ (List.mem_of_getElem? (i := 0) rfl)))

set_option maxHeartbeats 4000000 in
set_option maxRecDepth 100000 in
theorem r_isSupported (G : EnvG) (l : Launch) (Φ : Hm) (sz x : Nat) (rd : (Nat → Int32) → Prop) (nw : (Nat → Int32) → Prop) (cr : (Nat → Int64) → Prop) (tp : (Nat → Int32) → Prop) (tt : (Nat → Int64) → Prop) (sI : (Nat → Int32) → Prop) (sT : (Nat → Int32) → Prop) (pt : (Nat → Int32) → Prop) (ql : (Nat → Int32) → Prop) (fl : Nat) (pe : Nat) (le : Nat) (nx : Nat) (il : Nat) (qu : Nat) (kn : Int32) (ec : Int32) (nu : Int32) (va : Int64) (st : Nat) (ep : Int32) (ti : Int32) (ad : Int32) (ob : Int64) (ra : Int32) (rt : Nat) (ex : Int32) (sa : Int64) (us : Int64) (tk : Nat) (th : Int32) (me : Int32) (dr : Int32) (se : Int64) (sn : Int64) (a : Int32) (hx : G.2.2.2 ≤ x) (hI : Im G x (rd, nw, cr, tp, tt, sI, sT, pt, ql, fl, pe, le, nx, il, qu, kn, ec, nu, va, st, ep, ti, ad, ob, ra, rt, ex, sa, us, tk, th, me, dr, se, sn) Φ) (hnw : ∀ f9 : Nat → Int32, nw f9 → NN f9) : Ct G l yX12_isSupported wsX12_isSupported ({ frames := 0, cells := 0, slots := 0, locals := 0 }) 0 0 [.ref x, .int a] Φ sz (fun v Φ1 sz1 => (∃ r9 : Int32, v = some (.int r9) ∧ (r9 = 0 ∨ r9 = 1)) ∧ sz1 = sz ∧ (Im G x (rd, nw, cr, tp, tt, sI, sT, pt, ql, fl, pe, le, nx, il, qu, kn, ec, nu, va, st, ep, ti, ad, ob, ra, rt, ex, sa, us, tk, th, me, dr, se, sn) Φ1) ∧ Fr x (fun j9 => False) Φ Φ1) := by
  refine Ct.of (cc := cX12_isSupported) (maxL := 2) (ret := (some .boolean)) (by decide) rfl (Nat.le_of_ble_eq_true rfl) ?_
  intro p9 e9 s9 m9 w9 t9 k9 B
  show Z p9 l e9 _ s9 m9 _ w9 t9 k9 _ G 2 0 [(0, .ref x), (1, .int a)] [] Φ sz 0 0
  refine z_aload_n B dX12_isSupported_0 rfl 0 rfl ?_
  obtain ⟨n_1, v_1, n_2, h_1, b_13, b_1, b_2, b_3, b_4, b_5, b_6, b_7, b_8, b_9, b_10, b_11, b_12⟩ := im0 hI
  replace b_1 : 1 ≤ rt := b_1
  replace b_2 : rt ≤ 1024 := b_2
  replace b_3 : fl ≤ 12 := b_3
  replace b_4 : pe ≤ 24 := b_4
  replace b_5 : le ≤ 700 := b_5
  replace b_6 : qu ≤ 12 := b_6
  replace b_7 : n_1 ≤ 8 := b_7
  replace b_8 : n_2 ≤ 24 := b_8
  replace b_9 : tk ≤ 24 := b_9
  replace b_10 : il ≤ 700 := b_10
  replace b_11 : nx ≤ 701 := b_11
  replace b_12 : st ≤ 701 := b_12
  have h_2 : Φ x = some (o_ 14 [.int th, .ref (x + 1), .ref (x + 2), .int ti, .int ra, .int (nI rt), .int ex, .int ad, .ref (x + 3), .ref (x + 4), .int me, .long se, .ref (x + 5), .int (nI fl), .int dr, .long ob, .long sa, .long sn, .long us, .ref (x + 6), .ref (x + 7), .int (nI pe), .ref (x + 8), .int (nI le), .ref (x + 9), .ref (x + 10), .int (nI qu), .ref (x + 11), .ref (x + 12), .ref (x + 13), .ref (x + 14), .ref (x + 15), .ref (x + 16), .int (nI n_1), .long v_1, .ref (x + 17), .ref (x + 18), .ref (x + 19), .ref (x + 20), .ref (x + 21), .ref (x + 22), .int (nI n_2), .ref (x + 23), .ref (x + 24), .int (nI tk), .ref (x + 25), .int (nI il), .int (nI nx), .int ec, .int ep, .int kn, .int (nI st), .int nu, .long va]) := h_1
  refine z_get (ref := "FlowExporterModel") (C := RX12) (T := TX12) (N := 54) (ci := 14) (v := .ref (x + 2)) B hu_X12_isSupported_X12 rfl 2 (Nat.le_of_ble_eq_true rfl) hv_X12_isSupported_17 rfl h_2 rfl dX12_isSupported_1 ?_
  refine z_bipush (v := 9) B dX12_isSupported_4 rfl ?_
  obtain ⟨f_1, h_3, r_1⟩ := imk (k := 2) hI
  replace r_1 : nw f_1 := r_1
  have r_2 : NN f_1 := hnw f_1 r_1
  have h_4 : Φ (x + 2) = some (ai_ G 307 f_1) := h_3
  refine z_iald B h_4 (vin rfl) dX12_isSupported_6 ?_
  refine z_fi (fun v_2 => ?_)
  refine z_iload_n B dX12_isSupported_7 rfl 1 rfl ?_
  refine z_ishr B dX12_isSupported_8 ?_
  refine z_fi (fun v_3 => ?_)
  refine z_iconst (v := 1) B dX12_isSupported_9 rfl ?_
  refine z_iand B dX12_isSupported_10 ?_
  refine z_fi (fun v_4 => ?_)
  refine z_iconst (v := 1) B dX12_isSupported_11 rfl ?_
  refine z_icmp_ne (tgt := 19) B dX12_isSupported_12 rfl (fun c_1 => ?_) (fun c_1 => ?_)
  · refine z_iconst (v := 0) B dX12_isSupported_19 rfl ?_
    exact z_ret_z B dX12_isSupported_20 (by decide) ⟨⟨_, rfl, by decide⟩, rfl, hI, (fun b9 h9 => rfl)⟩
  · refine z_iconst (v := 1) B dX12_isSupported_15 rfl ?_
    refine z_goto (tgt := 20) B dX12_isSupported_16 rfl ?_
    exact z_ret_z B dX12_isSupported_20 (by decide) ⟨⟨_, rfl, by decide⟩, rfl, hI, (fun b9 h9 => rfl)⟩

set_option maxHeartbeats 4000000 in
set_option maxRecDepth 100000 in
theorem r_fieldsOf (G : EnvG) (l : Launch) (Φ : Hm) (sz x : Nat) (rd : (Nat → Int32) → Prop) (nw : (Nat → Int32) → Prop) (cr : (Nat → Int64) → Prop) (tp : (Nat → Int32) → Prop) (tt : (Nat → Int64) → Prop) (sI : (Nat → Int32) → Prop) (sT : (Nat → Int32) → Prop) (pt : (Nat → Int32) → Prop) (ql : (Nat → Int32) → Prop) (fl : Nat) (pe : Nat) (le : Nat) (nx : Nat) (il : Nat) (qu : Nat) (kn : Int32) (ec : Int32) (nu : Int32) (va : Int64) (st : Nat) (ep : Int32) (ti : Int32) (ad : Int32) (ob : Int64) (ra : Int32) (rt : Nat) (ex : Int32) (sa : Int64) (us : Int64) (tk : Nat) (th : Int32) (me : Int32) (dr : Int32) (se : Int64) (sn : Int64) (t : Nat) (hx : G.2.2.2 ≤ x) (hI : Im G x (rd, nw, cr, tp, tt, sI, sT, pt, ql, fl, pe, le, nx, il, qu, kn, ec, nu, va, st, ep, ti, ad, ob, ra, rt, ex, sa, us, tk, th, me, dr, se, sn) Φ) (ht : t < 4) (hnw : ∀ f9 : Nat → Int32, nw f9 → NN f9) : Ct G l yX12_fieldsOf wsX12_fieldsOf ({ frames := 1, cells := 0, slots := 0, locals := 22 }) 0 0 [.ref x, .int (nI t)] Φ sz (fun v Φ1 sz1 => (∃ r9 : Int32, v = some (.int r9)) ∧ sz1 = sz ∧ (Im G x (rd, nw, cr, tp, tt, sI, sT, pt, ql, fl, pe, le, nx, il, qu, kn, ec, nu, va, st, ep, ti, ad, ob, ra, rt, ex, sa, us, tk, th, me, dr, se, sn) Φ1) ∧ Fr x (fun j9 => False) Φ Φ1) := by
  refine Ct.of (cc := cX12_fieldsOf) (maxL := 4) (ret := (some .int)) (by decide) rfl (Nat.le_of_ble_eq_true rfl) ?_
  intro p9 e9 s9 m9 w9 t9 k9 B
  show Z p9 l e9 _ s9 m9 _ w9 t9 k9 _ G 4 0 [(0, .ref x), (1, .int (nI t))] [] Φ sz 0 0
  refine z_iconst (v := 0) B dX12_fieldsOf_0 rfl ?_
  refine z_istore_n (lv' := [(2, .int 0), (0, .ref x), (1, .int (nI t))]) B dX12_fieldsOf_1 rfl (Nat.le_of_ble_eq_true rfl) rfl ?_
  refine z_iconst (v := 0) B dX12_fieldsOf_2 rfl ?_
  refine z_istore_n (lv' := [(3, .int 0), (2, .int 0), (0, .ref x), (1, .int (nI t))]) B dX12_fieldsOf_3 rfl (Nat.le_of_ble_eq_true rfl) rfl ?_
  refine z_lv [0, 1, 2, 3] rfl ?_
  refine z_loop (α := Nat × Int32) (fun (a9 : Nat × Int32) Φi => Im G x (rd, nw, cr, tp, tt, sI, sT, pt, ql, fl, pe, le, nx, il, qu, kn, ec, nu, va, st, ep, ti, ad, ob, ra, rt, ex, sa, us, tk, th, me, dr, se, sn) Φi ∧ Fr x (fun j9 => False) Φ Φi ∧ (a9.1 ≤ 9) ∧ True) (fun a9 => [(3, .int (nI (a9.1))), (2, .int a9.2), (0, .ref x), (1, .int (nI t))]) (fun a9 => 9 - a9.1) ?_ (0, 0) ⟨hI, fun _ _ => rfl, (show 0 ≤ 9 by omega), trivial⟩
  rintro ⟨i_1, i_2⟩ Φl1 ⟨hI1, hF1, b_1, -⟩ ih1
  replace hI1 : Im G x (rd, nw, cr, tp, tt, sI, sT, pt, ql, fl, pe, le, nx, il, qu, kn, ec, nu, va, st, ep, ti, ad, ob, ra, rt, ex, sa, us, tk, th, me, dr, se, sn) Φl1 := hI1
  replace b_1 : i_1 ≤ 9 := b_1
  show Z p9 l e9 _ s9 m9 _ w9 t9 k9 _ G 4 4 [(3, .int (nI i_1)), (2, .int i_2), (0, .ref x), (1, .int (nI t))] [] Φl1 _ _ _
  refine z_iload_n B dX12_fieldsOf_4 rfl 0 rfl ?_
  refine z_aload_n B dX12_fieldsOf_5 rfl 2 rfl ?_
  refine z_iload_n B dX12_fieldsOf_6 rfl 3 rfl ?_
  obtain ⟨n_1, v_1, n_2, h_1, b_14, b_2, b_3, b_4, b_5, b_6, b_7, b_8, b_9, b_10, b_11, b_12, b_13⟩ := im0 hI1
  replace b_2 : 1 ≤ rt := b_2
  replace b_3 : rt ≤ 1024 := b_3
  replace b_4 : fl ≤ 12 := b_4
  replace b_5 : pe ≤ 24 := b_5
  replace b_6 : le ≤ 700 := b_6
  replace b_7 : qu ≤ 12 := b_7
  replace b_8 : n_1 ≤ 8 := b_8
  replace b_9 : n_2 ≤ 24 := b_9
  replace b_10 : tk ≤ 24 := b_10
  replace b_11 : il ≤ 700 := b_11
  replace b_12 : nx ≤ 701 := b_12
  replace b_13 : st ≤ 701 := b_13
  have h_2 : Φl1 x = some (o_ 14 [.int th, .ref (x + 1), .ref (x + 2), .int ti, .int ra, .int (nI rt), .int ex, .int ad, .ref (x + 3), .ref (x + 4), .int me, .long se, .ref (x + 5), .int (nI fl), .int dr, .long ob, .long sa, .long sn, .long us, .ref (x + 6), .ref (x + 7), .int (nI pe), .ref (x + 8), .int (nI le), .ref (x + 9), .ref (x + 10), .int (nI qu), .ref (x + 11), .ref (x + 12), .ref (x + 13), .ref (x + 14), .ref (x + 15), .ref (x + 16), .int (nI n_1), .long v_1, .ref (x + 17), .ref (x + 18), .ref (x + 19), .ref (x + 20), .ref (x + 21), .ref (x + 22), .int (nI n_2), .ref (x + 23), .ref (x + 24), .int (nI tk), .ref (x + 25), .int (nI il), .int (nI nx), .int ec, .int ep, .int kn, .int (nI st), .int nu, .long va]) := h_1
  refine z_callV (As := [.int (nI t)]) (rest := [.int (nI i_1)]) B (r_sizeOf G l Φl1 sz x rd nw cr tp tt sI sT pt ql fl pe le nx il qu kn ec nu va st ep ti ad ob ra rt ex sa us tk th me dr se sn t hx hI1 (show t < 4 by omega) hnw) (cwV 1 B.1.2.2.2.2 gX12_fieldsOf_X12_sizeOf rfl rfl rfl (by decide +kernel) ⟨Nat.le_of_ble_eq_true rfl, Nat.le_of_ble_eq_true rfl⟩) h_2 rfl rfl rfl rfl (Nat.le_of_ble_eq_true rfl) dX12_fieldsOf_7 ⟨Nat.le_of_ble_eq_true rfl, Nat.le_of_ble_eq_true rfl⟩ (fun r_1 Φ1 sz1 st1 hp1 hs1 => ?_)
  obtain ⟨⟨n_3, rfl, b_15⟩, hq1, hI2, hF2⟩ := hp1
  subst sz1
  replace hs1 : st1 = [.int (nI n_3), .int (nI i_1)] := hs1
  subst st1
  replace b_15 : n_3 ≤ 9 := b_15
  replace hI2 : Im G x (rd, nw, cr, tp, tt, sI, sT, pt, ql, fl, pe, le, nx, il, qu, kn, ec, nu, va, st, ep, ti, ad, ob, ra, rt, ex, sa, us, tk, th, me, dr, se, sn) Φ1 := hI2
  refine z_icmp_ge (tgt := 30) B dX12_fieldsOf_10 rfl (fun c_1 => ?_) (fun c_1 => ?_)
  · have e_1 : n_3 ≤ i_1 := (nI_leI (a := n_3) (b := i_1) (by omega) (by omega)).mp c_1
    refine z_iload_n B dX12_fieldsOf_30 rfl 1 rfl ?_
    exact z_ret_i B dX12_fieldsOf_31 ⟨⟨_, rfl⟩, rfl, hI2, (fun b9 h9 => ((hF2 b9 (fun j9 h8 h7 => (show False from h7).elim)).trans ((hF1 b9 (fun j9 h8 h7 => (show False from h7).elim)).trans rfl)))⟩
  · have e_2 : ¬ (n_3 ≤ i_1) := fun h9 => c_1 ((nI_leI (a := n_3) (b := i_1) (by omega) (by omega)).mpr h9)
    refine z_iload_n B dX12_fieldsOf_13 rfl 1 rfl ?_
    refine z_iconst (v := 1) B dX12_fieldsOf_14 rfl ?_
    refine z_aload_n B dX12_fieldsOf_15 rfl 2 rfl ?_
    refine z_iload_n B dX12_fieldsOf_16 rfl 3 rfl ?_
    refine z_iload_n B dX12_fieldsOf_17 rfl 0 rfl ?_
    have h_3 : Φ1 x = some (o_ 14 [.int th, .ref (x + 1), .ref (x + 2), .int ti, .int ra, .int (nI rt), .int ex, .int ad, .ref (x + 3), .ref (x + 4), .int me, .long se, .ref (x + 5), .int (nI fl), .int dr, .long ob, .long sa, .long sn, .long us, .ref (x + 6), .ref (x + 7), .int (nI pe), .ref (x + 8), .int (nI le), .ref (x + 9), .ref (x + 10), .int (nI qu), .ref (x + 11), .ref (x + 12), .ref (x + 13), .ref (x + 14), .ref (x + 15), .ref (x + 16), .int (nI n_1), .long v_1, .ref (x + 17), .ref (x + 18), .ref (x + 19), .ref (x + 20), .ref (x + 21), .ref (x + 22), .int (nI n_2), .ref (x + 23), .ref (x + 24), .int (nI tk), .ref (x + 25), .int (nI il), .int (nI nx), .int ec, .int ep, .int kn, .int (nI st), .int nu, .long va]) := ((hF2 x (fun j9 h8 h7 => (show False from h7).elim)).trans h_2)
    refine z_callV (As := [.int (nI t), .int (nI i_1)]) (rest := [.int 1, .int i_2]) B (r_fieldOf G l Φ1 sz x rd nw cr tp tt sI sT pt ql fl pe le nx il qu kn ec nu va st ep ti ad ob ra rt ex sa us tk th me dr se sn t i_1 hx hI2 (show t < 4 by omega) (show i_1 < 9 by omega) hnw) (cwV 2 B.1.2.2.2.2 gX12_fieldsOf_X12_fieldOf rfl rfl rfl (by decide +kernel) ⟨Nat.le_of_ble_eq_true rfl, Nat.le_of_ble_eq_true rfl⟩) h_3 rfl rfl rfl rfl (Nat.le_of_ble_eq_true rfl) dX12_fieldsOf_18 ⟨Nat.le_of_ble_eq_true rfl, Nat.le_of_ble_eq_true rfl⟩ (fun r_2 Φ2 sz2 st2 hp2 hs2 => ?_)
    obtain ⟨⟨n_4, rfl, b_16⟩, hq2, hI3, hF3⟩ := hp2
    subst sz2
    replace hs2 : st2 = [.int (nI n_4), .int 1, .int i_2] := hs2
    subst st2
    replace b_16 : n_4 ≤ 8 := b_16
    replace hI3 : Im G x (rd, nw, cr, tp, tt, sI, sT, pt, ql, fl, pe, le, nx, il, qu, kn, ec, nu, va, st, ep, ti, ad, ob, ra, rt, ex, sa, us, tk, th, me, dr, se, sn) Φ2 := hI3
    refine z_ishl B dX12_fieldsOf_21 ?_
    refine z_fi (fun v_2 => ?_)
    refine z_ior B dX12_fieldsOf_22 ?_
    refine z_fi (fun v_3 => ?_)
    refine z_istore_n (lv' := [(2, .int v_3), (3, .int (nI i_1)), (0, .ref x), (1, .int (nI t))]) B dX12_fieldsOf_23 rfl (Nat.le_of_ble_eq_true rfl) rfl ?_
    refine z_iinc (k := 1) (v := nI (i_1 + 1)) (lv' := [(3, .int (nI (i_1 + 1))), (2, .int v_3), (0, .ref x), (1, .int (nI t))]) B dX12_fieldsOf_24 rfl (nI_add i_1 1) (Nat.le_of_ble_eq_true rfl) rfl ?_
    refine z_goto (tgt := 4) B dX12_fieldsOf_27 rfl ?_
    refine z_lv [0, 1, 2, 3] rfl ?_
    exact ih1 (i_1 + 1, v_3) Φ2 (show 9 - (i_1 + 1) < 9 - i_1 by omega) ⟨hI3, (fun b9 h9 => ((hF3 b9 (fun j9 h8 h7 => (show False from h7).elim)).trans ((hF2 b9 (fun j9 h8 h7 => (show False from h7).elim)).trans ((hF1 b9 (fun j9 h8 h7 => (show False from h7).elim)).trans rfl)))), (show (i_1 + 1) ≤ 9 by omega), trivial⟩

theorem hu_X12_effective_X12 : ∀ w ∈ u_ws RX12 TX12 54, w ∈ wsX12_effective := fun _ h => List.mem_cons_of_mem _ (List.mem_append_left _ (List.mem_append_right _ (h)))

theorem hv_X12_effective_17 : Cond.fieldLink RX12 17 "FlowExporterModel" (TX12 2).2.1 (TX12 2).2.2.1 ∈ wsX12_effective := List.mem_cons_of_mem _ (List.mem_append_left _ (List.mem_append_left _ (List.mem_of_getElem? (i := 0) rfl)))

set_option maxHeartbeats 4000000 in
set_option maxRecDepth 100000 in
theorem r_effective (G : EnvG) (l : Launch) (Φ : Hm) (sz x : Nat) (rd : (Nat → Int32) → Prop) (nw : (Nat → Int32) → Prop) (cr : (Nat → Int64) → Prop) (tp : (Nat → Int32) → Prop) (tt : (Nat → Int64) → Prop) (sI : (Nat → Int32) → Prop) (sT : (Nat → Int32) → Prop) (pt : (Nat → Int32) → Prop) (ql : (Nat → Int32) → Prop) (fl : Nat) (pe : Nat) (le : Nat) (nx : Nat) (il : Nat) (qu : Nat) (kn : Int32) (ec : Int32) (nu : Int32) (va : Int64) (st : Nat) (ep : Int32) (ti : Int32) (ad : Int32) (ob : Int64) (ra : Int32) (rt : Nat) (ex : Int32) (sa : Int64) (us : Int64) (tk : Nat) (th : Int32) (me : Int32) (dr : Int32) (se : Int64) (sn : Int64) (t : Nat) (hx : G.2.2.2 ≤ x) (hI : Im G x (rd, nw, cr, tp, tt, sI, sT, pt, ql, fl, pe, le, nx, il, qu, kn, ec, nu, va, st, ep, ti, ad, ob, ra, rt, ex, sa, us, tk, th, me, dr, se, sn) Φ) (ht : t < 4) (hnw : ∀ f9 : Nat → Int32, nw f9 → NN f9) : Ct G l yX12_effective wsX12_effective ({ frames := 2, cells := 0, slots := 0, locals := 45 }) 0 0 [.ref x, .int (nI t)] Φ sz (fun v Φ1 sz1 => (∃ r9 : Int32, v = some (.int r9)) ∧ sz1 = sz ∧ (Im G x (rd, nw, cr, tp, tt, sI, sT, pt, ql, fl, pe, le, nx, il, qu, kn, ec, nu, va, st, ep, ti, ad, ob, ra, rt, ex, sa, us, tk, th, me, dr, se, sn) Φ1) ∧ Fr x (fun j9 => False) Φ Φ1) := by
  refine Ct.of (cc := cX12_effective) (maxL := 2) (ret := (some .int)) (by decide) rfl (Nat.le_of_ble_eq_true rfl) ?_
  intro p9 e9 s9 m9 w9 t9 k9 B
  show Z p9 l e9 _ s9 m9 _ w9 t9 k9 _ G 2 0 [(0, .ref x), (1, .int (nI t))] [] Φ sz 0 0
  refine z_aload_n B dX12_effective_0 rfl 0 rfl ?_
  refine z_iload_n B dX12_effective_1 rfl 1 rfl ?_
  obtain ⟨n_1, v_1, n_2, h_1, b_13, b_1, b_2, b_3, b_4, b_5, b_6, b_7, b_8, b_9, b_10, b_11, b_12⟩ := im0 hI
  replace b_1 : 1 ≤ rt := b_1
  replace b_2 : rt ≤ 1024 := b_2
  replace b_3 : fl ≤ 12 := b_3
  replace b_4 : pe ≤ 24 := b_4
  replace b_5 : le ≤ 700 := b_5
  replace b_6 : qu ≤ 12 := b_6
  replace b_7 : n_1 ≤ 8 := b_7
  replace b_8 : n_2 ≤ 24 := b_8
  replace b_9 : tk ≤ 24 := b_9
  replace b_10 : il ≤ 700 := b_10
  replace b_11 : nx ≤ 701 := b_11
  replace b_12 : st ≤ 701 := b_12
  have h_2 : Φ x = some (o_ 14 [.int th, .ref (x + 1), .ref (x + 2), .int ti, .int ra, .int (nI rt), .int ex, .int ad, .ref (x + 3), .ref (x + 4), .int me, .long se, .ref (x + 5), .int (nI fl), .int dr, .long ob, .long sa, .long sn, .long us, .ref (x + 6), .ref (x + 7), .int (nI pe), .ref (x + 8), .int (nI le), .ref (x + 9), .ref (x + 10), .int (nI qu), .ref (x + 11), .ref (x + 12), .ref (x + 13), .ref (x + 14), .ref (x + 15), .ref (x + 16), .int (nI n_1), .long v_1, .ref (x + 17), .ref (x + 18), .ref (x + 19), .ref (x + 20), .ref (x + 21), .ref (x + 22), .int (nI n_2), .ref (x + 23), .ref (x + 24), .int (nI tk), .ref (x + 25), .int (nI il), .int (nI nx), .int ec, .int ep, .int kn, .int (nI st), .int nu, .long va]) := h_1
  refine z_callV (As := [.int (nI t)]) (rest := []) B (r_fieldsOf G l Φ sz x rd nw cr tp tt sI sT pt ql fl pe le nx il qu kn ec nu va st ep ti ad ob ra rt ex sa us tk th me dr se sn t hx hI (show t < 4 by omega) hnw) (cwV 1 B.1.2.2.2.2 gX12_effective_X12_fieldsOf rfl rfl rfl (by decide +kernel) ⟨Nat.le_of_ble_eq_true rfl, Nat.le_of_ble_eq_true rfl⟩) h_2 rfl rfl rfl rfl (Nat.le_of_ble_eq_true rfl) dX12_effective_2 ⟨Nat.le_of_ble_eq_true rfl, Nat.le_of_ble_eq_true rfl⟩ (fun r_1 Φ1 sz1 st1 hp1 hs1 => ?_)
  obtain ⟨⟨v_2, rfl⟩, hq1, hI1, hF1⟩ := hp1
  subst sz1
  replace hs1 : st1 = [.int v_2] := hs1
  subst st1
  replace hI1 : Im G x (rd, nw, cr, tp, tt, sI, sT, pt, ql, fl, pe, le, nx, il, qu, kn, ec, nu, va, st, ep, ti, ad, ob, ra, rt, ex, sa, us, tk, th, me, dr, se, sn) Φ1 := hI1
  refine z_aload_n B dX12_effective_5 rfl 0 rfl ?_
  have h_3 : Φ1 x = some (o_ 14 [.int th, .ref (x + 1), .ref (x + 2), .int ti, .int ra, .int (nI rt), .int ex, .int ad, .ref (x + 3), .ref (x + 4), .int me, .long se, .ref (x + 5), .int (nI fl), .int dr, .long ob, .long sa, .long sn, .long us, .ref (x + 6), .ref (x + 7), .int (nI pe), .ref (x + 8), .int (nI le), .ref (x + 9), .ref (x + 10), .int (nI qu), .ref (x + 11), .ref (x + 12), .ref (x + 13), .ref (x + 14), .ref (x + 15), .ref (x + 16), .int (nI n_1), .long v_1, .ref (x + 17), .ref (x + 18), .ref (x + 19), .ref (x + 20), .ref (x + 21), .ref (x + 22), .int (nI n_2), .ref (x + 23), .ref (x + 24), .int (nI tk), .ref (x + 25), .int (nI il), .int (nI nx), .int ec, .int ep, .int kn, .int (nI st), .int nu, .long va]) := ((hF1 x (fun j9 h8 h7 => (show False from h7).elim)).trans h_2)
  refine z_get (ref := "FlowExporterModel") (C := RX12) (T := TX12) (N := 54) (ci := 14) (v := .ref (x + 2)) B hu_X12_effective_X12 rfl 2 (Nat.le_of_ble_eq_true rfl) hv_X12_effective_17 rfl h_3 rfl dX12_effective_6 ?_
  refine z_bipush (v := 9) B dX12_effective_9 rfl ?_
  obtain ⟨f_1, h_4, r_2⟩ := imk (k := 2) hI1
  replace r_2 : nw f_1 := r_2
  have r_3 : NN f_1 := hnw f_1 r_2
  have h_5 : Φ1 (x + 2) = some (ai_ G 307 f_1) := h_4
  refine z_iald B h_5 (vin rfl) dX12_effective_11 ?_
  refine z_fi (fun v_3 => ?_)
  refine z_iand B dX12_effective_12 ?_
  refine z_fi (fun v_4 => ?_)
  exact z_ret_i B dX12_effective_13 ⟨⟨_, rfl⟩, rfl, hI1, (fun b9 h9 => ((hF1 b9 (fun j9 h8 h7 => (show False from h7).elim)).trans rfl))⟩

set_option maxHeartbeats 4000000 in
set_option maxRecDepth 100000 in
theorem r_lengthOf (G : EnvG) (l : Launch) (Φ : Hm) (sz x : Nat) (rd : (Nat → Int32) → Prop) (nw : (Nat → Int32) → Prop) (cr : (Nat → Int64) → Prop) (tp : (Nat → Int32) → Prop) (tt : (Nat → Int64) → Prop) (sI : (Nat → Int32) → Prop) (sT : (Nat → Int32) → Prop) (pt : (Nat → Int32) → Prop) (ql : (Nat → Int32) → Prop) (fl : Nat) (pe : Nat) (le : Nat) (nx : Nat) (il : Nat) (qu : Nat) (kn : Int32) (ec : Int32) (nu : Int32) (va : Int64) (st : Nat) (ep : Int32) (ti : Int32) (ad : Int32) (ob : Int64) (ra : Int32) (rt : Nat) (ex : Int32) (sa : Int64) (us : Int64) (tk : Nat) (th : Int32) (me : Int32) (dr : Int32) (se : Int64) (sn : Int64) (a : Nat) (hx : G.2.2.2 ≤ x) (hI : Im G x (rd, nw, cr, tp, tt, sI, sT, pt, ql, fl, pe, le, nx, il, qu, kn, ec, nu, va, st, ep, ti, ad, ob, ra, rt, ex, sa, us, tk, th, me, dr, se, sn) Φ) (ha : a < 2 ^ 31) (hnw : ∀ f9 : Nat → Int32, nw f9 → NN f9) : Ct G l yX12_lengthOf wsX12_lengthOf ({ frames := 0, cells := 0, slots := 0, locals := 0 }) 0 0 [.int (nI a)] Φ sz (fun v Φ1 sz1 => (v = some (.int (nI (lnN a)))) ∧ sz1 = sz ∧ (Im G x (rd, nw, cr, tp, tt, sI, sT, pt, ql, fl, pe, le, nx, il, qu, kn, ec, nu, va, st, ep, ti, ad, ob, ra, rt, ex, sa, us, tk, th, me, dr, se, sn) Φ1) ∧ Fr x (fun j9 => False) Φ Φ1) := by
  refine Ct.of (cc := cX12_lengthOf) (maxL := 1) (ret := (some .int)) (by decide) rfl (Nat.le_of_ble_eq_true rfl) ?_
  intro p9 e9 s9 m9 w9 t9 k9 B
  show Z p9 l e9 _ s9 m9 _ w9 t9 k9 _ G 1 0 [(0, .int (nI a))] [] Φ sz 0 0
  refine z_iload_n B dX12_lengthOf_0 rfl 0 rfl ?_
  by_cases e_1 : a = 0
  · subst e_1
    refine z_tableIn (off := 39) (tgt := 40) B dX12_lengthOf_1 (by decide) (by decide) (by decide) rfl ?_
    refine z_iconst (v := 1) B dX12_lengthOf_40 rfl ?_
    exact z_ret_i B dX12_lengthOf_41 ⟨rfl, rfl, hI, (fun b9 h9 => rfl)⟩
  by_cases e_2 : a = 1
  · subst e_2
    refine z_tableIn (off := 39) (tgt := 40) B dX12_lengthOf_1 (by decide) (by decide) (by decide) rfl ?_
    refine z_iconst (v := 1) B dX12_lengthOf_40 rfl ?_
    exact z_ret_i B dX12_lengthOf_41 ⟨rfl, rfl, hI, (fun b9 h9 => rfl)⟩
  by_cases e_3 : a = 2
  · subst e_3
    refine z_tableIn (off := 41) (tgt := 42) B dX12_lengthOf_1 (by decide) (by decide) (by decide) rfl ?_
    refine z_iconst (v := 2) B dX12_lengthOf_42 rfl ?_
    exact z_ret_i B dX12_lengthOf_43 ⟨rfl, rfl, hI, (fun b9 h9 => rfl)⟩
  by_cases e_4 : a = 3
  · subst e_4
    refine z_tableIn (off := 39) (tgt := 40) B dX12_lengthOf_1 (by decide) (by decide) (by decide) rfl ?_
    refine z_iconst (v := 1) B dX12_lengthOf_40 rfl ?_
    exact z_ret_i B dX12_lengthOf_41 ⟨rfl, rfl, hI, (fun b9 h9 => rfl)⟩
  by_cases e_5 : a = 4
  · subst e_5
    refine z_tableIn (off := 46) (tgt := 47) B dX12_lengthOf_1 (by decide) (by decide) (by decide) rfl ?_
    refine z_iconst (v := 4) B dX12_lengthOf_47 rfl ?_
    exact z_ret_i B dX12_lengthOf_48 ⟨rfl, rfl, hI, (fun b9 h9 => rfl)⟩
  by_cases e_6 : a = 5
  · subst e_6
    refine z_tableIn (off := 43) (tgt := 44) B dX12_lengthOf_1 (by decide) (by decide) (by decide) rfl ?_
    refine z_bipush (v := 8) B dX12_lengthOf_44 rfl ?_
    exact z_ret_i B dX12_lengthOf_46 ⟨rfl, rfl, hI, (fun b9 h9 => rfl)⟩
  have e_7 : (nI a).toInt ≠ 0 := fun q9 => e_1 (by rw [nI_toInt (by omega)] at q9; omega)
  have e_8 : (nI a).toInt ≠ 1 := fun q9 => e_2 (by rw [nI_toInt (by omega)] at q9; omega)
  have e_9 : (nI a).toInt ≠ 2 := fun q9 => e_3 (by rw [nI_toInt (by omega)] at q9; omega)
  have e_10 : (nI a).toInt ≠ 3 := fun q9 => e_4 (by rw [nI_toInt (by omega)] at q9; omega)
  have e_11 : (nI a).toInt ≠ 4 := fun q9 => e_5 (by rw [nI_toInt (by omega)] at q9; omega)
  have e_12 : (nI a).toInt ≠ 5 := fun q9 => e_6 (by rw [nI_toInt (by omega)] at q9; omega)
  refine z_tableOut (tgt := 47) B dX12_lengthOf_1 (by omega) rfl ?_
  refine z_iconst (v := 4) B dX12_lengthOf_47 rfl ?_
  exact z_ret_i B dX12_lengthOf_48 ⟨(congrArg (fun n9 => some (Value.int (nI n9))) (lnN_d e_1 e_2 e_3 e_4 e_6)).symm, rfl, hI, (fun b9 h9 => rfl)⟩

set_option maxHeartbeats 4000000 in
set_option maxRecDepth 100000 in
theorem r_recordLengthOf (G : EnvG) (l : Launch) (Φ : Hm) (sz x : Nat) (rd : (Nat → Int32) → Prop) (nw : (Nat → Int32) → Prop) (cr : (Nat → Int64) → Prop) (tp : (Nat → Int32) → Prop) (tt : (Nat → Int64) → Prop) (sI : (Nat → Int32) → Prop) (sT : (Nat → Int32) → Prop) (pt : (Nat → Int32) → Prop) (ql : (Nat → Int32) → Prop) (fl : Nat) (pe : Nat) (le : Nat) (nx : Nat) (il : Nat) (qu : Nat) (kn : Int32) (ec : Int32) (nu : Int32) (va : Int64) (st : Nat) (ep : Int32) (ti : Int32) (ad : Int32) (ob : Int64) (ra : Int32) (rt : Nat) (ex : Int32) (sa : Int64) (us : Int64) (tk : Nat) (th : Int32) (me : Int32) (dr : Int32) (se : Int64) (sn : Int64) (t : Nat) (hx : G.2.2.2 ≤ x) (hI : Im G x (rd, nw, cr, tp, tt, sI, sT, pt, ql, fl, pe, le, nx, il, qu, kn, ec, nu, va, st, ep, ti, ad, ob, ra, rt, ex, sa, us, tk, th, me, dr, se, sn) Φ) (ht : t < 4) (hnw : ∀ f9 : Nat → Int32, nw f9 → NN f9) : Ct G l yX12_recordLengthOf wsX12_recordLengthOf ({ frames := 3, cells := 0, slots := 0, locals := 66 }) 0 0 [.ref x, .int (nI t)] Φ sz (fun v Φ1 sz1 => (∃ n9 : Nat, v = some (.int (nI n9)) ∧ n9 ≤ 29) ∧ sz1 = sz ∧ (Im G x (rd, nw, cr, tp, tt, sI, sT, pt, ql, fl, pe, le, nx, il, qu, kn, ec, nu, va, st, ep, ti, ad, ob, ra, rt, ex, sa, us, tk, th, me, dr, se, sn) Φ1) ∧ Fr x (fun j9 => False) Φ Φ1) := by
  refine Ct.of (cc := cX12_recordLengthOf) (maxL := 4) (ret := (some .int)) (by decide) rfl (Nat.le_of_ble_eq_true rfl) ?_
  intro p9 e9 s9 m9 w9 t9 k9 B
  show Z p9 l e9 _ s9 m9 _ w9 t9 k9 _ G 4 0 [(0, .ref x), (1, .int (nI t))] [] Φ sz 0 0
  refine z_iconst (v := 0) B dX12_recordLengthOf_0 rfl ?_
  refine z_istore_n (lv' := [(2, .int 0), (0, .ref x), (1, .int (nI t))]) B dX12_recordLengthOf_1 rfl (Nat.le_of_ble_eq_true rfl) rfl ?_
  refine z_iconst (v := 0) B dX12_recordLengthOf_2 rfl ?_
  refine z_istore_n (lv' := [(3, .int 0), (2, .int 0), (0, .ref x), (1, .int (nI t))]) B dX12_recordLengthOf_3 rfl (Nat.le_of_ble_eq_true rfl) rfl ?_
  refine z_lv [0, 1, 2, 3] rfl ?_
  refine z_loop (α := Nat × Nat) (fun (a9 : Nat × Nat) Φi => Im G x (rd, nw, cr, tp, tt, sI, sT, pt, ql, fl, pe, le, nx, il, qu, kn, ec, nu, va, st, ep, ti, ad, ob, ra, rt, ex, sa, us, tk, th, me, dr, se, sn) Φi ∧ Fr x (fun j9 => False) Φ Φi ∧ (a9.1 ≤ 9) ∧ (a9.2 ≤ lpx a9.1) ∧ True) (fun a9 => [(3, .int (nI (a9.1))), (2, .int (nI (a9.2))), (0, .ref x), (1, .int (nI t))]) (fun a9 => 9 - a9.1) ?_ (0, 0) ⟨hI, fun _ _ => rfl, (show 0 ≤ 9 by omega), (Nat.zero_le _), trivial⟩
  rintro ⟨i_1, i_2⟩ Φl1 ⟨hI1, hF1, b_1, b_2, -⟩ ih1
  replace hI1 : Im G x (rd, nw, cr, tp, tt, sI, sT, pt, ql, fl, pe, le, nx, il, qu, kn, ec, nu, va, st, ep, ti, ad, ob, ra, rt, ex, sa, us, tk, th, me, dr, se, sn) Φl1 := hI1
  replace b_1 : i_1 ≤ 9 := b_1
  replace b_2 : i_2 ≤ lpx i_1 := b_2
  show Z p9 l e9 _ s9 m9 _ w9 t9 k9 _ G 4 4 [(3, .int (nI i_1)), (2, .int (nI i_2)), (0, .ref x), (1, .int (nI t))] [] Φl1 _ _ _
  refine z_iload_n B dX12_recordLengthOf_4 rfl 0 rfl ?_
  have b_3 := lpx_le (k := i_1) (by omega)
  refine z_bipush (v := 9) B dX12_recordLengthOf_5 rfl ?_
  refine z_icmp_ge (tgt := 36) B dX12_recordLengthOf_7 rfl (fun c_1 => ?_) (fun c_1 => ?_)
  · have e_1 : 9 ≤ i_1 := (nI_leI (a := 9) (b := i_1) (by omega) (by omega)).mp c_1
    refine z_iload_n B dX12_recordLengthOf_36 rfl 1 rfl ?_
    exact z_ret_i B dX12_recordLengthOf_37 ⟨⟨i_2, rfl, (show i_2 ≤ 29 by omega)⟩, rfl, hI1, (fun b9 h9 => ((hF1 b9 (fun j9 h8 h7 => (show False from h7).elim)).trans rfl))⟩
  · have e_2 : ¬ (9 ≤ i_1) := fun h9 => c_1 ((nI_leI (a := 9) (b := i_1) (by omega) (by omega)).mpr h9)
    refine z_aload_n B dX12_recordLengthOf_10 rfl 2 rfl ?_
    refine z_iload_n B dX12_recordLengthOf_11 rfl 3 rfl ?_
    obtain ⟨n_1, v_1, n_2, h_1, b_16, b_4, b_5, b_6, b_7, b_8, b_9, b_10, b_11, b_12, b_13, b_14, b_15⟩ := im0 hI1
    replace b_4 : 1 ≤ rt := b_4
    replace b_5 : rt ≤ 1024 := b_5
    replace b_6 : fl ≤ 12 := b_6
    replace b_7 : pe ≤ 24 := b_7
    replace b_8 : le ≤ 700 := b_8
    replace b_9 : qu ≤ 12 := b_9
    replace b_10 : n_1 ≤ 8 := b_10
    replace b_11 : n_2 ≤ 24 := b_11
    replace b_12 : tk ≤ 24 := b_12
    replace b_13 : il ≤ 700 := b_13
    replace b_14 : nx ≤ 701 := b_14
    replace b_15 : st ≤ 701 := b_15
    have h_2 : Φl1 x = some (o_ 14 [.int th, .ref (x + 1), .ref (x + 2), .int ti, .int ra, .int (nI rt), .int ex, .int ad, .ref (x + 3), .ref (x + 4), .int me, .long se, .ref (x + 5), .int (nI fl), .int dr, .long ob, .long sa, .long sn, .long us, .ref (x + 6), .ref (x + 7), .int (nI pe), .ref (x + 8), .int (nI le), .ref (x + 9), .ref (x + 10), .int (nI qu), .ref (x + 11), .ref (x + 12), .ref (x + 13), .ref (x + 14), .ref (x + 15), .ref (x + 16), .int (nI n_1), .long v_1, .ref (x + 17), .ref (x + 18), .ref (x + 19), .ref (x + 20), .ref (x + 21), .ref (x + 22), .int (nI n_2), .ref (x + 23), .ref (x + 24), .int (nI tk), .ref (x + 25), .int (nI il), .int (nI nx), .int ec, .int ep, .int kn, .int (nI st), .int nu, .long va]) := h_1
    refine z_callV (As := [.int (nI t)]) (rest := []) B (r_effective G l Φl1 sz x rd nw cr tp tt sI sT pt ql fl pe le nx il qu kn ec nu va st ep ti ad ob ra rt ex sa us tk th me dr se sn t hx hI1 (show t < 4 by omega) hnw) (cwV 1 B.1.2.2.2.2 gX12_recordLengthOf_X12_effective rfl rfl rfl (by decide +kernel) ⟨Nat.le_of_ble_eq_true rfl, Nat.le_of_ble_eq_true rfl⟩) h_2 rfl rfl rfl rfl (Nat.le_of_ble_eq_true rfl) dX12_recordLengthOf_12 ⟨Nat.le_of_ble_eq_true rfl, Nat.le_of_ble_eq_true rfl⟩ (fun r_1 Φ1 sz1 st1 hp1 hs1 => ?_)
    obtain ⟨⟨v_2, rfl⟩, hq1, hI2, hF2⟩ := hp1
    subst sz1
    replace hs1 : st1 = [.int v_2] := hs1
    subst st1
    replace hI2 : Im G x (rd, nw, cr, tp, tt, sI, sT, pt, ql, fl, pe, le, nx, il, qu, kn, ec, nu, va, st, ep, ti, ad, ob, ra, rt, ex, sa, us, tk, th, me, dr, se, sn) Φ1 := hI2
    refine z_iload_n B dX12_recordLengthOf_15 rfl 0 rfl ?_
    refine z_ishr B dX12_recordLengthOf_16 ?_
    refine z_fi (fun v_3 => ?_)
    refine z_iconst (v := 1) B dX12_recordLengthOf_17 rfl ?_
    refine z_iand B dX12_recordLengthOf_18 ?_
    refine z_fi (fun v_4 => ?_)
    refine z_iconst (v := 1) B dX12_recordLengthOf_19 rfl ?_
    refine z_icmp_ne (tgt := 30) B dX12_recordLengthOf_20 rfl (fun c_2 => ?_) (fun c_2 => ?_)
    · refine z_iinc (k := 0) (v := nI (i_1 + 1)) (lv' := [(3, .int (nI (i_1 + 1))), (2, .int (nI i_2)), (0, .ref x), (1, .int (nI t))]) B dX12_recordLengthOf_30 rfl (nI_add i_1 1) (Nat.le_of_ble_eq_true rfl) rfl ?_
      refine z_goto (tgt := 4) B dX12_recordLengthOf_33 rfl ?_
      refine z_lv [0, 1, 2, 3] rfl ?_
      exact ih1 (i_1 + 1, i_2) Φ1 (show 9 - (i_1 + 1) < 9 - i_1 by omega) ⟨hI2, (fun b9 h9 => ((hF2 b9 (fun j9 h8 h7 => (show False from h7).elim)).trans ((hF1 b9 (fun j9 h8 h7 => (show False from h7).elim)).trans rfl))), (show (i_1 + 1) ≤ 9 by omega), (lpx_k b_2), trivial⟩
    · refine z_iload_n B dX12_recordLengthOf_23 rfl 1 rfl ?_
      refine z_iload_n B dX12_recordLengthOf_24 rfl 0 rfl ?_
      refine z_callS (As := [.int (nI i_1)]) (rest := [.int (nI i_2)]) B (r_lengthOf G l Φ1 sz x rd nw cr tp tt sI sT pt ql fl pe le nx il qu kn ec nu va st ep ti ad ob ra rt ex sa us tk th me dr se sn i_1 hx hI2 (show i_1 < 2 ^ 31 by omega) hnw) (va_cwS 1 B.1.2.2.2.2 gX12_recordLengthOf_X12_lengthOf rfl rfl rfl (by decide +kernel) ⟨Nat.le_of_ble_eq_true rfl, Nat.le_of_ble_eq_true rfl⟩) rfl rfl (Nat.le_of_ble_eq_true rfl) dX12_recordLengthOf_25 ⟨Nat.le_of_ble_eq_true rfl, Nat.le_of_ble_eq_true rfl⟩ (fun r_2 Φ2 sz2 st2 hp2 hs2 => ?_)
      obtain ⟨rfl, hq2, hI3, hF3⟩ := hp2
      subst sz2
      replace hs2 : st2 = [.int (nI (lnN i_1)), .int (nI i_2)] := hs2
      subst st2
      have b_17 := lnN_pos i_1
      have b_18 := lnN_le i_1
      replace hI3 : Im G x (rd, nw, cr, tp, tt, sI, sT, pt, ql, fl, pe, le, nx, il, qu, kn, ec, nu, va, st, ep, ti, ad, ob, ra, rt, ex, sa, us, tk, th, me, dr, se, sn) Φ2 := hI3
      refine z_iadd B dX12_recordLengthOf_28 ?_
      refine z_top (st1 := [.int (nI (i_2 + lnN i_1))]) (congrArg (fun w9 : Int32 => ([.int w9] : List Value)) (nI_add i_2 (lnN i_1))) ?_
      refine z_istore_n (lv' := [(2, .int (nI (i_2 + lnN i_1))), (3, .int (nI i_1)), (0, .ref x), (1, .int (nI t))]) B dX12_recordLengthOf_29 rfl (Nat.le_of_ble_eq_true rfl) rfl ?_
      refine z_iinc (k := 1) (v := nI (i_1 + 1)) (lv' := [(3, .int (nI (i_1 + 1))), (2, .int (nI (i_2 + lnN i_1))), (0, .ref x), (1, .int (nI t))]) B dX12_recordLengthOf_30 rfl (nI_add i_1 1) (Nat.le_of_ble_eq_true rfl) rfl ?_
      refine z_goto (tgt := 4) B dX12_recordLengthOf_33 rfl ?_
      refine z_lv [0, 1, 2, 3] rfl ?_
      exact ih1 (i_1 + 1, i_2 + lnN i_1) Φ2 (show 9 - (i_1 + 1) < 9 - i_1 by omega) ⟨hI3, (fun b9 h9 => ((hF3 b9 (fun j9 h8 h7 => (show False from h7).elim)).trans ((hF2 b9 (fun j9 h8 h7 => (show False from h7).elim)).trans ((hF1 b9 (fun j9 h8 h7 => (show False from h7).elim)).trans rfl)))), (show (i_1 + 1) ≤ 9 by omega), (lpx_s b_2), trivial⟩

theorem hu_X12_templateFields_X12 : ∀ w ∈ u_ws RX12 TX12 54, w ∈ wsX12_templateFields := fun _ h => List.mem_cons_of_mem _ (List.mem_append_left _ (List.mem_append_right _ (h)))

theorem hv_X12_templateFields_1 : Cond.fieldLink RX12 1 "FlowExporterModel" (TX12 0).2.1 (TX12 0).2.2.1 ∈ wsX12_templateFields := List.mem_cons_of_mem _ (List.mem_append_left _ (List.mem_append_left _ (List.mem_append_left _ (List.mem_of_getElem? (i := 0) rfl))))

set_option maxHeartbeats 4000000 in
set_option maxRecDepth 100000 in
theorem r_templateFields (G : EnvG) (l : Launch) (Φ : Hm) (sz x : Nat) (rd : (Nat → Int32) → Prop) (nw : (Nat → Int32) → Prop) (cr : (Nat → Int64) → Prop) (tp : (Nat → Int32) → Prop) (tt : (Nat → Int64) → Prop) (sI : (Nat → Int32) → Prop) (sT : (Nat → Int32) → Prop) (pt : (Nat → Int32) → Prop) (ql : (Nat → Int32) → Prop) (fl : Nat) (pe : Nat) (le : Nat) (nx : Nat) (il : Nat) (qu : Nat) (kn : Int32) (ec : Int32) (nu : Int32) (va : Int64) (st : Nat) (ep : Int32) (ti : Int32) (ad : Int32) (ob : Int64) (ra : Int32) (rt : Nat) (ex : Int32) (sa : Int64) (us : Int64) (tk : Nat) (th : Int32) (me : Int32) (dr : Int32) (se : Int64) (sn : Int64) (a : Int32) (hx : G.2.2.2 ≤ x) (hI : Im G x (rd, nw, cr, tp, tt, sI, sT, pt, ql, fl, pe, le, nx, il, qu, kn, ec, nu, va, st, ep, ti, ad, ob, ra, rt, ex, sa, us, tk, th, me, dr, se, sn) Φ) (hnw : ∀ f9 : Nat → Int32, nw f9 → NN f9) : Ct G l yX12_templateFields wsX12_templateFields ({ frames := 2, cells := 0, slots := 0, locals := 46 }) 0 0 [.ref x, .int a] Φ sz (fun v Φ1 sz1 => (∃ r9 : Int32, v = some (.int r9)) ∧ sz1 = sz ∧ (∃ (th1 : Int32), Im G x (rd, nw, cr, tp, tt, sI, sT, pt, ql, fl, pe, le, nx, il, qu, kn, ec, nu, va, st, ep, ti, ad, ob, ra, rt, ex, sa, us, tk, th1, me, dr, se, sn) Φ1) ∧ Fr x (fun j9 => j9 = 0) Φ Φ1) := by
  refine Ct.of (cc := cX12_templateFields) (maxL := 2) (ret := (some .int)) (by decide) rfl (Nat.le_of_ble_eq_true rfl) ?_
  intro p9 e9 s9 m9 w9 t9 k9 B
  show Z p9 l e9 _ s9 m9 _ w9 t9 k9 _ G 2 0 [(0, .ref x), (1, .int a)] [] Φ sz 0 0
  refine z_aload_n B dX12_templateFields_0 rfl 0 rfl ?_
  refine z_iconst (v := 0) B dX12_templateFields_1 rfl ?_
  obtain ⟨n_1, v_1, n_2, h_1, b_13, b_1, b_2, b_3, b_4, b_5, b_6, b_7, b_8, b_9, b_10, b_11, b_12⟩ := im0 hI
  replace b_1 : 1 ≤ rt := b_1
  replace b_2 : rt ≤ 1024 := b_2
  replace b_3 : fl ≤ 12 := b_3
  replace b_4 : pe ≤ 24 := b_4
  replace b_5 : le ≤ 700 := b_5
  replace b_6 : qu ≤ 12 := b_6
  replace b_7 : n_1 ≤ 8 := b_7
  replace b_8 : n_2 ≤ 24 := b_8
  replace b_9 : tk ≤ 24 := b_9
  replace b_10 : il ≤ 700 := b_10
  replace b_11 : nx ≤ 701 := b_11
  replace b_12 : st ≤ 701 := b_12
  have h_2 : Φ x = some (o_ 14 [.int th, .ref (x + 1), .ref (x + 2), .int ti, .int ra, .int (nI rt), .int ex, .int ad, .ref (x + 3), .ref (x + 4), .int me, .long se, .ref (x + 5), .int (nI fl), .int dr, .long ob, .long sa, .long sn, .long us, .ref (x + 6), .ref (x + 7), .int (nI pe), .ref (x + 8), .int (nI le), .ref (x + 9), .ref (x + 10), .int (nI qu), .ref (x + 11), .ref (x + 12), .ref (x + 13), .ref (x + 14), .ref (x + 15), .ref (x + 16), .int (nI n_1), .long v_1, .ref (x + 17), .ref (x + 18), .ref (x + 19), .ref (x + 20), .ref (x + 21), .ref (x + 22), .int (nI n_2), .ref (x + 23), .ref (x + 24), .int (nI tk), .ref (x + 25), .int (nI il), .int (nI nx), .int ec, .int ep, .int kn, .int (nI st), .int nu, .long va]) := h_1
  refine z_put (ref := "FlowExporterModel") (C := RX12) (T := TX12) (N := 54) (ci := 14) (v := .int 0) B hu_X12_templateFields_X12 tyX12 tyX12_ok nmX12 rfl 0 (Nat.le_of_ble_eq_true rfl) hv_X12_templateFields_1 rfl (Or.inl rfl) h_2 hx rfl rfl (Nat.le_of_ble_eq_true rfl) dX12_templateFields_2 (fun Φ1 hΦ1 => ?_)
  have h_3 : Φ1 x = some (o_ 14 [.int 0, .ref (x + 1), .ref (x + 2), .int ti, .int ra, .int (nI rt), .int ex, .int ad, .ref (x + 3), .ref (x + 4), .int me, .long se, .ref (x + 5), .int (nI fl), .int dr, .long ob, .long sa, .long sn, .long us, .ref (x + 6), .ref (x + 7), .int (nI pe), .ref (x + 8), .int (nI le), .ref (x + 9), .ref (x + 10), .int (nI qu), .ref (x + 11), .ref (x + 12), .ref (x + 13), .ref (x + 14), .ref (x + 15), .ref (x + 16), .int (nI n_1), .long v_1, .ref (x + 17), .ref (x + 18), .ref (x + 19), .ref (x + 20), .ref (x + 21), .ref (x + 22), .int (nI n_2), .ref (x + 23), .ref (x + 24), .int (nI tk), .ref (x + 25), .int (nI il), .int (nI nx), .int ec, .int ep, .int kn, .int (nI st), .int nu, .long va]) := fset_at hΦ1
  have hI1 : Im G x (rd, nw, cr, tp, tt, sI, sT, pt, ql, fl, pe, le, nx, il, qu, kn, ec, nu, va, st, ep, ti, ad, ob, ra, rt, ex, sa, us, tk, 0, me, dr, se, sn) Φ1 := Im.put0 hI hΦ1 ⟨n_1, v_1, n_2, rfl, b_13, b_1, b_2, b_3, b_4, b_5, b_6, b_7, b_8, b_9, b_10, b_11, b_12⟩
  refine z_aload_n B dX12_templateFields_5 rfl 0 rfl ?_
  refine z_aload_n B dX12_templateFields_6 rfl 0 rfl ?_
  refine z_iload_n B dX12_templateFields_7 rfl 1 rfl ?_
  refine z_callV (As := [.int a]) (rest := [.ref x]) B (r_isTemplate G l Φ1 sz x rd nw cr tp tt sI sT pt ql fl pe le nx il qu kn ec nu va st ep ti ad ob ra rt ex sa us tk 0 me dr se sn a hx hI1 hnw) (cwV 1 B.1.2.2.2.2 gX12_templateFields_X12_isTemplate rfl rfl rfl (by decide +kernel) ⟨Nat.le_of_ble_eq_true rfl, Nat.le_of_ble_eq_true rfl⟩) h_3 rfl rfl rfl rfl (Nat.le_of_ble_eq_true rfl) dX12_templateFields_8 ⟨Nat.le_of_ble_eq_true rfl, Nat.le_of_ble_eq_true rfl⟩ (fun r_1 Φ2 sz1 st1 hp1 hs1 => ?_)
  obtain ⟨ha1, hq1, hI2, hF1⟩ := hp1
  subst sz1
  replace hI2 : Im G x (rd, nw, cr, tp, tt, sI, sT, pt, ql, fl, pe, le, nx, il, qu, kn, ec, nu, va, st, ep, ti, ad, ob, ra, rt, ex, sa, us, tk, 0, me, dr, se, sn) Φ2 := hI2
  rcases ha1 with rfl | ⟨rfl, n_3, b_14, rfl⟩
  · replace hs1 : st1 = [.int 0, .ref x] := hs1
    subst st1
    refine z_if_ne (tgt := 18) B dX12_templateFields_11 rfl (fun h9 => absurd (by decide) h9) (fun c_1 => ?_)
    refine z_iconst (v := 1) B dX12_templateFields_14 rfl ?_
    refine z_goto (tgt := 19) B dX12_templateFields_15 rfl ?_
    refine z_iconst (v := 1) B dX12_templateFields_19 rfl ?_
    have h_4 : Φ2 x = some (o_ 14 [.int 0, .ref (x + 1), .ref (x + 2), .int ti, .int ra, .int (nI rt), .int ex, .int ad, .ref (x + 3), .ref (x + 4), .int me, .long se, .ref (x + 5), .int (nI fl), .int dr, .long ob, .long sa, .long sn, .long us, .ref (x + 6), .ref (x + 7), .int (nI pe), .ref (x + 8), .int (nI le), .ref (x + 9), .ref (x + 10), .int (nI qu), .ref (x + 11), .ref (x + 12), .ref (x + 13), .ref (x + 14), .ref (x + 15), .ref (x + 16), .int (nI n_1), .long v_1, .ref (x + 17), .ref (x + 18), .ref (x + 19), .ref (x + 20), .ref (x + 21), .ref (x + 22), .int (nI n_2), .ref (x + 23), .ref (x + 24), .int (nI tk), .ref (x + 25), .int (nI il), .int (nI nx), .int ec, .int ep, .int kn, .int (nI st), .int nu, .long va]) := ((hF1 x (fun j9 h8 h7 => (show False from h7).elim)).trans h_3)
    refine z_callV (As := [.int 1, .int 1]) (rest := []) B (r_throwsIf G l Φ2 sz x rd nw cr tp tt sI sT pt ql fl pe le nx il qu kn ec nu va st ep ti ad ob ra rt ex sa us tk 0 me dr se sn 1 1 hx hI2 (by decide) hnw) (cwV 2 B.1.2.2.2.2 gX12_templateFields_X12_throwsIf rfl rfl rfl (by decide +kernel) ⟨Nat.le_of_ble_eq_true rfl, Nat.le_of_ble_eq_true rfl⟩) h_4 rfl rfl rfl rfl (Nat.le_of_ble_eq_true rfl) dX12_templateFields_20 ⟨Nat.le_of_ble_eq_true rfl, Nat.le_of_ble_eq_true rfl⟩ (fun r_2 Φ3 sz2 st2 hp2 hs2 => ?_)
    obtain ⟨rfl, hq2, ⟨v_2, hI3⟩, hF2⟩ := hp2
    subst sz2
    replace hs2 : st2 = [.int 1] := hs2
    subst st2
    replace hI3 : Im G x (rd, nw, cr, tp, tt, sI, sT, pt, ql, fl, pe, le, nx, il, qu, kn, ec, nu, va, st, ep, ti, ad, ob, ra, rt, ex, sa, us, tk, v_2, me, dr, se, sn) Φ3 := hI3
    refine z_if_eq (tgt := 30) B dX12_templateFields_23 rfl (fun h9 => absurd h9 (by decide)) (fun c_2 => ?_)
    refine z_iconst (v := 0) B dX12_templateFields_26 rfl ?_
    refine z_goto (tgt := 35) B dX12_templateFields_27 rfl ?_
    exact z_ret_i B dX12_templateFields_35 ⟨⟨_, rfl⟩, rfl, ⟨v_2, hI3⟩, (fun b9 h9 => ((hF2 b9 h9).trans ((hF1 b9 (fun j9 h8 h7 => (show False from h7).elim)).trans ((fset_fr hΦ1 (fun h8 => h9 (0) h8 (show 0 = 0 by decide))).trans rfl))))⟩
  · replace hs1 : st1 = [.int 1, .ref x] := hs1
    subst st1
    replace b_14 : n_3 < 4 := b_14
    refine z_if_ne (tgt := 18) B dX12_templateFields_11 rfl (fun c_3 => ?_) (fun h9 => absurd h9 (by decide))
    refine z_iconst (v := 0) B dX12_templateFields_18 rfl ?_
    refine z_iconst (v := 1) B dX12_templateFields_19 rfl ?_
    have h_5 : Φ2 x = some (o_ 14 [.int 0, .ref (x + 1), .ref (x + 2), .int ti, .int ra, .int (nI rt), .int ex, .int ad, .ref (x + 3), .ref (x + 4), .int me, .long se, .ref (x + 5), .int (nI fl), .int dr, .long ob, .long sa, .long sn, .long us, .ref (x + 6), .ref (x + 7), .int (nI pe), .ref (x + 8), .int (nI le), .ref (x + 9), .ref (x + 10), .int (nI qu), .ref (x + 11), .ref (x + 12), .ref (x + 13), .ref (x + 14), .ref (x + 15), .ref (x + 16), .int (nI n_1), .long v_1, .ref (x + 17), .ref (x + 18), .ref (x + 19), .ref (x + 20), .ref (x + 21), .ref (x + 22), .int (nI n_2), .ref (x + 23), .ref (x + 24), .int (nI tk), .ref (x + 25), .int (nI il), .int (nI nx), .int ec, .int ep, .int kn, .int (nI st), .int nu, .long va]) := ((hF1 x (fun j9 h8 h7 => (show False from h7).elim)).trans h_3)
    refine z_callV (As := [.int 0, .int 1]) (rest := []) B (r_throwsIf G l Φ2 sz x rd nw cr tp tt sI sT pt ql fl pe le nx il qu kn ec nu va st ep ti ad ob ra rt ex sa us tk 0 me dr se sn 0 1 hx hI2 (by decide) hnw) (cwV 2 B.1.2.2.2.2 gX12_templateFields_X12_throwsIf rfl rfl rfl (by decide +kernel) ⟨Nat.le_of_ble_eq_true rfl, Nat.le_of_ble_eq_true rfl⟩) h_5 rfl rfl rfl rfl (Nat.le_of_ble_eq_true rfl) dX12_templateFields_20 ⟨Nat.le_of_ble_eq_true rfl, Nat.le_of_ble_eq_true rfl⟩ (fun r_3 Φ4 sz3 st3 hp3 hs3 => ?_)
    obtain ⟨rfl, hq3, ⟨v_3, hI4⟩, hF3⟩ := hp3
    subst sz3
    replace hs3 : st3 = [.int 0] := hs3
    subst st3
    replace hI4 : Im G x (rd, nw, cr, tp, tt, sI, sT, pt, ql, fl, pe, le, nx, il, qu, kn, ec, nu, va, st, ep, ti, ad, ob, ra, rt, ex, sa, us, tk, v_3, me, dr, se, sn) Φ4 := hI4
    refine z_if_eq (tgt := 30) B dX12_templateFields_23 rfl (fun c_4 => ?_) (fun h9 => absurd (by decide) h9)
    refine z_aload_n B dX12_templateFields_30 rfl 0 rfl ?_
    refine z_iload_n B dX12_templateFields_31 rfl 1 rfl ?_
    obtain ⟨n_4, v_4, n_5, h_6, b_27, b_15, b_16, b_17, b_18, b_19, b_20, b_21, b_22, b_23, b_24, b_25, b_26⟩ := im0 hI4
    replace b_15 : 1 ≤ rt := b_15
    replace b_16 : rt ≤ 1024 := b_16
    replace b_17 : fl ≤ 12 := b_17
    replace b_18 : pe ≤ 24 := b_18
    replace b_19 : le ≤ 700 := b_19
    replace b_20 : qu ≤ 12 := b_20
    replace b_21 : n_4 ≤ 8 := b_21
    replace b_22 : n_5 ≤ 24 := b_22
    replace b_23 : tk ≤ 24 := b_23
    replace b_24 : il ≤ 700 := b_24
    replace b_25 : nx ≤ 701 := b_25
    replace b_26 : st ≤ 701 := b_26
    have h_7 : Φ4 x = some (o_ 14 [.int v_3, .ref (x + 1), .ref (x + 2), .int ti, .int ra, .int (nI rt), .int ex, .int ad, .ref (x + 3), .ref (x + 4), .int me, .long se, .ref (x + 5), .int (nI fl), .int dr, .long ob, .long sa, .long sn, .long us, .ref (x + 6), .ref (x + 7), .int (nI pe), .ref (x + 8), .int (nI le), .ref (x + 9), .ref (x + 10), .int (nI qu), .ref (x + 11), .ref (x + 12), .ref (x + 13), .ref (x + 14), .ref (x + 15), .ref (x + 16), .int (nI n_4), .long v_4, .ref (x + 17), .ref (x + 18), .ref (x + 19), .ref (x + 20), .ref (x + 21), .ref (x + 22), .int (nI n_5), .ref (x + 23), .ref (x + 24), .int (nI tk), .ref (x + 25), .int (nI il), .int (nI nx), .int ec, .int ep, .int kn, .int (nI st), .int nu, .long va]) := h_6
    refine z_callV (As := [.int (nI n_3)]) (rest := []) B (r_fieldsOf G l Φ4 sz x rd nw cr tp tt sI sT pt ql fl pe le nx il qu kn ec nu va st ep ti ad ob ra rt ex sa us tk v_3 me dr se sn n_3 hx hI4 (show n_3 < 4 by omega) hnw) (cwV 1 B.1.2.2.2.2 gX12_templateFields_X12_fieldsOf rfl rfl rfl (by decide +kernel) ⟨Nat.le_of_ble_eq_true rfl, Nat.le_of_ble_eq_true rfl⟩) h_7 rfl rfl rfl rfl (Nat.le_of_ble_eq_true rfl) dX12_templateFields_32 ⟨Nat.le_of_ble_eq_true rfl, Nat.le_of_ble_eq_true rfl⟩ (fun r_4 Φ5 sz4 st4 hp4 hs4 => ?_)
    obtain ⟨⟨v_5, rfl⟩, hq4, hI5, hF4⟩ := hp4
    subst sz4
    replace hs4 : st4 = [.int v_5] := hs4
    subst st4
    replace hI5 : Im G x (rd, nw, cr, tp, tt, sI, sT, pt, ql, fl, pe, le, nx, il, qu, kn, ec, nu, va, st, ep, ti, ad, ob, ra, rt, ex, sa, us, tk, v_3, me, dr, se, sn) Φ5 := hI5
    exact z_ret_i B dX12_templateFields_35 ⟨⟨_, rfl⟩, rfl, ⟨v_3, hI5⟩, (fun b9 h9 => ((hF4 b9 (fun j9 h8 h7 => (show False from h7).elim)).trans ((hF3 b9 h9).trans ((hF1 b9 (fun j9 h8 h7 => (show False from h7).elim)).trans ((fset_fr hΦ1 (fun h8 => h9 (0) h8 (show 0 = 0 by decide))).trans rfl)))))⟩

theorem hu_X12_effectiveFields_X12 : ∀ w ∈ u_ws RX12 TX12 54, w ∈ wsX12_effectiveFields := fun _ h => List.mem_cons_of_mem _ (List.mem_append_left _ (List.mem_append_right _ (h)))

theorem hv_X12_effectiveFields_1 : Cond.fieldLink RX12 1 "FlowExporterModel" (TX12 0).2.1 (TX12 0).2.2.1 ∈ wsX12_effectiveFields := List.mem_cons_of_mem _ (List.mem_append_left _ (List.mem_append_left _ (List.mem_append_left _ (List.mem_of_getElem? (i := 0) rfl))))

set_option maxRecDepth 20000 in
theorem ggX12_effectiveFields_X12_isTemplate : GoodIn wsX12_effectiveFields wsX12_isTemplate := goodIn_ca ((goodIn_ca (goodIn_r _ [6, 7, 8, 9, 5, 10] rfl (by decide +kernel)) (goodIn_sub (fun _ h => List.mem_cons_of_mem _ (List.mem_append_left _ (List.mem_append_right _ h))) gw_wsX120))) (goodIn_sub (fun _ h => List.mem_cons_of_mem _ (List.mem_append_right _ h)) (all_fg _))
set_option maxRecDepth 20000 in
theorem gX12_effectiveFields_X12_isTemplate : GoodIn wsX12_effectiveFields (wsV RX12 181 RX12 yX12_isTemplate wsX12_isTemplate) := goodIn_app (goodIn_m (mem_cA (List.mem_cons_of_mem _ (List.mem_append_left _ (List.mem_append_left _ (List.mem_append_left _ (List.mem_of_getElem? (i := 1) rfl))))) (mem_cA (List.mem_cons_of_mem _ (List.mem_append_left _ (List.mem_append_left _ (List.mem_append_left _ (List.mem_of_getElem? (i := 2) rfl))))) (mem_cA (List.mem_cons_of_mem _ (List.mem_append_left _ (List.mem_append_left _ (List.mem_append_left _ (List.mem_of_getElem? (i := 3) rfl))))) (mem_cA (List.mem_cons_of_mem _ (List.mem_append_left _ (List.mem_append_left _ (List.mem_append_left _ (List.mem_of_getElem? (i := 4) rfl))))) mem_cZ)))) (by decide +kernel)) ggX12_effectiveFields_X12_isTemplate
set_option maxRecDepth 20000 in
theorem ggX12_effectiveFields_X12_throwsIf : GoodIn wsX12_effectiveFields wsX12_throwsIf := (goodIn_ca (goodIn_r _ [14, 1] rfl (by decide +kernel)) (goodIn_sub (fun _ h => List.mem_cons_of_mem _ (List.mem_append_left _ (List.mem_append_right _ h))) gw_wsX120))
set_option maxRecDepth 20000 in
theorem gX12_effectiveFields_X12_throwsIf : GoodIn wsX12_effectiveFields (wsV RX12 185 RX12 yX12_throwsIf wsX12_throwsIf) := goodIn_app (goodIn_m (mem_cA (List.mem_cons_of_mem _ (List.mem_append_left _ (List.mem_append_left _ (List.mem_append_left _ (List.mem_of_getElem? (i := 10) rfl))))) (mem_cA (List.mem_cons_of_mem _ (List.mem_append_left _ (List.mem_append_left _ (List.mem_append_left _ (List.mem_of_getElem? (i := 11) rfl))))) (mem_cA (List.mem_cons_of_mem _ (List.mem_append_left _ (List.mem_append_left _ (List.mem_append_left _ (List.mem_of_getElem? (i := 12) rfl))))) (mem_cA (List.mem_cons_of_mem _ (List.mem_append_left _ (List.mem_append_left _ (List.mem_append_left _ (List.mem_of_getElem? (i := 4) rfl))))) mem_cZ)))) (by decide +kernel)) ggX12_effectiveFields_X12_throwsIf
set_option maxRecDepth 20000 in
theorem ggX12_effectiveFields_X12_effective : GoodIn wsX12_effectiveFields wsX12_effective := goodIn_ca ((goodIn_ca (goodIn_r _ [18, 7, 19, 20, 21, 5, 22, 23, 24, 25, 26, 27, 28, 29, 30] rfl (by decide +kernel)) (goodIn_sub (fun _ h => List.mem_cons_of_mem _ (List.mem_append_left _ (List.mem_append_right _ h))) gw_wsX120))) (goodIn_sub (fun _ h => List.mem_cons_of_mem _ (List.mem_append_right _ h)) (all_fg _))
set_option maxRecDepth 20000 in
theorem gX12_effectiveFields_X12_effective : GoodIn wsX12_effectiveFields (wsV RX12 192 RX12 yX12_effective wsX12_effective) := goodIn_app (goodIn_m (mem_cA (List.mem_cons_of_mem _ (List.mem_append_left _ (List.mem_append_left _ (List.mem_append_left _ (List.mem_of_getElem? (i := 14) rfl))))) (mem_cA (List.mem_cons_of_mem _ (List.mem_append_left _ (List.mem_append_left _ (List.mem_append_left _ (List.mem_of_getElem? (i := 15) rfl))))) (mem_cA (List.mem_cons_of_mem _ (List.mem_append_left _ (List.mem_append_left _ (List.mem_append_left _ (List.mem_of_getElem? (i := 16) rfl))))) (mem_cA (List.mem_cons_of_mem _ (List.mem_append_left _ (List.mem_append_left _ (List.mem_append_left _ (List.mem_of_getElem? (i := 4) rfl))))) mem_cZ)))) (by decide +kernel)) ggX12_effectiveFields_X12_effective
theorem dX12_effectiveFields_0 : decode cX12_effectiveFields 0 = .ok (.aload_n 0, 1) := by decide +kernel
theorem dX12_effectiveFields_1 : decode cX12_effectiveFields 1 = .ok (.iconst 0, 1) := by decide +kernel
theorem dX12_effectiveFields_2 : decode cX12_effectiveFields 2 = .ok (.putfield 1, 3) := by decide +kernel
theorem dX12_effectiveFields_5 : decode cX12_effectiveFields 5 = .ok (.aload_n 0, 1) := by decide +kernel
theorem dX12_effectiveFields_6 : decode cX12_effectiveFields 6 = .ok (.aload_n 0, 1) := by decide +kernel
theorem dX12_effectiveFields_7 : decode cX12_effectiveFields 7 = .ok (.iload_n 1, 1) := by decide +kernel
theorem dX12_effectiveFields_8 : decode cX12_effectiveFields 8 = .ok (.invokevirtual 181, 3) := by decide +kernel
theorem dX12_effectiveFields_11 : decode cX12_effectiveFields 11 = .ok (.ifCond .ne 7, 3) := by decide +kernel
theorem dX12_effectiveFields_14 : decode cX12_effectiveFields 14 = .ok (.iconst 1, 1) := by decide +kernel
theorem dX12_effectiveFields_15 : decode cX12_effectiveFields 15 = .ok (.goto 4, 3) := by decide +kernel
theorem dX12_effectiveFields_18 : decode cX12_effectiveFields 18 = .ok (.iconst 0, 1) := by decide +kernel
theorem dX12_effectiveFields_19 : decode cX12_effectiveFields 19 = .ok (.iconst 1, 1) := by decide +kernel
theorem dX12_effectiveFields_20 : decode cX12_effectiveFields 20 = .ok (.invokevirtual 185, 3) := by decide +kernel
theorem dX12_effectiveFields_23 : decode cX12_effectiveFields 23 = .ok (.ifCond .eq 7, 3) := by decide +kernel
theorem dX12_effectiveFields_26 : decode cX12_effectiveFields 26 = .ok (.iconst 0, 1) := by decide +kernel
theorem dX12_effectiveFields_27 : decode cX12_effectiveFields 27 = .ok (.goto 8, 3) := by decide +kernel
theorem dX12_effectiveFields_30 : decode cX12_effectiveFields 30 = .ok (.aload_n 0, 1) := by decide +kernel
theorem dX12_effectiveFields_31 : decode cX12_effectiveFields 31 = .ok (.iload_n 1, 1) := by decide +kernel
theorem dX12_effectiveFields_32 : decode cX12_effectiveFields 32 = .ok (.invokevirtual 192, 3) := by decide +kernel
theorem dX12_effectiveFields_35 : decode cX12_effectiveFields 35 = .ok (.ireturn, 1) := by decide +kernel
set_option maxRecDepth 20000 in
theorem ggX12_fieldAt_X12_isTemplate : GoodIn wsX12_fieldAt wsX12_isTemplate := goodIn_ca ((goodIn_ca (goodIn_r _ [6, 7, 8, 9, 5, 10] rfl (by decide +kernel)) (goodIn_sub (fun _ h => List.mem_cons_of_mem _ (List.mem_append_left _ (List.mem_append_right _ h))) gw_wsX120))) (goodIn_sub (fun _ h => List.mem_cons_of_mem _ (List.mem_append_right _ h)) (all_fg _))
set_option maxRecDepth 20000 in
theorem gX12_fieldAt_X12_isTemplate : GoodIn wsX12_fieldAt (wsV RX12 181 RX12 yX12_isTemplate wsX12_isTemplate) := goodIn_app (goodIn_m (mem_cA (List.mem_cons_of_mem _ (List.mem_append_left _ (List.mem_append_left _ (List.mem_of_getElem? (i := 1) rfl)))) (mem_cA (List.mem_cons_of_mem _ (List.mem_append_left _ (List.mem_append_left _ (List.mem_of_getElem? (i := 2) rfl)))) (mem_cA (List.mem_cons_of_mem _ (List.mem_append_left _ (List.mem_append_left _ (List.mem_of_getElem? (i := 3) rfl)))) (mem_cA (List.mem_cons_of_mem _ (List.mem_append_left _ (List.mem_append_left _ (List.mem_of_getElem? (i := 4) rfl)))) mem_cZ)))) (by decide +kernel)) ggX12_fieldAt_X12_isTemplate
set_option maxRecDepth 20000 in
theorem ggX12_fieldAt_X12_throwsIf : GoodIn wsX12_fieldAt wsX12_throwsIf := (goodIn_ca (goodIn_r _ [14, 1] rfl (by decide +kernel)) (goodIn_sub (fun _ h => List.mem_cons_of_mem _ (List.mem_append_left _ (List.mem_append_right _ h))) gw_wsX120))
set_option maxRecDepth 20000 in
theorem gX12_fieldAt_X12_throwsIf : GoodIn wsX12_fieldAt (wsV RX12 185 RX12 yX12_throwsIf wsX12_throwsIf) := goodIn_app (goodIn_m (mem_cA (List.mem_cons_of_mem _ (List.mem_append_left _ (List.mem_append_left _ (List.mem_of_getElem? (i := 10) rfl)))) (mem_cA (List.mem_cons_of_mem _ (List.mem_append_left _ (List.mem_append_left _ (List.mem_of_getElem? (i := 11) rfl)))) (mem_cA (List.mem_cons_of_mem _ (List.mem_append_left _ (List.mem_append_left _ (List.mem_of_getElem? (i := 12) rfl)))) (mem_cA (List.mem_cons_of_mem _ (List.mem_append_left _ (List.mem_append_left _ (List.mem_of_getElem? (i := 4) rfl)))) mem_cZ)))) (by decide +kernel)) ggX12_fieldAt_X12_throwsIf
set_option maxRecDepth 20000 in
theorem ggX12_fieldAt_X12_sizeOf : GoodIn wsX12_fieldAt wsX12_sizeOf := goodIn_ca ((goodIn_ca (goodIn_r _ [18, 7] rfl (by decide +kernel)) (goodIn_sub (fun _ h => List.mem_cons_of_mem _ (List.mem_append_left _ (List.mem_append_right _ h))) gw_wsX120))) (goodIn_sub (fun _ h => List.mem_cons_of_mem _ (List.mem_append_right _ h)) (all_fg _))
set_option maxRecDepth 20000 in
theorem gX12_fieldAt_X12_sizeOf : GoodIn wsX12_fieldAt (wsV RX12 173 RX12 yX12_sizeOf wsX12_sizeOf) := goodIn_app (goodIn_m (mem_cA (List.mem_cons_of_mem _ (List.mem_append_left _ (List.mem_append_left _ (List.mem_of_getElem? (i := 14) rfl)))) (mem_cA (List.mem_cons_of_mem _ (List.mem_append_left _ (List.mem_append_left _ (List.mem_of_getElem? (i := 15) rfl)))) (mem_cA (List.mem_cons_of_mem _ (List.mem_append_left _ (List.mem_append_left _ (List.mem_of_getElem? (i := 16) rfl)))) (mem_cA (List.mem_cons_of_mem _ (List.mem_append_left _ (List.mem_append_left _ (List.mem_of_getElem? (i := 4) rfl)))) mem_cZ)))) (by decide +kernel)) ggX12_fieldAt_X12_sizeOf
set_option maxRecDepth 20000 in
theorem ggX12_fieldAt_X12_inRange : GoodIn wsX12_fieldAt wsX12_inRange := (goodIn_r _ [10] rfl (by decide +kernel))
set_option maxRecDepth 20000 in
theorem gX12_fieldAt_X12_inRange : GoodIn wsX12_fieldAt (va_wsS RX12 169 yX12_inRange wsX12_inRange) := goodIn_app (goodIn_m (mem_cA (List.mem_cons_of_mem _ (List.mem_append_left _ (List.mem_append_left _ (List.mem_of_getElem? (i := 7) rfl)))) (mem_cA (List.mem_cons_of_mem _ (List.mem_append_left _ (List.mem_append_left _ (List.mem_of_getElem? (i := 8) rfl)))) (mem_cA (List.mem_cons_of_mem _ (List.mem_append_left _ (List.mem_append_left _ (List.mem_of_getElem? (i := 4) rfl)))) mem_cZ))) (by decide +kernel)) ggX12_fieldAt_X12_inRange
set_option maxRecDepth 20000 in
theorem ggX12_fieldAt_X12_fieldOf : GoodIn wsX12_fieldAt wsX12_fieldOf := goodIn_ca ((goodIn_ca (goodIn_r _ [22, 7] rfl (by decide +kernel)) (goodIn_sub (fun _ h => List.mem_cons_of_mem _ (List.mem_append_left _ (List.mem_append_right _ h))) gw_wsX120))) (goodIn_sub (fun _ h => List.mem_cons_of_mem _ (List.mem_append_right _ h)) (all_fg _))
set_option maxRecDepth 20000 in
theorem gX12_fieldAt_X12_fieldOf : GoodIn wsX12_fieldAt (wsV RX12 177 RX12 yX12_fieldOf wsX12_fieldOf) := goodIn_app (goodIn_m (mem_cA (List.mem_cons_of_mem _ (List.mem_append_left _ (List.mem_append_left _ (List.mem_of_getElem? (i := 18) rfl)))) (mem_cA (List.mem_cons_of_mem _ (List.mem_append_left _ (List.mem_append_left _ (List.mem_of_getElem? (i := 19) rfl)))) (mem_cA (List.mem_cons_of_mem _ (List.mem_append_left _ (List.mem_append_left _ (List.mem_of_getElem? (i := 20) rfl)))) (mem_cA (List.mem_cons_of_mem _ (List.mem_append_left _ (List.mem_append_left _ (List.mem_of_getElem? (i := 4) rfl)))) mem_cZ)))) (by decide +kernel)) ggX12_fieldAt_X12_fieldOf
theorem dX12_fieldAt_0 : decode cX12_fieldAt 0 = .ok (.aload_n 0, 1) := by decide +kernel
theorem dX12_fieldAt_1 : decode cX12_fieldAt 1 = .ok (.iconst 0, 1) := by decide +kernel
theorem dX12_fieldAt_2 : decode cX12_fieldAt 2 = .ok (.putfield 1, 3) := by decide +kernel
theorem dX12_fieldAt_5 : decode cX12_fieldAt 5 = .ok (.aload_n 0, 1) := by decide +kernel
theorem dX12_fieldAt_6 : decode cX12_fieldAt 6 = .ok (.aload_n 0, 1) := by decide +kernel
theorem dX12_fieldAt_7 : decode cX12_fieldAt 7 = .ok (.iload_n 1, 1) := by decide +kernel
theorem dX12_fieldAt_8 : decode cX12_fieldAt 8 = .ok (.invokevirtual 181, 3) := by decide +kernel
theorem dX12_fieldAt_11 : decode cX12_fieldAt 11 = .ok (.ifCond .ne 7, 3) := by decide +kernel
theorem dX12_fieldAt_14 : decode cX12_fieldAt 14 = .ok (.iconst 1, 1) := by decide +kernel
theorem dX12_fieldAt_15 : decode cX12_fieldAt 15 = .ok (.goto 4, 3) := by decide +kernel
theorem dX12_fieldAt_18 : decode cX12_fieldAt 18 = .ok (.iconst 0, 1) := by decide +kernel
theorem dX12_fieldAt_19 : decode cX12_fieldAt 19 = .ok (.iconst 1, 1) := by decide +kernel
theorem dX12_fieldAt_20 : decode cX12_fieldAt 20 = .ok (.invokevirtual 185, 3) := by decide +kernel
theorem dX12_fieldAt_23 : decode cX12_fieldAt 23 = .ok (.ifCond .eq 7, 3) := by decide +kernel
theorem dX12_fieldAt_26 : decode cX12_fieldAt 26 = .ok (.iconst 0, 1) := by decide +kernel
theorem dX12_fieldAt_27 : decode cX12_fieldAt 27 = .ok (.goto 30, 3) := by decide +kernel
theorem dX12_fieldAt_30 : decode cX12_fieldAt 30 = .ok (.iload_n 2, 1) := by decide +kernel
theorem dX12_fieldAt_31 : decode cX12_fieldAt 31 = .ok (.i2l, 1) := by decide +kernel
theorem dX12_fieldAt_32 : decode cX12_fieldAt 32 = .ok (.lconst 0, 1) := by decide +kernel
theorem dX12_fieldAt_33 : decode cX12_fieldAt 33 = .ok (.aload_n 0, 1) := by decide +kernel
theorem dX12_fieldAt_34 : decode cX12_fieldAt 34 = .ok (.iload_n 1, 1) := by decide +kernel
theorem dX12_fieldAt_35 : decode cX12_fieldAt 35 = .ok (.invokevirtual 173, 3) := by decide +kernel
theorem dX12_fieldAt_38 : decode cX12_fieldAt 38 = .ok (.iconst 1, 1) := by decide +kernel
theorem dX12_fieldAt_39 : decode cX12_fieldAt 39 = .ok (.isub, 1) := by decide +kernel
theorem dX12_fieldAt_40 : decode cX12_fieldAt 40 = .ok (.i2l, 1) := by decide +kernel
theorem dX12_fieldAt_41 : decode cX12_fieldAt 41 = .ok (.invokestatic 169, 3) := by decide +kernel
theorem dX12_fieldAt_44 : decode cX12_fieldAt 44 = .ok (.ifCond .eq 12, 3) := by decide +kernel
theorem dX12_fieldAt_47 : decode cX12_fieldAt 47 = .ok (.aload_n 0, 1) := by decide +kernel
theorem dX12_fieldAt_48 : decode cX12_fieldAt 48 = .ok (.iload_n 1, 1) := by decide +kernel
theorem dX12_fieldAt_49 : decode cX12_fieldAt 49 = .ok (.iload_n 2, 1) := by decide +kernel
theorem dX12_fieldAt_50 : decode cX12_fieldAt 50 = .ok (.invokevirtual 177, 3) := by decide +kernel
theorem dX12_fieldAt_53 : decode cX12_fieldAt 53 = .ok (.goto 4, 3) := by decide +kernel
theorem dX12_fieldAt_56 : decode cX12_fieldAt 56 = .ok (.iconst (-1), 1) := by decide +kernel
theorem dX12_fieldAt_57 : decode cX12_fieldAt 57 = .ok (.ireturn, 1) := by decide +kernel
set_option maxRecDepth 20000 in
theorem ggX12_recordLength_X12_isTemplate : GoodIn wsX12_recordLength wsX12_isTemplate := goodIn_ca ((goodIn_ca (goodIn_r _ [6, 7, 8, 9, 5, 10] rfl (by decide +kernel)) (goodIn_sub (fun _ h => List.mem_cons_of_mem _ (List.mem_append_left _ (List.mem_append_right _ h))) gw_wsX120))) (goodIn_sub (fun _ h => List.mem_cons_of_mem _ (List.mem_append_right _ h)) (all_fg _))
set_option maxRecDepth 20000 in
theorem gX12_recordLength_X12_isTemplate : GoodIn wsX12_recordLength (wsV RX12 181 RX12 yX12_isTemplate wsX12_isTemplate) := goodIn_app (goodIn_m (mem_cA (List.mem_cons_of_mem _ (List.mem_append_left _ (List.mem_append_left _ (List.mem_append_left _ (List.mem_of_getElem? (i := 1) rfl))))) (mem_cA (List.mem_cons_of_mem _ (List.mem_append_left _ (List.mem_append_left _ (List.mem_append_left _ (List.mem_of_getElem? (i := 2) rfl))))) (mem_cA (List.mem_cons_of_mem _ (List.mem_append_left _ (List.mem_append_left _ (List.mem_append_left _ (List.mem_of_getElem? (i := 3) rfl))))) (mem_cA (List.mem_cons_of_mem _ (List.mem_append_left _ (List.mem_append_left _ (List.mem_append_left _ (List.mem_of_getElem? (i := 4) rfl))))) mem_cZ)))) (by decide +kernel)) ggX12_recordLength_X12_isTemplate
set_option maxRecDepth 20000 in
theorem ggX12_recordLength_X12_throwsIf : GoodIn wsX12_recordLength wsX12_throwsIf := (goodIn_ca (goodIn_r _ [14, 1] rfl (by decide +kernel)) (goodIn_sub (fun _ h => List.mem_cons_of_mem _ (List.mem_append_left _ (List.mem_append_right _ h))) gw_wsX120))
set_option maxRecDepth 20000 in
theorem gX12_recordLength_X12_throwsIf : GoodIn wsX12_recordLength (wsV RX12 185 RX12 yX12_throwsIf wsX12_throwsIf) := goodIn_app (goodIn_m (mem_cA (List.mem_cons_of_mem _ (List.mem_append_left _ (List.mem_append_left _ (List.mem_append_left _ (List.mem_of_getElem? (i := 10) rfl))))) (mem_cA (List.mem_cons_of_mem _ (List.mem_append_left _ (List.mem_append_left _ (List.mem_append_left _ (List.mem_of_getElem? (i := 11) rfl))))) (mem_cA (List.mem_cons_of_mem _ (List.mem_append_left _ (List.mem_append_left _ (List.mem_append_left _ (List.mem_of_getElem? (i := 12) rfl))))) (mem_cA (List.mem_cons_of_mem _ (List.mem_append_left _ (List.mem_append_left _ (List.mem_append_left _ (List.mem_of_getElem? (i := 4) rfl))))) mem_cZ)))) (by decide +kernel)) ggX12_recordLength_X12_throwsIf
set_option maxRecDepth 20000 in
theorem ggX12_recordLength_X12_recordLengthOf : GoodIn wsX12_recordLength wsX12_recordLengthOf := goodIn_ca ((goodIn_ca (goodIn_r _ [18, 19, 20, 21, 5, 22, 7, 23, 24, 25, 26, 27, 28, 29, 30, 31, 32, 33, 34, 35, 36, 37] rfl (by decide +kernel)) (goodIn_sub (fun _ h => List.mem_cons_of_mem _ (List.mem_append_left _ (List.mem_append_right _ h))) gw_wsX120))) (goodIn_sub (fun _ h => List.mem_cons_of_mem _ (List.mem_append_right _ h)) (all_fg _))
set_option maxRecDepth 20000 in
theorem gX12_recordLength_X12_recordLengthOf : GoodIn wsX12_recordLength (wsV RX12 198 RX12 yX12_recordLengthOf wsX12_recordLengthOf) := goodIn_app (goodIn_m (mem_cA (List.mem_cons_of_mem _ (List.mem_append_left _ (List.mem_append_left _ (List.mem_append_left _ (List.mem_of_getElem? (i := 14) rfl))))) (mem_cA (List.mem_cons_of_mem _ (List.mem_append_left _ (List.mem_append_left _ (List.mem_append_left _ (List.mem_of_getElem? (i := 15) rfl))))) (mem_cA (List.mem_cons_of_mem _ (List.mem_append_left _ (List.mem_append_left _ (List.mem_append_left _ (List.mem_of_getElem? (i := 16) rfl))))) (mem_cA (List.mem_cons_of_mem _ (List.mem_append_left _ (List.mem_append_left _ (List.mem_append_left _ (List.mem_of_getElem? (i := 4) rfl))))) mem_cZ)))) (by decide +kernel)) ggX12_recordLength_X12_recordLengthOf
theorem dX12_recordLength_0 : decode cX12_recordLength 0 = .ok (.aload_n 0, 1) := by decide +kernel
theorem dX12_recordLength_1 : decode cX12_recordLength 1 = .ok (.iconst 0, 1) := by decide +kernel
theorem dX12_recordLength_2 : decode cX12_recordLength 2 = .ok (.putfield 1, 3) := by decide +kernel
theorem dX12_recordLength_5 : decode cX12_recordLength 5 = .ok (.aload_n 0, 1) := by decide +kernel
theorem dX12_recordLength_6 : decode cX12_recordLength 6 = .ok (.aload_n 0, 1) := by decide +kernel
theorem dX12_recordLength_7 : decode cX12_recordLength 7 = .ok (.iload_n 1, 1) := by decide +kernel
theorem dX12_recordLength_8 : decode cX12_recordLength 8 = .ok (.invokevirtual 181, 3) := by decide +kernel
theorem dX12_recordLength_11 : decode cX12_recordLength 11 = .ok (.ifCond .ne 7, 3) := by decide +kernel
theorem dX12_recordLength_14 : decode cX12_recordLength 14 = .ok (.iconst 1, 1) := by decide +kernel
theorem dX12_recordLength_15 : decode cX12_recordLength 15 = .ok (.goto 4, 3) := by decide +kernel
theorem dX12_recordLength_18 : decode cX12_recordLength 18 = .ok (.iconst 0, 1) := by decide +kernel
theorem dX12_recordLength_19 : decode cX12_recordLength 19 = .ok (.iconst 1, 1) := by decide +kernel
theorem dX12_recordLength_20 : decode cX12_recordLength 20 = .ok (.invokevirtual 185, 3) := by decide +kernel
theorem dX12_recordLength_23 : decode cX12_recordLength 23 = .ok (.ifCond .eq 7, 3) := by decide +kernel
theorem dX12_recordLength_26 : decode cX12_recordLength 26 = .ok (.iconst 0, 1) := by decide +kernel
theorem dX12_recordLength_27 : decode cX12_recordLength 27 = .ok (.goto 8, 3) := by decide +kernel
theorem dX12_recordLength_30 : decode cX12_recordLength 30 = .ok (.aload_n 0, 1) := by decide +kernel
theorem dX12_recordLength_31 : decode cX12_recordLength 31 = .ok (.iload_n 1, 1) := by decide +kernel
theorem dX12_recordLength_32 : decode cX12_recordLength 32 = .ok (.invokevirtual 198, 3) := by decide +kernel
theorem dX12_recordLength_35 : decode cX12_recordLength 35 = .ok (.ireturn, 1) := by decide +kernel
theorem dX12_requestTemplates_0 : decode cX12_requestTemplates 0 = .ok (.aload_n 0, 1) := by decide +kernel
theorem dX12_requestTemplates_1 : decode cX12_requestTemplates 1 = .ok (.iconst 0, 1) := by decide +kernel
theorem dX12_requestTemplates_2 : decode cX12_requestTemplates 2 = .ok (.putfield 1, 3) := by decide +kernel
theorem dX12_requestTemplates_5 : decode cX12_requestTemplates 5 = .ok (.iconst 0, 1) := by decide +kernel
theorem dX12_requestTemplates_6 : decode cX12_requestTemplates 6 = .ok (.istore_n 1, 1) := by decide +kernel
theorem dX12_requestTemplates_7 : decode cX12_requestTemplates 7 = .ok (.iload_n 1, 1) := by decide +kernel
theorem dX12_requestTemplates_8 : decode cX12_requestTemplates 8 = .ok (.iconst 4, 1) := by decide +kernel
theorem dX12_requestTemplates_9 : decode cX12_requestTemplates 9 = .ok (.if_icmp .ge 16, 3) := by decide +kernel
theorem dX12_requestTemplates_12 : decode cX12_requestTemplates 12 = .ok (.aload_n 0, 1) := by decide +kernel
theorem dX12_requestTemplates_13 : decode cX12_requestTemplates 13 = .ok (.getfield 20, 3) := by decide +kernel
theorem dX12_requestTemplates_16 : decode cX12_requestTemplates 16 = .ok (.iload_n 1, 1) := by decide +kernel
theorem dX12_requestTemplates_17 : decode cX12_requestTemplates 17 = .ok (.iconst (-1), 1) := by decide +kernel
theorem dX12_requestTemplates_18 : decode cX12_requestTemplates 18 = .ok (.iastore, 1) := by decide +kernel
theorem dX12_requestTemplates_19 : decode cX12_requestTemplates 19 = .ok (.iinc 1 1, 3) := by decide +kernel
theorem dX12_requestTemplates_22 : decode cX12_requestTemplates 22 = .ok (.goto (-15), 3) := by decide +kernel
theorem dX12_requestTemplates_25 : decode cX12_requestTemplates 25 = .ok (.return_, 1) := by decide +kernel
set_option maxHeartbeats 4000000 in
set_option maxRecDepth 100000 in
theorem r_effectiveFields (G : EnvG) (l : Launch) (Φ : Hm) (sz x : Nat) (rd : (Nat → Int32) → Prop) (nw : (Nat → Int32) → Prop) (cr : (Nat → Int64) → Prop) (tp : (Nat → Int32) → Prop) (tt : (Nat → Int64) → Prop) (sI : (Nat → Int32) → Prop) (sT : (Nat → Int32) → Prop) (pt : (Nat → Int32) → Prop) (ql : (Nat → Int32) → Prop) (fl : Nat) (pe : Nat) (le : Nat) (nx : Nat) (il : Nat) (qu : Nat) (kn : Int32) (ec : Int32) (nu : Int32) (va : Int64) (st : Nat) (ep : Int32) (ti : Int32) (ad : Int32) (ob : Int64) (ra : Int32) (rt : Nat) (ex : Int32) (sa : Int64) (us : Int64) (tk : Nat) (th : Int32) (me : Int32) (dr : Int32) (se : Int64) (sn : Int64) (a : Int32) (hx : G.2.2.2 ≤ x) (hI : Im G x (rd, nw, cr, tp, tt, sI, sT, pt, ql, fl, pe, le, nx, il, qu, kn, ec, nu, va, st, ep, ti, ad, ob, ra, rt, ex, sa, us, tk, th, me, dr, se, sn) Φ) (hnw : ∀ f9 : Nat → Int32, nw f9 → NN f9) : Ct G l yX12_effectiveFields wsX12_effectiveFields ({ frames := 3, cells := 0, slots := 0, locals := 66 }) 0 0 [.ref x, .int a] Φ sz (fun v Φ1 sz1 => (∃ r9 : Int32, v = some (.int r9)) ∧ sz1 = sz ∧ (∃ (th1 : Int32), Im G x (rd, nw, cr, tp, tt, sI, sT, pt, ql, fl, pe, le, nx, il, qu, kn, ec, nu, va, st, ep, ti, ad, ob, ra, rt, ex, sa, us, tk, th1, me, dr, se, sn) Φ1) ∧ Fr x (fun j9 => j9 = 0) Φ Φ1) := by
  refine Ct.of (cc := cX12_effectiveFields) (maxL := 2) (ret := (some .int)) (by decide) rfl (Nat.le_of_ble_eq_true rfl) ?_
  intro p9 e9 s9 m9 w9 t9 k9 B
  show Z p9 l e9 _ s9 m9 _ w9 t9 k9 _ G 2 0 [(0, .ref x), (1, .int a)] [] Φ sz 0 0
  refine z_aload_n B dX12_effectiveFields_0 rfl 0 rfl ?_
  refine z_iconst (v := 0) B dX12_effectiveFields_1 rfl ?_
  obtain ⟨n_1, v_1, n_2, h_1, b_13, b_1, b_2, b_3, b_4, b_5, b_6, b_7, b_8, b_9, b_10, b_11, b_12⟩ := im0 hI
  replace b_1 : 1 ≤ rt := b_1
  replace b_2 : rt ≤ 1024 := b_2
  replace b_3 : fl ≤ 12 := b_3
  replace b_4 : pe ≤ 24 := b_4
  replace b_5 : le ≤ 700 := b_5
  replace b_6 : qu ≤ 12 := b_6
  replace b_7 : n_1 ≤ 8 := b_7
  replace b_8 : n_2 ≤ 24 := b_8
  replace b_9 : tk ≤ 24 := b_9
  replace b_10 : il ≤ 700 := b_10
  replace b_11 : nx ≤ 701 := b_11
  replace b_12 : st ≤ 701 := b_12
  have h_2 : Φ x = some (o_ 14 [.int th, .ref (x + 1), .ref (x + 2), .int ti, .int ra, .int (nI rt), .int ex, .int ad, .ref (x + 3), .ref (x + 4), .int me, .long se, .ref (x + 5), .int (nI fl), .int dr, .long ob, .long sa, .long sn, .long us, .ref (x + 6), .ref (x + 7), .int (nI pe), .ref (x + 8), .int (nI le), .ref (x + 9), .ref (x + 10), .int (nI qu), .ref (x + 11), .ref (x + 12), .ref (x + 13), .ref (x + 14), .ref (x + 15), .ref (x + 16), .int (nI n_1), .long v_1, .ref (x + 17), .ref (x + 18), .ref (x + 19), .ref (x + 20), .ref (x + 21), .ref (x + 22), .int (nI n_2), .ref (x + 23), .ref (x + 24), .int (nI tk), .ref (x + 25), .int (nI il), .int (nI nx), .int ec, .int ep, .int kn, .int (nI st), .int nu, .long va]) := h_1
  refine z_put (ref := "FlowExporterModel") (C := RX12) (T := TX12) (N := 54) (ci := 14) (v := .int 0) B hu_X12_effectiveFields_X12 tyX12 tyX12_ok nmX12 rfl 0 (Nat.le_of_ble_eq_true rfl) hv_X12_effectiveFields_1 rfl (Or.inl rfl) h_2 hx rfl rfl (Nat.le_of_ble_eq_true rfl) dX12_effectiveFields_2 (fun Φ1 hΦ1 => ?_)
  have h_3 : Φ1 x = some (o_ 14 [.int 0, .ref (x + 1), .ref (x + 2), .int ti, .int ra, .int (nI rt), .int ex, .int ad, .ref (x + 3), .ref (x + 4), .int me, .long se, .ref (x + 5), .int (nI fl), .int dr, .long ob, .long sa, .long sn, .long us, .ref (x + 6), .ref (x + 7), .int (nI pe), .ref (x + 8), .int (nI le), .ref (x + 9), .ref (x + 10), .int (nI qu), .ref (x + 11), .ref (x + 12), .ref (x + 13), .ref (x + 14), .ref (x + 15), .ref (x + 16), .int (nI n_1), .long v_1, .ref (x + 17), .ref (x + 18), .ref (x + 19), .ref (x + 20), .ref (x + 21), .ref (x + 22), .int (nI n_2), .ref (x + 23), .ref (x + 24), .int (nI tk), .ref (x + 25), .int (nI il), .int (nI nx), .int ec, .int ep, .int kn, .int (nI st), .int nu, .long va]) := fset_at hΦ1
  have hI1 : Im G x (rd, nw, cr, tp, tt, sI, sT, pt, ql, fl, pe, le, nx, il, qu, kn, ec, nu, va, st, ep, ti, ad, ob, ra, rt, ex, sa, us, tk, 0, me, dr, se, sn) Φ1 := Im.put0 hI hΦ1 ⟨n_1, v_1, n_2, rfl, b_13, b_1, b_2, b_3, b_4, b_5, b_6, b_7, b_8, b_9, b_10, b_11, b_12⟩
  refine z_aload_n B dX12_effectiveFields_5 rfl 0 rfl ?_
  refine z_aload_n B dX12_effectiveFields_6 rfl 0 rfl ?_
  refine z_iload_n B dX12_effectiveFields_7 rfl 1 rfl ?_
  refine z_callV (As := [.int a]) (rest := [.ref x]) B (r_isTemplate G l Φ1 sz x rd nw cr tp tt sI sT pt ql fl pe le nx il qu kn ec nu va st ep ti ad ob ra rt ex sa us tk 0 me dr se sn a hx hI1 hnw) (cwV 1 B.1.2.2.2.2 gX12_effectiveFields_X12_isTemplate rfl rfl rfl (by decide +kernel) ⟨Nat.le_of_ble_eq_true rfl, Nat.le_of_ble_eq_true rfl⟩) h_3 rfl rfl rfl rfl (Nat.le_of_ble_eq_true rfl) dX12_effectiveFields_8 ⟨Nat.le_of_ble_eq_true rfl, Nat.le_of_ble_eq_true rfl⟩ (fun r_1 Φ2 sz1 st1 hp1 hs1 => ?_)
  obtain ⟨ha1, hq1, hI2, hF1⟩ := hp1
  subst sz1
  replace hI2 : Im G x (rd, nw, cr, tp, tt, sI, sT, pt, ql, fl, pe, le, nx, il, qu, kn, ec, nu, va, st, ep, ti, ad, ob, ra, rt, ex, sa, us, tk, 0, me, dr, se, sn) Φ2 := hI2
  rcases ha1 with rfl | ⟨rfl, n_3, b_14, rfl⟩
  · replace hs1 : st1 = [.int 0, .ref x] := hs1
    subst st1
    refine z_if_ne (tgt := 18) B dX12_effectiveFields_11 rfl (fun h9 => absurd (by decide) h9) (fun c_1 => ?_)
    refine z_iconst (v := 1) B dX12_effectiveFields_14 rfl ?_
    refine z_goto (tgt := 19) B dX12_effectiveFields_15 rfl ?_
    refine z_iconst (v := 1) B dX12_effectiveFields_19 rfl ?_
    have h_4 : Φ2 x = some (o_ 14 [.int 0, .ref (x + 1), .ref (x + 2), .int ti, .int ra, .int (nI rt), .int ex, .int ad, .ref (x + 3), .ref (x + 4), .int me, .long se, .ref (x + 5), .int (nI fl), .int dr, .long ob, .long sa, .long sn, .long us, .ref (x + 6), .ref (x + 7), .int (nI pe), .ref (x + 8), .int (nI le), .ref (x + 9), .ref (x + 10), .int (nI qu), .ref (x + 11), .ref (x + 12), .ref (x + 13), .ref (x + 14), .ref (x + 15), .ref (x + 16), .int (nI n_1), .long v_1, .ref (x + 17), .ref (x + 18), .ref (x + 19), .ref (x + 20), .ref (x + 21), .ref (x + 22), .int (nI n_2), .ref (x + 23), .ref (x + 24), .int (nI tk), .ref (x + 25), .int (nI il), .int (nI nx), .int ec, .int ep, .int kn, .int (nI st), .int nu, .long va]) := ((hF1 x (fun j9 h8 h7 => (show False from h7).elim)).trans h_3)
    refine z_callV (As := [.int 1, .int 1]) (rest := []) B (r_throwsIf G l Φ2 sz x rd nw cr tp tt sI sT pt ql fl pe le nx il qu kn ec nu va st ep ti ad ob ra rt ex sa us tk 0 me dr se sn 1 1 hx hI2 (by decide) hnw) (cwV 2 B.1.2.2.2.2 gX12_effectiveFields_X12_throwsIf rfl rfl rfl (by decide +kernel) ⟨Nat.le_of_ble_eq_true rfl, Nat.le_of_ble_eq_true rfl⟩) h_4 rfl rfl rfl rfl (Nat.le_of_ble_eq_true rfl) dX12_effectiveFields_20 ⟨Nat.le_of_ble_eq_true rfl, Nat.le_of_ble_eq_true rfl⟩ (fun r_2 Φ3 sz2 st2 hp2 hs2 => ?_)
    obtain ⟨rfl, hq2, ⟨v_2, hI3⟩, hF2⟩ := hp2
    subst sz2
    replace hs2 : st2 = [.int 1] := hs2
    subst st2
    replace hI3 : Im G x (rd, nw, cr, tp, tt, sI, sT, pt, ql, fl, pe, le, nx, il, qu, kn, ec, nu, va, st, ep, ti, ad, ob, ra, rt, ex, sa, us, tk, v_2, me, dr, se, sn) Φ3 := hI3
    refine z_if_eq (tgt := 30) B dX12_effectiveFields_23 rfl (fun h9 => absurd h9 (by decide)) (fun c_2 => ?_)
    refine z_iconst (v := 0) B dX12_effectiveFields_26 rfl ?_
    refine z_goto (tgt := 35) B dX12_effectiveFields_27 rfl ?_
    exact z_ret_i B dX12_effectiveFields_35 ⟨⟨_, rfl⟩, rfl, ⟨v_2, hI3⟩, (fun b9 h9 => ((hF2 b9 h9).trans ((hF1 b9 (fun j9 h8 h7 => (show False from h7).elim)).trans ((fset_fr hΦ1 (fun h8 => h9 (0) h8 (show 0 = 0 by decide))).trans rfl))))⟩
  · replace hs1 : st1 = [.int 1, .ref x] := hs1
    subst st1
    replace b_14 : n_3 < 4 := b_14
    refine z_if_ne (tgt := 18) B dX12_effectiveFields_11 rfl (fun c_3 => ?_) (fun h9 => absurd h9 (by decide))
    refine z_iconst (v := 0) B dX12_effectiveFields_18 rfl ?_
    refine z_iconst (v := 1) B dX12_effectiveFields_19 rfl ?_
    have h_5 : Φ2 x = some (o_ 14 [.int 0, .ref (x + 1), .ref (x + 2), .int ti, .int ra, .int (nI rt), .int ex, .int ad, .ref (x + 3), .ref (x + 4), .int me, .long se, .ref (x + 5), .int (nI fl), .int dr, .long ob, .long sa, .long sn, .long us, .ref (x + 6), .ref (x + 7), .int (nI pe), .ref (x + 8), .int (nI le), .ref (x + 9), .ref (x + 10), .int (nI qu), .ref (x + 11), .ref (x + 12), .ref (x + 13), .ref (x + 14), .ref (x + 15), .ref (x + 16), .int (nI n_1), .long v_1, .ref (x + 17), .ref (x + 18), .ref (x + 19), .ref (x + 20), .ref (x + 21), .ref (x + 22), .int (nI n_2), .ref (x + 23), .ref (x + 24), .int (nI tk), .ref (x + 25), .int (nI il), .int (nI nx), .int ec, .int ep, .int kn, .int (nI st), .int nu, .long va]) := ((hF1 x (fun j9 h8 h7 => (show False from h7).elim)).trans h_3)
    refine z_callV (As := [.int 0, .int 1]) (rest := []) B (r_throwsIf G l Φ2 sz x rd nw cr tp tt sI sT pt ql fl pe le nx il qu kn ec nu va st ep ti ad ob ra rt ex sa us tk 0 me dr se sn 0 1 hx hI2 (by decide) hnw) (cwV 2 B.1.2.2.2.2 gX12_effectiveFields_X12_throwsIf rfl rfl rfl (by decide +kernel) ⟨Nat.le_of_ble_eq_true rfl, Nat.le_of_ble_eq_true rfl⟩) h_5 rfl rfl rfl rfl (Nat.le_of_ble_eq_true rfl) dX12_effectiveFields_20 ⟨Nat.le_of_ble_eq_true rfl, Nat.le_of_ble_eq_true rfl⟩ (fun r_3 Φ4 sz3 st3 hp3 hs3 => ?_)
    obtain ⟨rfl, hq3, ⟨v_3, hI4⟩, hF3⟩ := hp3
    subst sz3
    replace hs3 : st3 = [.int 0] := hs3
    subst st3
    replace hI4 : Im G x (rd, nw, cr, tp, tt, sI, sT, pt, ql, fl, pe, le, nx, il, qu, kn, ec, nu, va, st, ep, ti, ad, ob, ra, rt, ex, sa, us, tk, v_3, me, dr, se, sn) Φ4 := hI4
    refine z_if_eq (tgt := 30) B dX12_effectiveFields_23 rfl (fun c_4 => ?_) (fun h9 => absurd (by decide) h9)
    refine z_aload_n B dX12_effectiveFields_30 rfl 0 rfl ?_
    refine z_iload_n B dX12_effectiveFields_31 rfl 1 rfl ?_
    obtain ⟨n_4, v_4, n_5, h_6, b_27, b_15, b_16, b_17, b_18, b_19, b_20, b_21, b_22, b_23, b_24, b_25, b_26⟩ := im0 hI4
    replace b_15 : 1 ≤ rt := b_15
    replace b_16 : rt ≤ 1024 := b_16
    replace b_17 : fl ≤ 12 := b_17
    replace b_18 : pe ≤ 24 := b_18
    replace b_19 : le ≤ 700 := b_19
    replace b_20 : qu ≤ 12 := b_20
    replace b_21 : n_4 ≤ 8 := b_21
    replace b_22 : n_5 ≤ 24 := b_22
    replace b_23 : tk ≤ 24 := b_23
    replace b_24 : il ≤ 700 := b_24
    replace b_25 : nx ≤ 701 := b_25
    replace b_26 : st ≤ 701 := b_26
    have h_7 : Φ4 x = some (o_ 14 [.int v_3, .ref (x + 1), .ref (x + 2), .int ti, .int ra, .int (nI rt), .int ex, .int ad, .ref (x + 3), .ref (x + 4), .int me, .long se, .ref (x + 5), .int (nI fl), .int dr, .long ob, .long sa, .long sn, .long us, .ref (x + 6), .ref (x + 7), .int (nI pe), .ref (x + 8), .int (nI le), .ref (x + 9), .ref (x + 10), .int (nI qu), .ref (x + 11), .ref (x + 12), .ref (x + 13), .ref (x + 14), .ref (x + 15), .ref (x + 16), .int (nI n_4), .long v_4, .ref (x + 17), .ref (x + 18), .ref (x + 19), .ref (x + 20), .ref (x + 21), .ref (x + 22), .int (nI n_5), .ref (x + 23), .ref (x + 24), .int (nI tk), .ref (x + 25), .int (nI il), .int (nI nx), .int ec, .int ep, .int kn, .int (nI st), .int nu, .long va]) := h_6
    refine z_callV (As := [.int (nI n_3)]) (rest := []) B (r_effective G l Φ4 sz x rd nw cr tp tt sI sT pt ql fl pe le nx il qu kn ec nu va st ep ti ad ob ra rt ex sa us tk v_3 me dr se sn n_3 hx hI4 (show n_3 < 4 by omega) hnw) (cwV 1 B.1.2.2.2.2 gX12_effectiveFields_X12_effective rfl rfl rfl (by decide +kernel) ⟨Nat.le_of_ble_eq_true rfl, Nat.le_of_ble_eq_true rfl⟩) h_7 rfl rfl rfl rfl (Nat.le_of_ble_eq_true rfl) dX12_effectiveFields_32 ⟨Nat.le_of_ble_eq_true rfl, Nat.le_of_ble_eq_true rfl⟩ (fun r_4 Φ5 sz4 st4 hp4 hs4 => ?_)
    obtain ⟨⟨v_5, rfl⟩, hq4, hI5, hF4⟩ := hp4
    subst sz4
    replace hs4 : st4 = [.int v_5] := hs4
    subst st4
    replace hI5 : Im G x (rd, nw, cr, tp, tt, sI, sT, pt, ql, fl, pe, le, nx, il, qu, kn, ec, nu, va, st, ep, ti, ad, ob, ra, rt, ex, sa, us, tk, v_3, me, dr, se, sn) Φ5 := hI5
    exact z_ret_i B dX12_effectiveFields_35 ⟨⟨_, rfl⟩, rfl, ⟨v_3, hI5⟩, (fun b9 h9 => ((hF4 b9 (fun j9 h8 h7 => (show False from h7).elim)).trans ((hF3 b9 h9).trans ((hF1 b9 (fun j9 h8 h7 => (show False from h7).elim)).trans ((fset_fr hΦ1 (fun h8 => h9 (0) h8 (show 0 = 0 by decide))).trans rfl)))))⟩

theorem hu_X12_fieldAt_X12 : ∀ w ∈ u_ws RX12 TX12 54, w ∈ wsX12_fieldAt := fun _ h => List.mem_cons_of_mem _ (List.mem_append_left _ (List.mem_append_right _ (h)))

theorem hv_X12_fieldAt_1 : Cond.fieldLink RX12 1 "FlowExporterModel" (TX12 0).2.1 (TX12 0).2.2.1 ∈ wsX12_fieldAt := List.mem_cons_of_mem _ (List.mem_append_left _ (List.mem_append_left _ (List.mem_of_getElem? (i := 0) rfl)))

set_option maxHeartbeats 4000000 in
set_option maxRecDepth 100000 in
theorem r_fieldAt (G : EnvG) (l : Launch) (Φ : Hm) (sz x : Nat) (rd : (Nat → Int32) → Prop) (nw : (Nat → Int32) → Prop) (cr : (Nat → Int64) → Prop) (tp : (Nat → Int32) → Prop) (tt : (Nat → Int64) → Prop) (sI : (Nat → Int32) → Prop) (sT : (Nat → Int32) → Prop) (pt : (Nat → Int32) → Prop) (ql : (Nat → Int32) → Prop) (fl : Nat) (pe : Nat) (le : Nat) (nx : Nat) (il : Nat) (qu : Nat) (kn : Int32) (ec : Int32) (nu : Int32) (va : Int64) (st : Nat) (ep : Int32) (ti : Int32) (ad : Int32) (ob : Int64) (ra : Int32) (rt : Nat) (ex : Int32) (sa : Int64) (us : Int64) (tk : Nat) (th : Int32) (me : Int32) (dr : Int32) (se : Int64) (sn : Int64) (a : Int32) (b : Int32) (hx : G.2.2.2 ≤ x) (hI : Im G x (rd, nw, cr, tp, tt, sI, sT, pt, ql, fl, pe, le, nx, il, qu, kn, ec, nu, va, st, ep, ti, ad, ob, ra, rt, ex, sa, us, tk, th, me, dr, se, sn) Φ) (hnw : ∀ f9 : Nat → Int32, nw f9 → NN f9) : Ct G l yX12_fieldAt wsX12_fieldAt ({ frames := 2, cells := 0, slots := 0, locals := 46 }) 0 0 [.ref x, .int a, .int b] Φ sz (fun v Φ1 sz1 => (∃ r9 : Int32, v = some (.int r9)) ∧ sz1 = sz ∧ (∃ (th1 : Int32), Im G x (rd, nw, cr, tp, tt, sI, sT, pt, ql, fl, pe, le, nx, il, qu, kn, ec, nu, va, st, ep, ti, ad, ob, ra, rt, ex, sa, us, tk, th1, me, dr, se, sn) Φ1) ∧ Fr x (fun j9 => j9 = 0) Φ Φ1) := by
  refine Ct.of (cc := cX12_fieldAt) (maxL := 3) (ret := (some .int)) (by decide) rfl (Nat.le_of_ble_eq_true rfl) ?_
  intro p9 e9 s9 m9 w9 t9 k9 B
  show Z p9 l e9 _ s9 m9 _ w9 t9 k9 _ G 3 0 [(0, .ref x), (1, .int a), (2, .int b)] [] Φ sz 0 0
  refine z_aload_n B dX12_fieldAt_0 rfl 0 rfl ?_
  refine z_iconst (v := 0) B dX12_fieldAt_1 rfl ?_
  obtain ⟨n_1, v_1, n_2, h_1, b_13, b_1, b_2, b_3, b_4, b_5, b_6, b_7, b_8, b_9, b_10, b_11, b_12⟩ := im0 hI
  replace b_1 : 1 ≤ rt := b_1
  replace b_2 : rt ≤ 1024 := b_2
  replace b_3 : fl ≤ 12 := b_3
  replace b_4 : pe ≤ 24 := b_4
  replace b_5 : le ≤ 700 := b_5
  replace b_6 : qu ≤ 12 := b_6
  replace b_7 : n_1 ≤ 8 := b_7
  replace b_8 : n_2 ≤ 24 := b_8
  replace b_9 : tk ≤ 24 := b_9
  replace b_10 : il ≤ 700 := b_10
  replace b_11 : nx ≤ 701 := b_11
  replace b_12 : st ≤ 701 := b_12
  have h_2 : Φ x = some (o_ 14 [.int th, .ref (x + 1), .ref (x + 2), .int ti, .int ra, .int (nI rt), .int ex, .int ad, .ref (x + 3), .ref (x + 4), .int me, .long se, .ref (x + 5), .int (nI fl), .int dr, .long ob, .long sa, .long sn, .long us, .ref (x + 6), .ref (x + 7), .int (nI pe), .ref (x + 8), .int (nI le), .ref (x + 9), .ref (x + 10), .int (nI qu), .ref (x + 11), .ref (x + 12), .ref (x + 13), .ref (x + 14), .ref (x + 15), .ref (x + 16), .int (nI n_1), .long v_1, .ref (x + 17), .ref (x + 18), .ref (x + 19), .ref (x + 20), .ref (x + 21), .ref (x + 22), .int (nI n_2), .ref (x + 23), .ref (x + 24), .int (nI tk), .ref (x + 25), .int (nI il), .int (nI nx), .int ec, .int ep, .int kn, .int (nI st), .int nu, .long va]) := h_1
  refine z_put (ref := "FlowExporterModel") (C := RX12) (T := TX12) (N := 54) (ci := 14) (v := .int 0) B hu_X12_fieldAt_X12 tyX12 tyX12_ok nmX12 rfl 0 (Nat.le_of_ble_eq_true rfl) hv_X12_fieldAt_1 rfl (Or.inl rfl) h_2 hx rfl rfl (Nat.le_of_ble_eq_true rfl) dX12_fieldAt_2 (fun Φ1 hΦ1 => ?_)
  have h_3 : Φ1 x = some (o_ 14 [.int 0, .ref (x + 1), .ref (x + 2), .int ti, .int ra, .int (nI rt), .int ex, .int ad, .ref (x + 3), .ref (x + 4), .int me, .long se, .ref (x + 5), .int (nI fl), .int dr, .long ob, .long sa, .long sn, .long us, .ref (x + 6), .ref (x + 7), .int (nI pe), .ref (x + 8), .int (nI le), .ref (x + 9), .ref (x + 10), .int (nI qu), .ref (x + 11), .ref (x + 12), .ref (x + 13), .ref (x + 14), .ref (x + 15), .ref (x + 16), .int (nI n_1), .long v_1, .ref (x + 17), .ref (x + 18), .ref (x + 19), .ref (x + 20), .ref (x + 21), .ref (x + 22), .int (nI n_2), .ref (x + 23), .ref (x + 24), .int (nI tk), .ref (x + 25), .int (nI il), .int (nI nx), .int ec, .int ep, .int kn, .int (nI st), .int nu, .long va]) := fset_at hΦ1
  have hI1 : Im G x (rd, nw, cr, tp, tt, sI, sT, pt, ql, fl, pe, le, nx, il, qu, kn, ec, nu, va, st, ep, ti, ad, ob, ra, rt, ex, sa, us, tk, 0, me, dr, se, sn) Φ1 := Im.put0 hI hΦ1 ⟨n_1, v_1, n_2, rfl, b_13, b_1, b_2, b_3, b_4, b_5, b_6, b_7, b_8, b_9, b_10, b_11, b_12⟩
  refine z_aload_n B dX12_fieldAt_5 rfl 0 rfl ?_
  refine z_aload_n B dX12_fieldAt_6 rfl 0 rfl ?_
  refine z_iload_n B dX12_fieldAt_7 rfl 1 rfl ?_
  refine z_callV (As := [.int a]) (rest := [.ref x]) B (r_isTemplate G l Φ1 sz x rd nw cr tp tt sI sT pt ql fl pe le nx il qu kn ec nu va st ep ti ad ob ra rt ex sa us tk 0 me dr se sn a hx hI1 hnw) (cwV 1 B.1.2.2.2.2 gX12_fieldAt_X12_isTemplate rfl rfl rfl (by decide +kernel) ⟨Nat.le_of_ble_eq_true rfl, Nat.le_of_ble_eq_true rfl⟩) h_3 rfl rfl rfl rfl (Nat.le_of_ble_eq_true rfl) dX12_fieldAt_8 ⟨Nat.le_of_ble_eq_true rfl, Nat.le_of_ble_eq_true rfl⟩ (fun r_1 Φ2 sz1 st1 hp1 hs1 => ?_)
  obtain ⟨ha1, hq1, hI2, hF1⟩ := hp1
  subst sz1
  replace hI2 : Im G x (rd, nw, cr, tp, tt, sI, sT, pt, ql, fl, pe, le, nx, il, qu, kn, ec, nu, va, st, ep, ti, ad, ob, ra, rt, ex, sa, us, tk, 0, me, dr, se, sn) Φ2 := hI2
  rcases ha1 with rfl | ⟨rfl, n_3, b_14, rfl⟩
  · replace hs1 : st1 = [.int 0, .ref x] := hs1
    subst st1
    refine z_if_ne (tgt := 18) B dX12_fieldAt_11 rfl (fun h9 => absurd (by decide) h9) (fun c_1 => ?_)
    refine z_iconst (v := 1) B dX12_fieldAt_14 rfl ?_
    refine z_goto (tgt := 19) B dX12_fieldAt_15 rfl ?_
    refine z_iconst (v := 1) B dX12_fieldAt_19 rfl ?_
    have h_4 : Φ2 x = some (o_ 14 [.int 0, .ref (x + 1), .ref (x + 2), .int ti, .int ra, .int (nI rt), .int ex, .int ad, .ref (x + 3), .ref (x + 4), .int me, .long se, .ref (x + 5), .int (nI fl), .int dr, .long ob, .long sa, .long sn, .long us, .ref (x + 6), .ref (x + 7), .int (nI pe), .ref (x + 8), .int (nI le), .ref (x + 9), .ref (x + 10), .int (nI qu), .ref (x + 11), .ref (x + 12), .ref (x + 13), .ref (x + 14), .ref (x + 15), .ref (x + 16), .int (nI n_1), .long v_1, .ref (x + 17), .ref (x + 18), .ref (x + 19), .ref (x + 20), .ref (x + 21), .ref (x + 22), .int (nI n_2), .ref (x + 23), .ref (x + 24), .int (nI tk), .ref (x + 25), .int (nI il), .int (nI nx), .int ec, .int ep, .int kn, .int (nI st), .int nu, .long va]) := ((hF1 x (fun j9 h8 h7 => (show False from h7).elim)).trans h_3)
    refine z_callV (As := [.int 1, .int 1]) (rest := []) B (r_throwsIf G l Φ2 sz x rd nw cr tp tt sI sT pt ql fl pe le nx il qu kn ec nu va st ep ti ad ob ra rt ex sa us tk 0 me dr se sn 1 1 hx hI2 (by decide) hnw) (cwV 2 B.1.2.2.2.2 gX12_fieldAt_X12_throwsIf rfl rfl rfl (by decide +kernel) ⟨Nat.le_of_ble_eq_true rfl, Nat.le_of_ble_eq_true rfl⟩) h_4 rfl rfl rfl rfl (Nat.le_of_ble_eq_true rfl) dX12_fieldAt_20 ⟨Nat.le_of_ble_eq_true rfl, Nat.le_of_ble_eq_true rfl⟩ (fun r_2 Φ3 sz2 st2 hp2 hs2 => ?_)
    obtain ⟨rfl, hq2, ⟨v_2, hI3⟩, hF2⟩ := hp2
    subst sz2
    replace hs2 : st2 = [.int 1] := hs2
    subst st2
    replace hI3 : Im G x (rd, nw, cr, tp, tt, sI, sT, pt, ql, fl, pe, le, nx, il, qu, kn, ec, nu, va, st, ep, ti, ad, ob, ra, rt, ex, sa, us, tk, v_2, me, dr, se, sn) Φ3 := hI3
    refine z_if_eq (tgt := 30) B dX12_fieldAt_23 rfl (fun h9 => absurd h9 (by decide)) (fun c_2 => ?_)
    refine z_iconst (v := 0) B dX12_fieldAt_26 rfl ?_
    refine z_goto (tgt := 57) B dX12_fieldAt_27 rfl ?_
    exact z_ret_i B dX12_fieldAt_57 ⟨⟨_, rfl⟩, rfl, ⟨v_2, hI3⟩, (fun b9 h9 => ((hF2 b9 h9).trans ((hF1 b9 (fun j9 h8 h7 => (show False from h7).elim)).trans ((fset_fr hΦ1 (fun h8 => h9 (0) h8 (show 0 = 0 by decide))).trans rfl))))⟩
  · replace hs1 : st1 = [.int 1, .ref x] := hs1
    subst st1
    replace b_14 : n_3 < 4 := b_14
    refine z_if_ne (tgt := 18) B dX12_fieldAt_11 rfl (fun c_3 => ?_) (fun h9 => absurd h9 (by decide))
    refine z_iconst (v := 0) B dX12_fieldAt_18 rfl ?_
    refine z_iconst (v := 1) B dX12_fieldAt_19 rfl ?_
    have h_5 : Φ2 x = some (o_ 14 [.int 0, .ref (x + 1), .ref (x + 2), .int ti, .int ra, .int (nI rt), .int ex, .int ad, .ref (x + 3), .ref (x + 4), .int me, .long se, .ref (x + 5), .int (nI fl), .int dr, .long ob, .long sa, .long sn, .long us, .ref (x + 6), .ref (x + 7), .int (nI pe), .ref (x + 8), .int (nI le), .ref (x + 9), .ref (x + 10), .int (nI qu), .ref (x + 11), .ref (x + 12), .ref (x + 13), .ref (x + 14), .ref (x + 15), .ref (x + 16), .int (nI n_1), .long v_1, .ref (x + 17), .ref (x + 18), .ref (x + 19), .ref (x + 20), .ref (x + 21), .ref (x + 22), .int (nI n_2), .ref (x + 23), .ref (x + 24), .int (nI tk), .ref (x + 25), .int (nI il), .int (nI nx), .int ec, .int ep, .int kn, .int (nI st), .int nu, .long va]) := ((hF1 x (fun j9 h8 h7 => (show False from h7).elim)).trans h_3)
    refine z_callV (As := [.int 0, .int 1]) (rest := []) B (r_throwsIf G l Φ2 sz x rd nw cr tp tt sI sT pt ql fl pe le nx il qu kn ec nu va st ep ti ad ob ra rt ex sa us tk 0 me dr se sn 0 1 hx hI2 (by decide) hnw) (cwV 2 B.1.2.2.2.2 gX12_fieldAt_X12_throwsIf rfl rfl rfl (by decide +kernel) ⟨Nat.le_of_ble_eq_true rfl, Nat.le_of_ble_eq_true rfl⟩) h_5 rfl rfl rfl rfl (Nat.le_of_ble_eq_true rfl) dX12_fieldAt_20 ⟨Nat.le_of_ble_eq_true rfl, Nat.le_of_ble_eq_true rfl⟩ (fun r_3 Φ4 sz3 st3 hp3 hs3 => ?_)
    obtain ⟨rfl, hq3, ⟨v_3, hI4⟩, hF3⟩ := hp3
    subst sz3
    replace hs3 : st3 = [.int 0] := hs3
    subst st3
    replace hI4 : Im G x (rd, nw, cr, tp, tt, sI, sT, pt, ql, fl, pe, le, nx, il, qu, kn, ec, nu, va, st, ep, ti, ad, ob, ra, rt, ex, sa, us, tk, v_3, me, dr, se, sn) Φ4 := hI4
    refine z_if_eq (tgt := 30) B dX12_fieldAt_23 rfl (fun c_4 => ?_) (fun h9 => absurd (by decide) h9)
    refine z_iload_n B dX12_fieldAt_30 rfl 2 rfl ?_
    refine z_i2l (v := b.toInt64) B dX12_fieldAt_31 rfl ?_
    refine z_lconst (v := 0) B dX12_fieldAt_32 rfl ?_
    refine z_aload_n B dX12_fieldAt_33 rfl 0 rfl ?_
    refine z_iload_n B dX12_fieldAt_34 rfl 1 rfl ?_
    obtain ⟨n_4, v_4, n_5, h_6, b_27, b_15, b_16, b_17, b_18, b_19, b_20, b_21, b_22, b_23, b_24, b_25, b_26⟩ := im0 hI4
    replace b_15 : 1 ≤ rt := b_15
    replace b_16 : rt ≤ 1024 := b_16
    replace b_17 : fl ≤ 12 := b_17
    replace b_18 : pe ≤ 24 := b_18
    replace b_19 : le ≤ 700 := b_19
    replace b_20 : qu ≤ 12 := b_20
    replace b_21 : n_4 ≤ 8 := b_21
    replace b_22 : n_5 ≤ 24 := b_22
    replace b_23 : tk ≤ 24 := b_23
    replace b_24 : il ≤ 700 := b_24
    replace b_25 : nx ≤ 701 := b_25
    replace b_26 : st ≤ 701 := b_26
    have h_7 : Φ4 x = some (o_ 14 [.int v_3, .ref (x + 1), .ref (x + 2), .int ti, .int ra, .int (nI rt), .int ex, .int ad, .ref (x + 3), .ref (x + 4), .int me, .long se, .ref (x + 5), .int (nI fl), .int dr, .long ob, .long sa, .long sn, .long us, .ref (x + 6), .ref (x + 7), .int (nI pe), .ref (x + 8), .int (nI le), .ref (x + 9), .ref (x + 10), .int (nI qu), .ref (x + 11), .ref (x + 12), .ref (x + 13), .ref (x + 14), .ref (x + 15), .ref (x + 16), .int (nI n_4), .long v_4, .ref (x + 17), .ref (x + 18), .ref (x + 19), .ref (x + 20), .ref (x + 21), .ref (x + 22), .int (nI n_5), .ref (x + 23), .ref (x + 24), .int (nI tk), .ref (x + 25), .int (nI il), .int (nI nx), .int ec, .int ep, .int kn, .int (nI st), .int nu, .long va]) := h_6
    refine z_callV (As := [.int (nI n_3)]) (rest := [.long 0, .long b.toInt64]) B (r_sizeOf G l Φ4 sz x rd nw cr tp tt sI sT pt ql fl pe le nx il qu kn ec nu va st ep ti ad ob ra rt ex sa us tk v_3 me dr se sn n_3 hx hI4 (show n_3 < 4 by omega) hnw) (cwV 1 B.1.2.2.2.2 gX12_fieldAt_X12_sizeOf rfl rfl rfl (by decide +kernel) ⟨Nat.le_of_ble_eq_true rfl, Nat.le_of_ble_eq_true rfl⟩) h_7 rfl rfl rfl rfl (Nat.le_of_ble_eq_true rfl) dX12_fieldAt_35 ⟨Nat.le_of_ble_eq_true rfl, Nat.le_of_ble_eq_true rfl⟩ (fun r_4 Φ5 sz4 st4 hp4 hs4 => ?_)
    obtain ⟨⟨n_6, rfl, b_28⟩, hq4, hI5, hF4⟩ := hp4
    subst sz4
    replace hs4 : st4 = [.int (nI n_6), .long 0, .long b.toInt64] := hs4
    subst st4
    replace b_28 : n_6 ≤ 9 := b_28
    replace hI5 : Im G x (rd, nw, cr, tp, tt, sI, sT, pt, ql, fl, pe, le, nx, il, qu, kn, ec, nu, va, st, ep, ti, ad, ob, ra, rt, ex, sa, us, tk, v_3, me, dr, se, sn) Φ5 := hI5
    refine z_iconst (v := 1) B dX12_fieldAt_38 rfl ?_
    refine z_isub B dX12_fieldAt_39 ?_
    refine z_i2l (v := (nI n_6 - 1).toInt64) B dX12_fieldAt_40 rfl ?_
    by_cases hR1 : inP b.toInt64 0 ((nI n_6 - 1).toInt64)
    · obtain ⟨n_7, e_1, e_2, e_3, rfl⟩ := in_get (L := 0) (H := ((n_6 : Nat) : Int) - 1) (by decide) (predL (by omega)) hR1
      refine z_callS (As := [.long ((nI n_7).toInt64), .long 0, .long ((nI n_6 - 1).toInt64)]) (rest := []) B (c_inR1 G l Φ5 sz ((nI n_7).toInt64) 0 ((nI n_6 - 1).toInt64) hR1 (fun v8 Φ8 sz8 => v8 = some (.int 1) ∧ sz8 = sz ∧ Im G x (rd, nw, cr, tp, tt, sI, sT, pt, ql, fl, pe, le, nx, il, qu, kn, ec, nu, va, st, ep, ti, ad, ob, ra, rt, ex, sa, us, tk, v_3, me, dr, se, sn) Φ8 ∧ Fr x (fun j9 => False) Φ5 Φ8) ⟨rfl, rfl, hI5, fun _ _ => rfl⟩) (va_cwS 3 B.1.2.2.2.2 gX12_fieldAt_X12_inRange rfl rfl rfl (by decide +kernel) ⟨Nat.le_of_ble_eq_true rfl, Nat.le_of_ble_eq_true rfl⟩) rfl rfl (Nat.le_of_ble_eq_true rfl) dX12_fieldAt_41 ⟨Nat.le_of_ble_eq_true rfl, Nat.le_of_ble_eq_true rfl⟩ (fun r_5 Φ6 sz5 st5 hp5 hs5 => ?_)
      obtain ⟨rfl, hq5, hI6, hF5⟩ := hp5
      subst sz5
      replace hs5 : st5 = [.int 1] := hs5
      subst st5
      refine z_if_eq (tgt := 56) B dX12_fieldAt_44 rfl (fun h9 => absurd h9 (by decide)) (fun c_5 => ?_)
      refine z_aload_n B dX12_fieldAt_47 rfl 0 rfl ?_
      refine z_iload_n B dX12_fieldAt_48 rfl 1 rfl ?_
      refine z_iload_n B dX12_fieldAt_49 rfl 2 rfl ?_
      have h_8 : Φ6 x = some (o_ 14 [.int v_3, .ref (x + 1), .ref (x + 2), .int ti, .int ra, .int (nI rt), .int ex, .int ad, .ref (x + 3), .ref (x + 4), .int me, .long se, .ref (x + 5), .int (nI fl), .int dr, .long ob, .long sa, .long sn, .long us, .ref (x + 6), .ref (x + 7), .int (nI pe), .ref (x + 8), .int (nI le), .ref (x + 9), .ref (x + 10), .int (nI qu), .ref (x + 11), .ref (x + 12), .ref (x + 13), .ref (x + 14), .ref (x + 15), .ref (x + 16), .int (nI n_4), .long v_4, .ref (x + 17), .ref (x + 18), .ref (x + 19), .ref (x + 20), .ref (x + 21), .ref (x + 22), .int (nI n_5), .ref (x + 23), .ref (x + 24), .int (nI tk), .ref (x + 25), .int (nI il), .int (nI nx), .int ec, .int ep, .int kn, .int (nI st), .int nu, .long va]) := ((hF5 x (fun j9 h8 h7 => (show False from h7).elim)).trans ((hF4 x (fun j9 h8 h7 => (show False from h7).elim)).trans h_7))
      refine z_callV (As := [.int (nI n_3), .int (nI n_7)]) (rest := []) B (r_fieldOf G l Φ6 sz x rd nw cr tp tt sI sT pt ql fl pe le nx il qu kn ec nu va st ep ti ad ob ra rt ex sa us tk v_3 me dr se sn n_3 n_7 hx hI6 (show n_3 < 4 by omega) (show n_7 < 9 by omega) hnw) (cwV 2 B.1.2.2.2.2 gX12_fieldAt_X12_fieldOf rfl rfl rfl (by decide +kernel) ⟨Nat.le_of_ble_eq_true rfl, Nat.le_of_ble_eq_true rfl⟩) h_8 rfl rfl rfl rfl (Nat.le_of_ble_eq_true rfl) dX12_fieldAt_50 ⟨Nat.le_of_ble_eq_true rfl, Nat.le_of_ble_eq_true rfl⟩ (fun r_6 Φ7 sz6 st6 hp6 hs6 => ?_)
      obtain ⟨⟨n_8, rfl, b_29⟩, hq6, hI7, hF6⟩ := hp6
      subst sz6
      replace hs6 : st6 = [.int (nI n_8)] := hs6
      subst st6
      replace b_29 : n_8 ≤ 8 := b_29
      replace hI7 : Im G x (rd, nw, cr, tp, tt, sI, sT, pt, ql, fl, pe, le, nx, il, qu, kn, ec, nu, va, st, ep, ti, ad, ob, ra, rt, ex, sa, us, tk, v_3, me, dr, se, sn) Φ7 := hI7
      refine z_goto (tgt := 57) B dX12_fieldAt_53 rfl ?_
      exact z_ret_i B dX12_fieldAt_57 ⟨⟨_, rfl⟩, rfl, ⟨v_3, hI7⟩, (fun b9 h9 => ((hF6 b9 (fun j9 h8 h7 => (show False from h7).elim)).trans ((hF5 b9 (fun j9 h8 h7 => (show False from h7).elim)).trans ((hF4 b9 (fun j9 h8 h7 => (show False from h7).elim)).trans ((hF3 b9 h9).trans ((hF1 b9 (fun j9 h8 h7 => (show False from h7).elim)).trans ((fset_fr hΦ1 (fun h8 => h9 (0) h8 (show 0 = 0 by decide))).trans rfl)))))))⟩
    · refine z_callS (As := [.long b.toInt64, .long 0, .long ((nI n_6 - 1).toInt64)]) (rest := []) B (c_inR0 G l Φ5 sz b.toInt64 0 ((nI n_6 - 1).toInt64) hR1 (fun v8 Φ8 sz8 => v8 = some (.int 0) ∧ sz8 = sz ∧ Im G x (rd, nw, cr, tp, tt, sI, sT, pt, ql, fl, pe, le, nx, il, qu, kn, ec, nu, va, st, ep, ti, ad, ob, ra, rt, ex, sa, us, tk, v_3, me, dr, se, sn) Φ8 ∧ Fr x (fun j9 => False) Φ5 Φ8) ⟨rfl, rfl, hI5, fun _ _ => rfl⟩) (va_cwS 3 B.1.2.2.2.2 gX12_fieldAt_X12_inRange rfl rfl rfl (by decide +kernel) ⟨Nat.le_of_ble_eq_true rfl, Nat.le_of_ble_eq_true rfl⟩) rfl rfl (Nat.le_of_ble_eq_true rfl) dX12_fieldAt_41 ⟨Nat.le_of_ble_eq_true rfl, Nat.le_of_ble_eq_true rfl⟩ (fun r_7 Φ8 sz7 st7 hp7 hs7 => ?_)
      obtain ⟨rfl, hq7, hI8, hF7⟩ := hp7
      subst sz7
      replace hs7 : st7 = [.int 0] := hs7
      subst st7
      refine z_if_eq (tgt := 56) B dX12_fieldAt_44 rfl (fun c_6 => ?_) (fun h9 => absurd (by decide) h9)
      refine z_iconst (v := (-1)) B dX12_fieldAt_56 rfl ?_
      exact z_ret_i B dX12_fieldAt_57 ⟨⟨_, rfl⟩, rfl, ⟨v_3, hI8⟩, (fun b9 h9 => ((hF7 b9 (fun j9 h8 h7 => (show False from h7).elim)).trans ((hF4 b9 (fun j9 h8 h7 => (show False from h7).elim)).trans ((hF3 b9 h9).trans ((hF1 b9 (fun j9 h8 h7 => (show False from h7).elim)).trans ((fset_fr hΦ1 (fun h8 => h9 (0) h8 (show 0 = 0 by decide))).trans rfl))))))⟩

theorem hu_X12_recordLength_X12 : ∀ w ∈ u_ws RX12 TX12 54, w ∈ wsX12_recordLength := fun _ h => List.mem_cons_of_mem _ (List.mem_append_left _ (List.mem_append_right _ (h)))

theorem hv_X12_recordLength_1 : Cond.fieldLink RX12 1 "FlowExporterModel" (TX12 0).2.1 (TX12 0).2.2.1 ∈ wsX12_recordLength := List.mem_cons_of_mem _ (List.mem_append_left _ (List.mem_append_left _ (List.mem_append_left _ (List.mem_of_getElem? (i := 0) rfl))))

set_option maxHeartbeats 4000000 in
set_option maxRecDepth 100000 in
theorem r_recordLength (G : EnvG) (l : Launch) (Φ : Hm) (sz x : Nat) (rd : (Nat → Int32) → Prop) (nw : (Nat → Int32) → Prop) (cr : (Nat → Int64) → Prop) (tp : (Nat → Int32) → Prop) (tt : (Nat → Int64) → Prop) (sI : (Nat → Int32) → Prop) (sT : (Nat → Int32) → Prop) (pt : (Nat → Int32) → Prop) (ql : (Nat → Int32) → Prop) (fl : Nat) (pe : Nat) (le : Nat) (nx : Nat) (il : Nat) (qu : Nat) (kn : Int32) (ec : Int32) (nu : Int32) (va : Int64) (st : Nat) (ep : Int32) (ti : Int32) (ad : Int32) (ob : Int64) (ra : Int32) (rt : Nat) (ex : Int32) (sa : Int64) (us : Int64) (tk : Nat) (th : Int32) (me : Int32) (dr : Int32) (se : Int64) (sn : Int64) (a : Int32) (hx : G.2.2.2 ≤ x) (hI : Im G x (rd, nw, cr, tp, tt, sI, sT, pt, ql, fl, pe, le, nx, il, qu, kn, ec, nu, va, st, ep, ti, ad, ob, ra, rt, ex, sa, us, tk, th, me, dr, se, sn) Φ) (hnw : ∀ f9 : Nat → Int32, nw f9 → NN f9) : Ct G l yX12_recordLength wsX12_recordLength ({ frames := 4, cells := 0, slots := 0, locals := 89 }) 0 0 [.ref x, .int a] Φ sz (fun v Φ1 sz1 => (∃ r9 : Int32, v = some (.int r9)) ∧ sz1 = sz ∧ (∃ (th1 : Int32), Im G x (rd, nw, cr, tp, tt, sI, sT, pt, ql, fl, pe, le, nx, il, qu, kn, ec, nu, va, st, ep, ti, ad, ob, ra, rt, ex, sa, us, tk, th1, me, dr, se, sn) Φ1) ∧ Fr x (fun j9 => j9 = 0) Φ Φ1) := by
  refine Ct.of (cc := cX12_recordLength) (maxL := 2) (ret := (some .int)) (by decide) rfl (Nat.le_of_ble_eq_true rfl) ?_
  intro p9 e9 s9 m9 w9 t9 k9 B
  show Z p9 l e9 _ s9 m9 _ w9 t9 k9 _ G 2 0 [(0, .ref x), (1, .int a)] [] Φ sz 0 0
  refine z_aload_n B dX12_recordLength_0 rfl 0 rfl ?_
  refine z_iconst (v := 0) B dX12_recordLength_1 rfl ?_
  obtain ⟨n_1, v_1, n_2, h_1, b_13, b_1, b_2, b_3, b_4, b_5, b_6, b_7, b_8, b_9, b_10, b_11, b_12⟩ := im0 hI
  replace b_1 : 1 ≤ rt := b_1
  replace b_2 : rt ≤ 1024 := b_2
  replace b_3 : fl ≤ 12 := b_3
  replace b_4 : pe ≤ 24 := b_4
  replace b_5 : le ≤ 700 := b_5
  replace b_6 : qu ≤ 12 := b_6
  replace b_7 : n_1 ≤ 8 := b_7
  replace b_8 : n_2 ≤ 24 := b_8
  replace b_9 : tk ≤ 24 := b_9
  replace b_10 : il ≤ 700 := b_10
  replace b_11 : nx ≤ 701 := b_11
  replace b_12 : st ≤ 701 := b_12
  have h_2 : Φ x = some (o_ 14 [.int th, .ref (x + 1), .ref (x + 2), .int ti, .int ra, .int (nI rt), .int ex, .int ad, .ref (x + 3), .ref (x + 4), .int me, .long se, .ref (x + 5), .int (nI fl), .int dr, .long ob, .long sa, .long sn, .long us, .ref (x + 6), .ref (x + 7), .int (nI pe), .ref (x + 8), .int (nI le), .ref (x + 9), .ref (x + 10), .int (nI qu), .ref (x + 11), .ref (x + 12), .ref (x + 13), .ref (x + 14), .ref (x + 15), .ref (x + 16), .int (nI n_1), .long v_1, .ref (x + 17), .ref (x + 18), .ref (x + 19), .ref (x + 20), .ref (x + 21), .ref (x + 22), .int (nI n_2), .ref (x + 23), .ref (x + 24), .int (nI tk), .ref (x + 25), .int (nI il), .int (nI nx), .int ec, .int ep, .int kn, .int (nI st), .int nu, .long va]) := h_1
  refine z_put (ref := "FlowExporterModel") (C := RX12) (T := TX12) (N := 54) (ci := 14) (v := .int 0) B hu_X12_recordLength_X12 tyX12 tyX12_ok nmX12 rfl 0 (Nat.le_of_ble_eq_true rfl) hv_X12_recordLength_1 rfl (Or.inl rfl) h_2 hx rfl rfl (Nat.le_of_ble_eq_true rfl) dX12_recordLength_2 (fun Φ1 hΦ1 => ?_)
  have h_3 : Φ1 x = some (o_ 14 [.int 0, .ref (x + 1), .ref (x + 2), .int ti, .int ra, .int (nI rt), .int ex, .int ad, .ref (x + 3), .ref (x + 4), .int me, .long se, .ref (x + 5), .int (nI fl), .int dr, .long ob, .long sa, .long sn, .long us, .ref (x + 6), .ref (x + 7), .int (nI pe), .ref (x + 8), .int (nI le), .ref (x + 9), .ref (x + 10), .int (nI qu), .ref (x + 11), .ref (x + 12), .ref (x + 13), .ref (x + 14), .ref (x + 15), .ref (x + 16), .int (nI n_1), .long v_1, .ref (x + 17), .ref (x + 18), .ref (x + 19), .ref (x + 20), .ref (x + 21), .ref (x + 22), .int (nI n_2), .ref (x + 23), .ref (x + 24), .int (nI tk), .ref (x + 25), .int (nI il), .int (nI nx), .int ec, .int ep, .int kn, .int (nI st), .int nu, .long va]) := fset_at hΦ1
  have hI1 : Im G x (rd, nw, cr, tp, tt, sI, sT, pt, ql, fl, pe, le, nx, il, qu, kn, ec, nu, va, st, ep, ti, ad, ob, ra, rt, ex, sa, us, tk, 0, me, dr, se, sn) Φ1 := Im.put0 hI hΦ1 ⟨n_1, v_1, n_2, rfl, b_13, b_1, b_2, b_3, b_4, b_5, b_6, b_7, b_8, b_9, b_10, b_11, b_12⟩
  refine z_aload_n B dX12_recordLength_5 rfl 0 rfl ?_
  refine z_aload_n B dX12_recordLength_6 rfl 0 rfl ?_
  refine z_iload_n B dX12_recordLength_7 rfl 1 rfl ?_
  refine z_callV (As := [.int a]) (rest := [.ref x]) B (r_isTemplate G l Φ1 sz x rd nw cr tp tt sI sT pt ql fl pe le nx il qu kn ec nu va st ep ti ad ob ra rt ex sa us tk 0 me dr se sn a hx hI1 hnw) (cwV 1 B.1.2.2.2.2 gX12_recordLength_X12_isTemplate rfl rfl rfl (by decide +kernel) ⟨Nat.le_of_ble_eq_true rfl, Nat.le_of_ble_eq_true rfl⟩) h_3 rfl rfl rfl rfl (Nat.le_of_ble_eq_true rfl) dX12_recordLength_8 ⟨Nat.le_of_ble_eq_true rfl, Nat.le_of_ble_eq_true rfl⟩ (fun r_1 Φ2 sz1 st1 hp1 hs1 => ?_)
  obtain ⟨ha1, hq1, hI2, hF1⟩ := hp1
  subst sz1
  replace hI2 : Im G x (rd, nw, cr, tp, tt, sI, sT, pt, ql, fl, pe, le, nx, il, qu, kn, ec, nu, va, st, ep, ti, ad, ob, ra, rt, ex, sa, us, tk, 0, me, dr, se, sn) Φ2 := hI2
  rcases ha1 with rfl | ⟨rfl, n_3, b_14, rfl⟩
  · replace hs1 : st1 = [.int 0, .ref x] := hs1
    subst st1
    refine z_if_ne (tgt := 18) B dX12_recordLength_11 rfl (fun h9 => absurd (by decide) h9) (fun c_1 => ?_)
    refine z_iconst (v := 1) B dX12_recordLength_14 rfl ?_
    refine z_goto (tgt := 19) B dX12_recordLength_15 rfl ?_
    refine z_iconst (v := 1) B dX12_recordLength_19 rfl ?_
    have h_4 : Φ2 x = some (o_ 14 [.int 0, .ref (x + 1), .ref (x + 2), .int ti, .int ra, .int (nI rt), .int ex, .int ad, .ref (x + 3), .ref (x + 4), .int me, .long se, .ref (x + 5), .int (nI fl), .int dr, .long ob, .long sa, .long sn, .long us, .ref (x + 6), .ref (x + 7), .int (nI pe), .ref (x + 8), .int (nI le), .ref (x + 9), .ref (x + 10), .int (nI qu), .ref (x + 11), .ref (x + 12), .ref (x + 13), .ref (x + 14), .ref (x + 15), .ref (x + 16), .int (nI n_1), .long v_1, .ref (x + 17), .ref (x + 18), .ref (x + 19), .ref (x + 20), .ref (x + 21), .ref (x + 22), .int (nI n_2), .ref (x + 23), .ref (x + 24), .int (nI tk), .ref (x + 25), .int (nI il), .int (nI nx), .int ec, .int ep, .int kn, .int (nI st), .int nu, .long va]) := ((hF1 x (fun j9 h8 h7 => (show False from h7).elim)).trans h_3)
    refine z_callV (As := [.int 1, .int 1]) (rest := []) B (r_throwsIf G l Φ2 sz x rd nw cr tp tt sI sT pt ql fl pe le nx il qu kn ec nu va st ep ti ad ob ra rt ex sa us tk 0 me dr se sn 1 1 hx hI2 (by decide) hnw) (cwV 2 B.1.2.2.2.2 gX12_recordLength_X12_throwsIf rfl rfl rfl (by decide +kernel) ⟨Nat.le_of_ble_eq_true rfl, Nat.le_of_ble_eq_true rfl⟩) h_4 rfl rfl rfl rfl (Nat.le_of_ble_eq_true rfl) dX12_recordLength_20 ⟨Nat.le_of_ble_eq_true rfl, Nat.le_of_ble_eq_true rfl⟩ (fun r_2 Φ3 sz2 st2 hp2 hs2 => ?_)
    obtain ⟨rfl, hq2, ⟨v_2, hI3⟩, hF2⟩ := hp2
    subst sz2
    replace hs2 : st2 = [.int 1] := hs2
    subst st2
    replace hI3 : Im G x (rd, nw, cr, tp, tt, sI, sT, pt, ql, fl, pe, le, nx, il, qu, kn, ec, nu, va, st, ep, ti, ad, ob, ra, rt, ex, sa, us, tk, v_2, me, dr, se, sn) Φ3 := hI3
    refine z_if_eq (tgt := 30) B dX12_recordLength_23 rfl (fun h9 => absurd h9 (by decide)) (fun c_2 => ?_)
    refine z_iconst (v := 0) B dX12_recordLength_26 rfl ?_
    refine z_goto (tgt := 35) B dX12_recordLength_27 rfl ?_
    exact z_ret_i B dX12_recordLength_35 ⟨⟨_, rfl⟩, rfl, ⟨v_2, hI3⟩, (fun b9 h9 => ((hF2 b9 h9).trans ((hF1 b9 (fun j9 h8 h7 => (show False from h7).elim)).trans ((fset_fr hΦ1 (fun h8 => h9 (0) h8 (show 0 = 0 by decide))).trans rfl))))⟩
  · replace hs1 : st1 = [.int 1, .ref x] := hs1
    subst st1
    replace b_14 : n_3 < 4 := b_14
    refine z_if_ne (tgt := 18) B dX12_recordLength_11 rfl (fun c_3 => ?_) (fun h9 => absurd h9 (by decide))
    refine z_iconst (v := 0) B dX12_recordLength_18 rfl ?_
    refine z_iconst (v := 1) B dX12_recordLength_19 rfl ?_
    have h_5 : Φ2 x = some (o_ 14 [.int 0, .ref (x + 1), .ref (x + 2), .int ti, .int ra, .int (nI rt), .int ex, .int ad, .ref (x + 3), .ref (x + 4), .int me, .long se, .ref (x + 5), .int (nI fl), .int dr, .long ob, .long sa, .long sn, .long us, .ref (x + 6), .ref (x + 7), .int (nI pe), .ref (x + 8), .int (nI le), .ref (x + 9), .ref (x + 10), .int (nI qu), .ref (x + 11), .ref (x + 12), .ref (x + 13), .ref (x + 14), .ref (x + 15), .ref (x + 16), .int (nI n_1), .long v_1, .ref (x + 17), .ref (x + 18), .ref (x + 19), .ref (x + 20), .ref (x + 21), .ref (x + 22), .int (nI n_2), .ref (x + 23), .ref (x + 24), .int (nI tk), .ref (x + 25), .int (nI il), .int (nI nx), .int ec, .int ep, .int kn, .int (nI st), .int nu, .long va]) := ((hF1 x (fun j9 h8 h7 => (show False from h7).elim)).trans h_3)
    refine z_callV (As := [.int 0, .int 1]) (rest := []) B (r_throwsIf G l Φ2 sz x rd nw cr tp tt sI sT pt ql fl pe le nx il qu kn ec nu va st ep ti ad ob ra rt ex sa us tk 0 me dr se sn 0 1 hx hI2 (by decide) hnw) (cwV 2 B.1.2.2.2.2 gX12_recordLength_X12_throwsIf rfl rfl rfl (by decide +kernel) ⟨Nat.le_of_ble_eq_true rfl, Nat.le_of_ble_eq_true rfl⟩) h_5 rfl rfl rfl rfl (Nat.le_of_ble_eq_true rfl) dX12_recordLength_20 ⟨Nat.le_of_ble_eq_true rfl, Nat.le_of_ble_eq_true rfl⟩ (fun r_3 Φ4 sz3 st3 hp3 hs3 => ?_)
    obtain ⟨rfl, hq3, ⟨v_3, hI4⟩, hF3⟩ := hp3
    subst sz3
    replace hs3 : st3 = [.int 0] := hs3
    subst st3
    replace hI4 : Im G x (rd, nw, cr, tp, tt, sI, sT, pt, ql, fl, pe, le, nx, il, qu, kn, ec, nu, va, st, ep, ti, ad, ob, ra, rt, ex, sa, us, tk, v_3, me, dr, se, sn) Φ4 := hI4
    refine z_if_eq (tgt := 30) B dX12_recordLength_23 rfl (fun c_4 => ?_) (fun h9 => absurd (by decide) h9)
    refine z_aload_n B dX12_recordLength_30 rfl 0 rfl ?_
    refine z_iload_n B dX12_recordLength_31 rfl 1 rfl ?_
    obtain ⟨n_4, v_4, n_5, h_6, b_27, b_15, b_16, b_17, b_18, b_19, b_20, b_21, b_22, b_23, b_24, b_25, b_26⟩ := im0 hI4
    replace b_15 : 1 ≤ rt := b_15
    replace b_16 : rt ≤ 1024 := b_16
    replace b_17 : fl ≤ 12 := b_17
    replace b_18 : pe ≤ 24 := b_18
    replace b_19 : le ≤ 700 := b_19
    replace b_20 : qu ≤ 12 := b_20
    replace b_21 : n_4 ≤ 8 := b_21
    replace b_22 : n_5 ≤ 24 := b_22
    replace b_23 : tk ≤ 24 := b_23
    replace b_24 : il ≤ 700 := b_24
    replace b_25 : nx ≤ 701 := b_25
    replace b_26 : st ≤ 701 := b_26
    have h_7 : Φ4 x = some (o_ 14 [.int v_3, .ref (x + 1), .ref (x + 2), .int ti, .int ra, .int (nI rt), .int ex, .int ad, .ref (x + 3), .ref (x + 4), .int me, .long se, .ref (x + 5), .int (nI fl), .int dr, .long ob, .long sa, .long sn, .long us, .ref (x + 6), .ref (x + 7), .int (nI pe), .ref (x + 8), .int (nI le), .ref (x + 9), .ref (x + 10), .int (nI qu), .ref (x + 11), .ref (x + 12), .ref (x + 13), .ref (x + 14), .ref (x + 15), .ref (x + 16), .int (nI n_4), .long v_4, .ref (x + 17), .ref (x + 18), .ref (x + 19), .ref (x + 20), .ref (x + 21), .ref (x + 22), .int (nI n_5), .ref (x + 23), .ref (x + 24), .int (nI tk), .ref (x + 25), .int (nI il), .int (nI nx), .int ec, .int ep, .int kn, .int (nI st), .int nu, .long va]) := h_6
    refine z_callV (As := [.int (nI n_3)]) (rest := []) B (r_recordLengthOf G l Φ4 sz x rd nw cr tp tt sI sT pt ql fl pe le nx il qu kn ec nu va st ep ti ad ob ra rt ex sa us tk v_3 me dr se sn n_3 hx hI4 (show n_3 < 4 by omega) hnw) (cwV 1 B.1.2.2.2.2 gX12_recordLength_X12_recordLengthOf rfl rfl rfl (by decide +kernel) ⟨Nat.le_of_ble_eq_true rfl, Nat.le_of_ble_eq_true rfl⟩) h_7 rfl rfl rfl rfl (Nat.le_of_ble_eq_true rfl) dX12_recordLength_32 ⟨Nat.le_of_ble_eq_true rfl, Nat.le_of_ble_eq_true rfl⟩ (fun r_4 Φ5 sz4 st4 hp4 hs4 => ?_)
    obtain ⟨⟨n_6, rfl, b_28⟩, hq4, hI5, hF4⟩ := hp4
    subst sz4
    replace hs4 : st4 = [.int (nI n_6)] := hs4
    subst st4
    replace b_28 : n_6 ≤ 29 := b_28
    replace hI5 : Im G x (rd, nw, cr, tp, tt, sI, sT, pt, ql, fl, pe, le, nx, il, qu, kn, ec, nu, va, st, ep, ti, ad, ob, ra, rt, ex, sa, us, tk, v_3, me, dr, se, sn) Φ5 := hI5
    exact z_ret_i B dX12_recordLength_35 ⟨⟨_, rfl⟩, rfl, ⟨v_3, hI5⟩, (fun b9 h9 => ((hF4 b9 (fun j9 h8 h7 => (show False from h7).elim)).trans ((hF3 b9 h9).trans ((hF1 b9 (fun j9 h8 h7 => (show False from h7).elim)).trans ((fset_fr hΦ1 (fun h8 => h9 (0) h8 (show 0 = 0 by decide))).trans rfl)))))⟩

theorem hu_X12_requestTemplates_X12 : ∀ w ∈ u_ws RX12 TX12 54, w ∈ wsX12_requestTemplates := fun _ h => List.mem_cons_of_mem _ (List.mem_append_left _ (List.mem_append_right _ (h)))

theorem hv_X12_requestTemplates_1 : Cond.fieldLink RX12 1 "FlowExporterModel" (TX12 0).2.1 (TX12 0).2.2.1 ∈ wsX12_requestTemplates := List.mem_cons_of_mem _ (List.mem_append_left _ (List.mem_append_left _ (List.mem_of_getElem? (i := 0) rfl)))

theorem hv_X12_requestTemplates_20 : Cond.fieldLink RX12 20 "FlowExporterModel" (TX12 8).2.1 (TX12 8).2.2.1 ∈ wsX12_requestTemplates := List.mem_cons_of_mem _ (List.mem_append_left _ (List.mem_append_left _ (List.mem_of_getElem? (i := 1) rfl)))

set_option maxHeartbeats 4000000 in
set_option maxRecDepth 100000 in
theorem r_requestTemplates (G : EnvG) (l : Launch) (Φ : Hm) (sz x : Nat) (rd : (Nat → Int32) → Prop) (nw : (Nat → Int32) → Prop) (cr : (Nat → Int64) → Prop) (tp : (Nat → Int32) → Prop) (tt : (Nat → Int64) → Prop) (sI : (Nat → Int32) → Prop) (sT : (Nat → Int32) → Prop) (pt : (Nat → Int32) → Prop) (ql : (Nat → Int32) → Prop) (fl : Nat) (pe : Nat) (le : Nat) (nx : Nat) (il : Nat) (qu : Nat) (kn : Int32) (ec : Int32) (nu : Int32) (va : Int64) (st : Nat) (ep : Int32) (ti : Int32) (ad : Int32) (ob : Int64) (ra : Int32) (rt : Nat) (ex : Int32) (sa : Int64) (us : Int64) (tk : Nat) (th : Int32) (me : Int32) (dr : Int32) (se : Int64) (sn : Int64)  (hx : G.2.2.2 ≤ x) (hI : Im G x (rd, nw, cr, tp, tt, sI, sT, pt, ql, fl, pe, le, nx, il, qu, kn, ec, nu, va, st, ep, ti, ad, ob, ra, rt, ex, sa, us, tk, th, me, dr, se, sn) Φ) (hnw : ∀ f9 : Nat → Int32, nw f9 → NN f9) : Ct G l yX12_requestTemplates wsX12_requestTemplates ({ frames := 0, cells := 0, slots := 0, locals := 0 }) 0 0 [.ref x] Φ sz (fun v Φ1 sz1 => (v = none) ∧ sz1 = sz ∧ (∃ (th1 : Int32), Im G x (rd, nw, cr, tp, tt, (SiQ (fun _ => 0)), sT, pt, ql, fl, pe, le, nx, il, qu, kn, ec, nu, va, st, ep, ti, ad, ob, ra, rt, ex, sa, us, tk, th1, me, dr, se, sn) Φ1) ∧ Fr x (fun j9 => j9 = 0 ∨ j9 = 3) Φ Φ1) := by
  refine Ct.of (cc := cX12_requestTemplates) (maxL := 2) (ret := none) (by decide) rfl (Nat.le_of_ble_eq_true rfl) ?_
  intro p9 e9 s9 m9 w9 t9 k9 B
  show Z p9 l e9 _ s9 m9 _ w9 t9 k9 _ G 2 0 [(0, .ref x)] [] Φ sz 0 0
  refine z_aload_n B dX12_requestTemplates_0 rfl 0 rfl ?_
  refine z_iconst (v := 0) B dX12_requestTemplates_1 rfl ?_
  obtain ⟨n_1, v_1, n_2, h_1, b_13, b_1, b_2, b_3, b_4, b_5, b_6, b_7, b_8, b_9, b_10, b_11, b_12⟩ := im0 hI
  replace b_1 : 1 ≤ rt := b_1
  replace b_2 : rt ≤ 1024 := b_2
  replace b_3 : fl ≤ 12 := b_3
  replace b_4 : pe ≤ 24 := b_4
  replace b_5 : le ≤ 700 := b_5
  replace b_6 : qu ≤ 12 := b_6
  replace b_7 : n_1 ≤ 8 := b_7
  replace b_8 : n_2 ≤ 24 := b_8
  replace b_9 : tk ≤ 24 := b_9
  replace b_10 : il ≤ 700 := b_10
  replace b_11 : nx ≤ 701 := b_11
  replace b_12 : st ≤ 701 := b_12
  have h_2 : Φ x = some (o_ 14 [.int th, .ref (x + 1), .ref (x + 2), .int ti, .int ra, .int (nI rt), .int ex, .int ad, .ref (x + 3), .ref (x + 4), .int me, .long se, .ref (x + 5), .int (nI fl), .int dr, .long ob, .long sa, .long sn, .long us, .ref (x + 6), .ref (x + 7), .int (nI pe), .ref (x + 8), .int (nI le), .ref (x + 9), .ref (x + 10), .int (nI qu), .ref (x + 11), .ref (x + 12), .ref (x + 13), .ref (x + 14), .ref (x + 15), .ref (x + 16), .int (nI n_1), .long v_1, .ref (x + 17), .ref (x + 18), .ref (x + 19), .ref (x + 20), .ref (x + 21), .ref (x + 22), .int (nI n_2), .ref (x + 23), .ref (x + 24), .int (nI tk), .ref (x + 25), .int (nI il), .int (nI nx), .int ec, .int ep, .int kn, .int (nI st), .int nu, .long va]) := h_1
  refine z_put (ref := "FlowExporterModel") (C := RX12) (T := TX12) (N := 54) (ci := 14) (v := .int 0) B hu_X12_requestTemplates_X12 tyX12 tyX12_ok nmX12 rfl 0 (Nat.le_of_ble_eq_true rfl) hv_X12_requestTemplates_1 rfl (Or.inl rfl) h_2 hx rfl rfl (Nat.le_of_ble_eq_true rfl) dX12_requestTemplates_2 (fun Φ1 hΦ1 => ?_)
  have h_3 : Φ1 x = some (o_ 14 [.int 0, .ref (x + 1), .ref (x + 2), .int ti, .int ra, .int (nI rt), .int ex, .int ad, .ref (x + 3), .ref (x + 4), .int me, .long se, .ref (x + 5), .int (nI fl), .int dr, .long ob, .long sa, .long sn, .long us, .ref (x + 6), .ref (x + 7), .int (nI pe), .ref (x + 8), .int (nI le), .ref (x + 9), .ref (x + 10), .int (nI qu), .ref (x + 11), .ref (x + 12), .ref (x + 13), .ref (x + 14), .ref (x + 15), .ref (x + 16), .int (nI n_1), .long v_1, .ref (x + 17), .ref (x + 18), .ref (x + 19), .ref (x + 20), .ref (x + 21), .ref (x + 22), .int (nI n_2), .ref (x + 23), .ref (x + 24), .int (nI tk), .ref (x + 25), .int (nI il), .int (nI nx), .int ec, .int ep, .int kn, .int (nI st), .int nu, .long va]) := fset_at hΦ1
  have hI1 : Im G x (rd, nw, cr, tp, tt, sI, sT, pt, ql, fl, pe, le, nx, il, qu, kn, ec, nu, va, st, ep, ti, ad, ob, ra, rt, ex, sa, us, tk, 0, me, dr, se, sn) Φ1 := Im.put0 hI hΦ1 ⟨n_1, v_1, n_2, rfl, b_13, b_1, b_2, b_3, b_4, b_5, b_6, b_7, b_8, b_9, b_10, b_11, b_12⟩
  refine z_iconst (v := 0) B dX12_requestTemplates_5 rfl ?_
  refine z_istore_n (lv' := [(1, .int 0), (0, .ref x)]) B dX12_requestTemplates_6 rfl (Nat.le_of_ble_eq_true rfl) rfl ?_
  refine z_lv [0, 1] rfl ?_
  refine z_loop (α := Nat) (fun (a9 : Nat) Φi => Im G x (rd, nw, cr, tp, tt, (SiZ a9), sT, pt, ql, fl, pe, le, nx, il, qu, kn, ec, nu, va, st, ep, ti, ad, ob, ra, rt, ex, sa, us, tk, 0, me, dr, se, sn) Φi ∧ Fr x (fun j9 => j9 = 0 ∨ j9 = 3) Φ1 Φi ∧ (a9 ≤ 4) ∧ True) (fun a9 => [(1, .int (nI a9)), (0, .ref x)]) (fun a9 => 4 - a9) ?_ (0) ⟨(Im.weak5 hI1 (fun _ q9 => q9) (fun _ q9 => q9) (fun _ q9 => q9) (fun _ q9 => q9) (fun _ q9 => q9) (fun _ _ => SiZ.z) (fun _ q9 => q9) (fun _ q9 => q9) (fun _ q9 => q9)), fun _ _ => rfl, (show 0 ≤ 4 by omega), trivial⟩
  rintro i_1 Φl1 ⟨hI2, hF1, b_14, -⟩ ih1
  replace hI2 : Im G x (rd, nw, cr, tp, tt, (SiZ i_1), sT, pt, ql, fl, pe, le, nx, il, qu, kn, ec, nu, va, st, ep, ti, ad, ob, ra, rt, ex, sa, us, tk, 0, me, dr, se, sn) Φl1 := hI2
  replace b_14 : i_1 ≤ 4 := b_14
  show Z p9 l e9 _ s9 m9 _ w9 t9 k9 _ G 2 7 [(1, .int (nI i_1)), (0, .ref x)] [] Φl1 _ _ _
  refine z_iload_n B dX12_requestTemplates_7 rfl 0 rfl ?_
  refine z_iconst (v := 4) B dX12_requestTemplates_8 rfl ?_
  refine z_icmp_ge (tgt := 25) B dX12_requestTemplates_9 rfl (fun c_1 => ?_) (fun c_1 => ?_)
  · have e_1 : 4 ≤ i_1 := (nI_leI (a := 4) (b := i_1) (by omega) (by omega)).mp c_1
    have hI3 : Im G x (rd, nw, cr, tp, tt, (SiQ (fun _ => 0)), sT, pt, ql, fl, pe, le, nx, il, qu, kn, ec, nu, va, st, ep, ti, ad, ob, ra, rt, ex, sa, us, tk, 0, me, dr, se, sn) Φl1 := Im.weak5 hI2 (fun _ q9 => q9) (fun _ q9 => q9) (fun _ q9 => q9) (fun _ q9 => q9) (fun _ q9 => q9) (fun _ q9 => SiZ.f (show 4 ≤ i_1 by omega) q9) (fun _ q9 => q9) (fun _ q9 => q9) (fun _ q9 => q9)
    exact z_ret_v B dX12_requestTemplates_25 ⟨rfl, rfl, ⟨0, hI3⟩, (fun b9 h9 => ((hF1 b9 h9).trans ((fset_fr hΦ1 (fun h8 => h9 (0) h8 (show 0 = 0 ∨ 0 = 3 by decide))).trans rfl)))⟩
  · have e_2 : ¬ (4 ≤ i_1) := fun h9 => c_1 ((nI_leI (a := 4) (b := i_1) (by omega) (by omega)).mpr h9)
    refine z_aload_n B dX12_requestTemplates_12 rfl 1 rfl ?_
    obtain ⟨n_3, v_2, n_4, h_4, b_27, b_15, b_16, b_17, b_18, b_19, b_20, b_21, b_22, b_23, b_24, b_25, b_26⟩ := im0 hI2
    replace b_15 : 1 ≤ rt := b_15
    replace b_16 : rt ≤ 1024 := b_16
    replace b_17 : fl ≤ 12 := b_17
    replace b_18 : pe ≤ 24 := b_18
    replace b_19 : le ≤ 700 := b_19
    replace b_20 : qu ≤ 12 := b_20
    replace b_21 : n_3 ≤ 8 := b_21
    replace b_22 : n_4 ≤ 24 := b_22
    replace b_23 : tk ≤ 24 := b_23
    replace b_24 : il ≤ 700 := b_24
    replace b_25 : nx ≤ 701 := b_25
    replace b_26 : st ≤ 701 := b_26
    have h_5 : Φl1 x = some (o_ 14 [.int 0, .ref (x + 1), .ref (x + 2), .int ti, .int ra, .int (nI rt), .int ex, .int ad, .ref (x + 3), .ref (x + 4), .int me, .long se, .ref (x + 5), .int (nI fl), .int dr, .long ob, .long sa, .long sn, .long us, .ref (x + 6), .ref (x + 7), .int (nI pe), .ref (x + 8), .int (nI le), .ref (x + 9), .ref (x + 10), .int (nI qu), .ref (x + 11), .ref (x + 12), .ref (x + 13), .ref (x + 14), .ref (x + 15), .ref (x + 16), .int (nI n_3), .long v_2, .ref (x + 17), .ref (x + 18), .ref (x + 19), .ref (x + 20), .ref (x + 21), .ref (x + 22), .int (nI n_4), .ref (x + 23), .ref (x + 24), .int (nI tk), .ref (x + 25), .int (nI il), .int (nI nx), .int ec, .int ep, .int kn, .int (nI st), .int nu, .long va]) := h_4
    refine z_get (ref := "FlowExporterModel") (C := RX12) (T := TX12) (N := 54) (ci := 14) (v := .ref (x + 3)) B hu_X12_requestTemplates_X12 rfl 8 (Nat.le_of_ble_eq_true rfl) hv_X12_requestTemplates_20 rfl h_5 rfl dX12_requestTemplates_13 ?_
    refine z_iload_n B dX12_requestTemplates_16 rfl 0 rfl ?_
    refine z_iconst (v := (-1)) B dX12_requestTemplates_17 rfl ?_
    obtain ⟨f_1, h_6, r_1⟩ := imk (k := 3) hI2
    replace r_1 : (SiZ i_1) f_1 := r_1
    have h_7 : Φl1 (x + 3) = some (ai_ G 4 f_1) := h_6
    refine z_iast B h_7 (Nat.le_trans hx (Nat.le_add_right x 3)) (vp_in_nI (by omega) (by omega)) dX12_requestTemplates_18 (fun Φ2 hΦ2 => ?_)
    have h_8 : Φ2 (x + 3) = some (ai_ G 4 (upd f_1 (nI i_1).toNatClampNeg (-1))) := fset_at hΦ2
    have hI4 : Im G x (rd, nw, cr, tp, tt, (fun g9 => g9 = (upd f_1 (nI i_1).toNatClampNeg (-1))), sT, pt, ql, fl, pe, le, nx, il, qu, kn, ec, nu, va, st, ep, ti, ad, ob, ra, rt, ex, sa, us, tk, 0, me, dr, se, sn) Φ2 := Im.put3 (sI1 := (fun g9 => g9 = (upd f_1 (nI i_1).toNatClampNeg (-1)))) hI2 hΦ2 rfl
    refine z_iinc (k := 0) (v := nI (i_1 + 1)) (lv' := [(1, .int (nI (i_1 + 1))), (0, .ref x)]) B dX12_requestTemplates_19 rfl (nI_add i_1 1) (Nat.le_of_ble_eq_true rfl) rfl ?_
    refine z_goto (tgt := 7) B dX12_requestTemplates_22 rfl ?_
    refine z_lv [0, 1] rfl ?_
    exact ih1 (i_1 + 1) Φ2 (show 4 - (i_1 + 1) < 4 - i_1 by omega) ⟨(Im.weak5 hI4 (fun _ q9 => q9) (fun _ q9 => q9) (fun _ q9 => q9) (fun _ q9 => q9) (fun _ q9 => q9) (eqw (SiZ.s r_1 (nI_clamp (by omega)))) (fun _ q9 => q9) (fun _ q9 => q9) (fun _ q9 => q9)), (fun b9 h9 => ((fset_fr hΦ2 (fun h8 => h9 (3) h8 (show 3 = 0 ∨ 3 = 3 by decide))).trans ((hF1 b9 h9).trans rfl))), (show (i_1 + 1) ≤ 4 by omega), trivial⟩

theorem hu_X12_startExporter_X12 : ∀ w ∈ u_ws RX12 TX12 54, w ∈ wsX12_startExporter := fun _ h => List.mem_cons_of_mem _ (List.mem_append_left _ (List.mem_append_right _ (h)))

theorem hv_X12_startExporter_133 : Cond.fieldLink RX12 133 "FlowExporterModel" (TX12 13).2.1 (TX12 13).2.2.1 ∈ wsX12_startExporter := List.mem_cons_of_mem _ (List.mem_append_left _ (List.mem_append_left _ (List.mem_of_getElem? (i := 0) rfl)))

theorem hv_X12_startExporter_136 : Cond.fieldLink RX12 136 "FlowExporterModel" (TX12 21).2.1 (TX12 21).2.2.1 ∈ wsX12_startExporter := List.mem_cons_of_mem _ (List.mem_append_left _ (List.mem_append_left _ (List.mem_of_getElem? (i := 1) rfl)))

theorem hv_X12_startExporter_201 : Cond.fieldLink RX12 201 "FlowExporterModel" (TX12 11).2.1 (TX12 11).2.2.1 ∈ wsX12_startExporter := List.mem_cons_of_mem _ (List.mem_append_left _ (List.mem_append_left _ (List.mem_of_getElem? (i := 2) rfl)))

theorem hv_X12_startExporter_20 : Cond.fieldLink RX12 20 "FlowExporterModel" (TX12 8).2.1 (TX12 8).2.2.1 ∈ wsX12_startExporter := List.mem_cons_of_mem _ (List.mem_append_left _ (List.mem_append_left _ (List.mem_of_getElem? (i := 3) rfl)))

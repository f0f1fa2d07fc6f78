set_option maxRecDepth 20000 in
theorem ggX12_isTemplate_X12_inRange : GoodIn wsX12_isTemplate wsX12_inRange := goodIn_r _ [5] (by decide +kernel) (by decide +kernel)
set_option maxRecDepth 20000 in
theorem gX12_isTemplate_X12_inRange : GoodIn wsX12_isTemplate (va_wsS RX12 169 yX12_inRange wsX12_inRange) := goodIn_app (goodIn_of _ (by decide +kernel)) ggX12_isTemplate_X12_inRange
theorem dX12_isTemplate_0 : decode cX12_isTemplate 0 = .ok (.iload_n 1, 1) := by decide +kernel
theorem dX12_isTemplate_1 : decode cX12_isTemplate 1 = .ok (.i2l, 1) := by decide +kernel
theorem dX12_isTemplate_2 : decode cX12_isTemplate 2 = .ok (.lconst 0, 1) := by decide +kernel
theorem dX12_isTemplate_3 : decode cX12_isTemplate 3 = .ok (.aload_n 0, 1) := by decide +kernel
theorem dX12_isTemplate_4 : decode cX12_isTemplate 4 = .ok (.getfield 17, 3) := by decide +kernel
theorem dX12_isTemplate_7 : decode cX12_isTemplate 7 = .ok (.bipush 10, 2) := by decide +kernel
theorem dX12_isTemplate_9 : decode cX12_isTemplate 9 = .ok (.iaload, 1) := by decide +kernel
theorem dX12_isTemplate_10 : decode cX12_isTemplate 10 = .ok (.iconst 1, 1) := by decide +kernel
theorem dX12_isTemplate_11 : decode cX12_isTemplate 11 = .ok (.isub, 1) := by decide +kernel
theorem dX12_isTemplate_12 : decode cX12_isTemplate 12 = .ok (.i2l, 1) := by decide +kernel
theorem dX12_isTemplate_13 : decode cX12_isTemplate 13 = .ok (.invokestatic 169, 3) := by decide +kernel
theorem dX12_isTemplate_16 : decode cX12_isTemplate 16 = .ok (.ireturn, 1) := by decide +kernel
set_option maxRecDepth 20000 in
theorem ggX12_templateFields_X12_isTemplate : GoodIn wsX12_templateFields wsX12_isTemplate := goodIn_ca (goodIn_r _ [6, 7, 8, 9, 5, 10, 27, 28, 29, 30, 31, 32, 33, 34, 35, 36, 37, 38, 39, 40, 41, 42, 43, 44, 45, 46, 47, 48, 49, 50, 51, 52, 53, 54, 55, 56, 57, 58, 59, 60, 61, 62, 63, 64, 65, 66, 67, 68, 69, 70, 71, 72, 73, 74, 75, 76, 77, 78, 79, 80] (by decide +kernel) (by decide +kernel)) (goodIn_sub (fun _ h => List.mem_cons_of_mem _ (List.mem_append_right _ h)) (by decide +kernel))
set_option maxRecDepth 20000 in
theorem gX12_templateFields_X12_isTemplate : GoodIn wsX12_templateFields (wsV RX12 181 RX12 yX12_isTemplate wsX12_isTemplate) := goodIn_app (goodIn_of _ (by decide +kernel)) ggX12_templateFields_X12_isTemplate
set_option maxRecDepth 20000 in
theorem ggX12_templateFields_X12_throwsIf : GoodIn wsX12_templateFields wsX12_throwsIf := goodIn_r _ [14, 1, 27, 28, 29, 30, 31, 32, 33, 34, 35, 36, 37, 38, 39, 40, 41, 42, 43, 44, 45, 46, 47, 48, 49, 50, 51, 52, 53, 54, 55, 56, 57, 58, 59, 60, 61, 62, 63, 64, 65, 66, 67, 68, 69, 70, 71, 72, 73, 74, 75, 76, 77, 78, 79, 80] (by decide +kernel) (by decide +kernel)
set_option maxRecDepth 20000 in
theorem gX12_templateFields_X12_throwsIf : GoodIn wsX12_templateFields (wsV RX12 185 RX12 yX12_throwsIf wsX12_throwsIf) := goodIn_app (goodIn_of _ (by decide +kernel)) ggX12_templateFields_X12_throwsIf
theorem dX12_templateFields_0 : decode cX12_templateFields 0 = .ok (.aload_n 0, 1) := by decide +kernel
theorem dX12_templateFields_1 : decode cX12_templateFields 1 = .ok (.iconst 0, 1) := by decide +kernel
theorem dX12_templateFields_2 : decode cX12_templateFields 2 = .ok (.putfield 1, 3) := by decide +kernel
theorem dX12_templateFields_5 : decode cX12_templateFields 5 = .ok (.aload_n 0, 1) := by decide +kernel
theorem dX12_templateFields_6 : decode cX12_templateFields 6 = .ok (.aload_n 0, 1) := by decide +kernel
theorem dX12_templateFields_7 : decode cX12_templateFields 7 = .ok (.iload_n 1, 1) := by decide +kernel
theorem dX12_templateFields_8 : decode cX12_templateFields 8 = .ok (.invokevirtual 181, 3) := by decide +kernel
theorem dX12_templateFields_11 : decode cX12_templateFields 11 = .ok (.ifCond .ne 7, 3) := by decide +kernel
theorem dX12_templateFields_14 : decode cX12_templateFields 14 = .ok (.iconst 1, 1) := by decide +kernel
theorem dX12_templateFields_15 : decode cX12_templateFields 15 = .ok (.goto 4, 3) := by decide +kernel
theorem dX12_templateFields_19 : decode cX12_templateFields 19 = .ok (.iconst 1, 1) := by decide +kernel
theorem dX12_templateFields_20 : decode cX12_templateFields 20 = .ok (.invokevirtual 185, 3) := by decide +kernel
theorem dX12_templateFields_23 : decode cX12_templateFields 23 = .ok (.ifCond .eq 7, 3) := by decide +kernel
theorem dX12_templateFields_26 : decode cX12_templateFields 26 = .ok (.iconst 0, 1) := by decide +kernel
theorem dX12_templateFields_27 : decode cX12_templateFields 27 = .ok (.goto 8, 3) := by decide +kernel
theorem dX12_templateFields_35 : decode cX12_templateFields 35 = .ok (.ireturn, 1) := by decide +kernel
set_option maxRecDepth 20000 in
theorem ggX12_effectiveFields_X12_isTemplate : GoodIn wsX12_effectiveFields wsX12_isTemplate := goodIn_ca (goodIn_r _ [6, 7, 8, 9, 5, 10, 31, 32, 33, 34, 35, 36, 37, 38, 39, 40, 41, 42, 43, 44, 45, 46, 47, 48, 49, 50, 51, 52, 53, 54, 55, 56, 57, 58, 59, 60, 61, 62, 63, 64, 65, 66, 67, 68, 69, 70, 71, 72, 73, 74, 75, 76, 77, 78, 79, 80, 81, 82, 83, 84] (by decide +kernel) (by decide +kernel)) (goodIn_sub (fun _ h => List.mem_cons_of_mem _ (List.mem_append_right _ h)) (by decide +kernel))
set_option maxRecDepth 20000 in
theorem gX12_effectiveFields_X12_isTemplate : GoodIn wsX12_effectiveFields (wsV RX12 181 RX12 yX12_isTemplate wsX12_isTemplate) := goodIn_app (goodIn_of _ (by decide +kernel)) ggX12_effectiveFields_X12_isTemplate
set_option maxRecDepth 20000 in
theorem ggX12_effectiveFields_X12_throwsIf : GoodIn wsX12_effectiveFields wsX12_throwsIf := goodIn_r _ [14, 1, 31, 32, 33, 34, 35, 36, 37, 38, 39, 40, 41, 42, 43, 44, 45, 46, 47, 48, 49, 50, 51, 52, 53, 54, 55, 56, 57, 58, 59, 60, 61, 62, 63, 64, 65, 66, 67, 68, 69, 70, 71, 72, 73, 74, 75, 76, 77, 78, 79, 80, 81, 82, 83, 84] (by decide +kernel) (by decide +kernel)
set_option maxRecDepth 20000 in
theorem gX12_effectiveFields_X12_throwsIf : GoodIn wsX12_effectiveFields (wsV RX12 185 RX12 yX12_throwsIf wsX12_throwsIf) := goodIn_app (goodIn_of _ (by decide +kernel)) ggX12_effectiveFields_X12_throwsIf
theorem dX12_effectiveFields_0 : decode cX12_effectiveFields 0 = .ok (.aload_n 0, 1) := by decide +kernel
theorem dX12_effectiveFields_1 : decode cX12_effectiveFields 1 = .ok (.iconst 0, 1) := by decide +kernel
theorem dX12_effectiveFields_2 : decode cX12_effectiveFields 2 = .ok (.putfield 1, 3) := by decide +kernel
theorem dX12_effectiveFields_5 : decode cX12_effectiveFields 5 = .ok (.aload_n 0, 1) := by decide +kernel
theorem dX12_effectiveFields_6 : decode cX12_effectiveFields 6 = .ok (.aload_n 0, 1) := by decide +kernel
theorem dX12_effectiveFields_7 : decode cX12_effectiveFields 7 = .ok (.iload_n 1, 1) := by decide +kernel
theorem dX12_effectiveFields_8 : decode cX12_effectiveFields 8 = .ok (.invokevirtual 181, 3) := by decide +kernel
theorem dX12_effectiveFields_11 : decode cX12_effectiveFields 11 = .ok (.ifCond .ne 7, 3) := by decide +kernel
theorem dX12_effectiveFields_14 : decode cX12_effectiveFields 14 = .ok (.iconst 1, 1) := by decide +kernel
theorem dX12_effectiveFields_15 : decode cX12_effectiveFields 15 = .ok (.goto 4, 3) := by decide +kernel
theorem dX12_effectiveFields_19 : decode cX12_effectiveFields 19 = .ok (.iconst 1, 1) := by decide +kernel
theorem dX12_effectiveFields_20 : decode cX12_effectiveFields 20 = .ok (.invokevirtual 185, 3) := by decide +kernel
theorem dX12_effectiveFields_23 : decode cX12_effectiveFields 23 = .ok (.ifCond .eq 7, 3) := by decide +kernel
theorem dX12_effectiveFields_26 : decode cX12_effectiveFields 26 = .ok (.iconst 0, 1) := by decide +kernel
theorem dX12_effectiveFields_27 : decode cX12_effectiveFields 27 = .ok (.goto 8, 3) := by decide +kernel
theorem dX12_effectiveFields_35 : decode cX12_effectiveFields 35 = .ok (.ireturn, 1) := by decide +kernel
set_option maxRecDepth 20000 in
theorem ggX12_fieldAt_X12_isTemplate : GoodIn wsX12_fieldAt wsX12_isTemplate := goodIn_ca (goodIn_r _ [6, 7, 8, 9, 5, 10, 23, 24, 25, 26, 27, 28, 29, 30, 31, 32, 33, 34, 35, 36, 37, 38, 39, 40, 41, 42, 43, 44, 45, 46, 47, 48, 49, 50, 51, 52, 53, 54, 55, 56, 57, 58, 59, 60, 61, 62, 63, 64, 65, 66, 67, 68, 69, 70, 71, 72, 73, 74, 75, 76] (by decide +kernel) (by decide +kernel)) (goodIn_sub (fun _ h => List.mem_cons_of_mem _ (List.mem_append_right _ h)) (by decide +kernel))
set_option maxRecDepth 20000 in
theorem gX12_fieldAt_X12_isTemplate : GoodIn wsX12_fieldAt (wsV RX12 181 RX12 yX12_isTemplate wsX12_isTemplate) := goodIn_app (goodIn_of _ (by decide +kernel)) ggX12_fieldAt_X12_isTemplate
set_option maxRecDepth 20000 in
theorem ggX12_fieldAt_X12_throwsIf : GoodIn wsX12_fieldAt wsX12_throwsIf := goodIn_r _ [14, 1, 23, 24, 25, 26, 27, 28, 29, 30, 31, 32, 33, 34, 35, 36, 37, 38, 39, 40, 41, 42, 43, 44, 45, 46, 47, 48, 49, 50, 51, 52, 53, 54, 55, 56, 57, 58, 59, 60, 61, 62, 63, 64, 65, 66, 67, 68, 69, 70, 71, 72, 73, 74, 75, 76] (by decide +kernel) (by decide +kernel)
set_option maxRecDepth 20000 in
theorem gX12_fieldAt_X12_throwsIf : GoodIn wsX12_fieldAt (wsV RX12 185 RX12 yX12_throwsIf wsX12_throwsIf) := goodIn_app (goodIn_of _ (by decide +kernel)) ggX12_fieldAt_X12_throwsIf
theorem dX12_fieldAt_0 : decode cX12_fieldAt 0 = .ok (.aload_n 0, 1) := by decide +kernel
theorem dX12_fieldAt_1 : decode cX12_fieldAt 1 = .ok (.iconst 0, 1) := by decide +kernel
theorem dX12_fieldAt_2 : decode cX12_fieldAt 2 = .ok (.putfield 1, 3) := by decide +kernel
theorem dX12_fieldAt_5 : decode cX12_fieldAt 5 = .ok (.aload_n 0, 1) := by decide +kernel
theorem dX12_fieldAt_6 : decode cX12_fieldAt 6 = .ok (.aload_n 0, 1) := by decide +kernel
theorem dX12_fieldAt_7 : decode cX12_fieldAt 7 = .ok (.iload_n 1, 1) := by decide +kernel
theorem dX12_fieldAt_8 : decode cX12_fieldAt 8 = .ok (.invokevirtual 181, 3) := by decide +kernel
theorem dX12_fieldAt_11 : decode cX12_fieldAt 11 = .ok (.ifCond .ne 7, 3) := by decide +kernel
theorem dX12_fieldAt_14 : decode cX12_fieldAt 14 = .ok (.iconst 1, 1) := by decide +kernel
theorem dX12_fieldAt_15 : decode cX12_fieldAt 15 = .ok (.goto 4, 3) := by decide +kernel
theorem dX12_fieldAt_19 : decode cX12_fieldAt 19 = .ok (.iconst 1, 1) := by decide +kernel
theorem dX12_fieldAt_20 : decode cX12_fieldAt 20 = .ok (.invokevirtual 185, 3) := by decide +kernel
theorem dX12_fieldAt_23 : decode cX12_fieldAt 23 = .ok (.ifCond .eq 7, 3) := by decide +kernel
theorem dX12_fieldAt_26 : decode cX12_fieldAt 26 = .ok (.iconst 0, 1) := by decide +kernel
theorem dX12_fieldAt_27 : decode cX12_fieldAt 27 = .ok (.goto 30, 3) := by decide +kernel
theorem dX12_fieldAt_57 : decode cX12_fieldAt 57 = .ok (.ireturn, 1) := by decide +kernel
set_option maxRecDepth 20000 in
theorem ggX12_recordLength_X12_isTemplate : GoodIn wsX12_recordLength wsX12_isTemplate := goodIn_ca (goodIn_r _ [6, 7, 8, 9, 5, 10, 38, 39, 40, 41, 42, 43, 44, 45, 46, 47, 48, 49, 50, 51, 52, 53, 54, 55, 56, 57, 58, 59, 60, 61, 62, 63, 64, 65, 66, 67, 68, 69, 70, 71, 72, 73, 74, 75, 76, 77, 78, 79, 80, 81, 82, 83, 84, 85, 86, 87, 88, 89, 90, 91] (by decide +kernel) (by decide +kernel)) (goodIn_sub (fun _ h => List.mem_cons_of_mem _ (List.mem_append_right _ h)) (by decide +kernel))
set_option maxRecDepth 20000 in
theorem gX12_recordLength_X12_isTemplate : GoodIn wsX12_recordLength (wsV RX12 181 RX12 yX12_isTemplate wsX12_isTemplate) := goodIn_app (goodIn_of _ (by decide +kernel)) ggX12_recordLength_X12_isTemplate
set_option maxRecDepth 20000 in
theorem ggX12_recordLength_X12_throwsIf : GoodIn wsX12_recordLength wsX12_throwsIf := goodIn_r _ [14, 1, 38, 39, 40, 41, 42, 43, 44, 45, 46, 47, 48, 49, 50, 51, 52, 53, 54, 55, 56, 57, 58, 59, 60, 61, 62, 63, 64, 65, 66, 67, 68, 69, 70, 71, 72, 73, 74, 75, 76, 77, 78, 79, 80, 81, 82, 83, 84, 85, 86, 87, 88, 89, 90, 91] (by decide +kernel) (by decide +kernel)
set_option maxRecDepth 20000 in
theorem gX12_recordLength_X12_throwsIf : GoodIn wsX12_recordLength (wsV RX12 185 RX12 yX12_throwsIf wsX12_throwsIf) := goodIn_app (goodIn_of _ (by decide +kernel)) ggX12_recordLength_X12_throwsIf
theorem dX12_recordLength_0 : decode cX12_recordLength 0 = .ok (.aload_n 0, 1) := by decide +kernel
theorem dX12_recordLength_1 : decode cX12_recordLength 1 = .ok (.iconst 0, 1) := by decide +kernel
theorem dX12_recordLength_2 : decode cX12_recordLength 2 = .ok (.putfield 1, 3) := by decide +kernel
theorem dX12_recordLength_5 : decode cX12_recordLength 5 = .ok (.aload_n 0, 1) := by decide +kernel
theorem dX12_recordLength_6 : decode cX12_recordLength 6 = .ok (.aload_n 0, 1) := by decide +kernel
theorem dX12_recordLength_7 : decode cX12_recordLength 7 = .ok (.iload_n 1, 1) := by decide +kernel
theorem dX12_recordLength_8 : decode cX12_recordLength 8 = .ok (.invokevirtual 181, 3) := by decide +kernel
theorem dX12_recordLength_11 : decode cX12_recordLength 11 = .ok (.ifCond .ne 7, 3) := by decide +kernel
theorem dX12_recordLength_14 : decode cX12_recordLength 14 = .ok (.iconst 1, 1) := by decide +kernel
theorem dX12_recordLength_15 : decode cX12_recordLength 15 = .ok (.goto 4, 3) := by decide +kernel
theorem dX12_recordLength_19 : decode cX12_recordLength 19 = .ok (.iconst 1, 1) := by decide +kernel
theorem dX12_recordLength_20 : decode cX12_recordLength 20 = .ok (.invokevirtual 185, 3) := by decide +kernel
theorem dX12_recordLength_23 : decode cX12_recordLength 23 = .ok (.ifCond .eq 7, 3) := by decide +kernel
theorem dX12_recordLength_26 : decode cX12_recordLength 26 = .ok (.iconst 0, 1) := by decide +kernel
theorem dX12_recordLength_27 : decode cX12_recordLength 27 = .ok (.goto 8, 3) := by decide +kernel
theorem dX12_recordLength_35 : decode cX12_recordLength 35 = .ok (.ireturn, 1) := by decide +kernel
set_option maxRecDepth 20000 in
theorem ggX12_isDue_X12_isTemplate : GoodIn wsX12_isDue wsX12_isTemplate := goodIn_ca (goodIn_r _ [6, 7, 8, 9, 5, 10, 39, 40, 41, 42, 43, 44, 45, 46, 47, 48, 49, 50, 51, 52, 53, 54, 55, 56, 57, 58, 59, 60, 61, 62, 63, 64, 65, 66, 67, 68, 69, 70, 71, 72, 73, 74, 75, 76, 77, 78, 79, 80, 81, 82, 83, 84, 85, 86, 87, 88, 89, 90, 91, 92] (by decide +kernel) (by decide +kernel)) (goodIn_sub (fun _ h => List.mem_cons_of_mem _ (List.mem_append_right _ h)) (by decide +kernel))
set_option maxRecDepth 20000 in
theorem gX12_isDue_X12_isTemplate : GoodIn wsX12_isDue (wsV RX12 181 RX12 yX12_isTemplate wsX12_isTemplate) := goodIn_app (goodIn_of _ (by decide +kernel)) ggX12_isDue_X12_isTemplate
set_option maxRecDepth 20000 in
theorem ggX12_isDue_X12_throwsIf : GoodIn wsX12_isDue wsX12_throwsIf := goodIn_r _ [14, 1, 39, 40, 41, 42, 43, 44, 45, 46, 47, 48, 49, 50, 51, 52, 53, 54, 55, 56, 57, 58, 59, 60, 61, 62, 63, 64, 65, 66, 67, 68, 69, 70, 71, 72, 73, 74, 75, 76, 77, 78, 79, 80, 81, 82, 83, 84, 85, 86, 87, 88, 89, 90, 91, 92] (by decide +kernel) (by decide +kernel)
set_option maxRecDepth 20000 in
theorem gX12_isDue_X12_throwsIf : GoodIn wsX12_isDue (wsV RX12 185 RX12 yX12_throwsIf wsX12_throwsIf) := goodIn_app (goodIn_of _ (by decide +kernel)) ggX12_isDue_X12_throwsIf
theorem dX12_isDue_0 : decode cX12_isDue 0 = .ok (.aload_n 0, 1) := by decide +kernel
theorem dX12_isDue_1 : decode cX12_isDue 1 = .ok (.iconst 0, 1) := by decide +kernel
theorem dX12_isDue_2 : decode cX12_isDue 2 = .ok (.putfield 1, 3) := by decide +kernel
theorem dX12_isDue_5 : decode cX12_isDue 5 = .ok (.aload_n 0, 1) := by decide +kernel
theorem dX12_isDue_6 : decode cX12_isDue 6 = .ok (.aload_n 0, 1) := by decide +kernel
theorem dX12_isDue_7 : decode cX12_isDue 7 = .ok (.iload_n 1, 1) := by decide +kernel
theorem dX12_isDue_8 : decode cX12_isDue 8 = .ok (.invokevirtual 181, 3) := by decide +kernel
theorem dX12_isDue_11 : decode cX12_isDue 11 = .ok (.ifCond .ne 7, 3) := by decide +kernel
theorem dX12_isDue_14 : decode cX12_isDue 14 = .ok (.iconst 1, 1) := by decide +kernel
theorem dX12_isDue_15 : decode cX12_isDue 15 = .ok (.goto 4, 3) := by decide +kernel
theorem dX12_isDue_19 : decode cX12_isDue 19 = .ok (.iconst 1, 1) := by decide +kernel
theorem dX12_isDue_20 : decode cX12_isDue 20 = .ok (.invokevirtual 185, 3) := by decide +kernel
theorem dX12_isDue_23 : decode cX12_isDue 23 = .ok (.ifCond .ne 15, 3) := by decide +kernel
theorem dX12_isDue_38 : decode cX12_isDue 38 = .ok (.iconst 0, 1) := by decide +kernel
theorem dX12_isDue_39 : decode cX12_isDue 39 = .ok (.ireturn, 1) := by decide +kernel
set_option maxRecDepth 20000 in
theorem ggX12_cached_X12_inRange : GoodIn wsX12_cached wsX12_inRange := goodIn_r _ [8] (by decide +kernel) (by decide +kernel)
set_option maxRecDepth 20000 in
theorem gX12_cached_X12_inRange : GoodIn wsX12_cached (va_wsS RX12 169 yX12_inRange wsX12_inRange) := goodIn_app (goodIn_of _ (by decide +kernel)) ggX12_cached_X12_inRange
set_option maxRecDepth 20000 in
theorem ggX12_cached_X12_throwsIf : GoodIn wsX12_cached wsX12_throwsIf := goodIn_r _ [12, 1, 13, 14, 15, 16, 17, 18, 19, 20, 21, 22, 23, 24, 25, 26, 27, 28, 29, 30, 31, 32, 33, 34, 35, 36, 37, 38, 39, 40, 41, 42, 43, 44, 45, 46, 47, 48, 49, 50, 51, 52, 53, 54, 55, 56, 57, 58, 59, 60, 61, 62, 63, 64, 65, 66] (by decide +kernel) (by decide +kernel)
set_option maxRecDepth 20000 in
theorem gX12_cached_X12_throwsIf : GoodIn wsX12_cached (wsV RX12 185 RX12 yX12_throwsIf wsX12_throwsIf) := goodIn_app (goodIn_of _ (by decide +kernel)) ggX12_cached_X12_throwsIf
theorem dX12_cached_0 : decode cX12_cached 0 = .ok (.aload_n 0, 1) := by decide +kernel
theorem dX12_cached_1 : decode cX12_cached 1 = .ok (.iconst 0, 1) := by decide +kernel
theorem dX12_cached_2 : decode cX12_cached 2 = .ok (.putfield 1, 3) := by decide +kernel
theorem dX12_cached_5 : decode cX12_cached 5 = .ok (.aload_n 0, 1) := by decide +kernel
theorem dX12_cached_6 : decode cX12_cached 6 = .ok (.iload_n 1, 1) := by decide +kernel
theorem dX12_cached_7 : decode cX12_cached 7 = .ok (.i2l, 1) := by decide +kernel
theorem dX12_cached_8 : decode cX12_cached 8 = .ok (.lconst 0, 1) := by decide +kernel
theorem dX12_cached_9 : decode cX12_cached 9 = .ok (.aload_n 0, 1) := by decide +kernel
theorem dX12_cached_10 : decode cX12_cached 10 = .ok (.getfield 133, 3) := by decide +kernel
theorem dX12_cached_13 : decode cX12_cached 13 = .ok (.iconst 1, 1) := by decide +kernel
theorem dX12_cached_14 : decode cX12_cached 14 = .ok (.isub, 1) := by decide +kernel
theorem dX12_cached_15 : decode cX12_cached 15 = .ok (.i2l, 1) := by decide +kernel
theorem dX12_cached_16 : decode cX12_cached 16 = .ok (.invokestatic 169, 3) := by decide +kernel
theorem dX12_cached_19 : decode cX12_cached 19 = .ok (.ifCond .ne 7, 3) := by decide +kernel
theorem dX12_cached_22 : decode cX12_cached 22 = .ok (.iconst 1, 1) := by decide +kernel
theorem dX12_cached_23 : decode cX12_cached 23 = .ok (.goto 4, 3) := by decide +kernel
theorem dX12_cached_27 : decode cX12_cached 27 = .ok (.iconst 1, 1) := by decide +kernel
theorem dX12_cached_28 : decode cX12_cached 28 = .ok (.invokevirtual 185, 3) := by decide +kernel
theorem dX12_cached_31 : decode cX12_cached 31 = .ok (.ifCond .ne 28, 3) := by decide +kernel
theorem dX12_cached_59 : decode cX12_cached 59 = .ok (.lconst 0, 1) := by decide +kernel
theorem dX12_cached_60 : decode cX12_cached 60 = .ok (.goto 14, 3) := by decide +kernel
theorem dX12_cached_74 : decode cX12_cached 74 = .ok (.lreturn, 1) := by decide +kernel
set_option maxRecDepth 20000 in
theorem ggX12_isMessage_X12_inRange : GoodIn wsX12_isMessage wsX12_inRange := goodIn_r _ [5] (by decide +kernel) (by decide +kernel)
set_option maxRecDepth 20000 in
theorem gX12_isMessage_X12_inRange : GoodIn wsX12_isMessage (va_wsS RX12 169 yX12_inRange wsX12_inRange) := goodIn_app (goodIn_of _ (by decide +kernel)) ggX12_isMessage_X12_inRange
theorem dX12_isMessage_0 : decode cX12_isMessage 0 = .ok (.iload_n 1, 1) := by decide +kernel
theorem dX12_isMessage_1 : decode cX12_isMessage 1 = .ok (.i2l, 1) := by decide +kernel
theorem dX12_isMessage_2 : decode cX12_isMessage 2 = .ok (.lconst 0, 1) := by decide +kernel
theorem dX12_isMessage_3 : decode cX12_isMessage 3 = .ok (.aload_n 0, 1) := by decide +kernel
theorem dX12_isMessage_4 : decode cX12_isMessage 4 = .ok (.getfield 139, 3) := by decide +kernel
theorem dX12_isMessage_7 : decode cX12_isMessage 7 = .ok (.iconst 1, 1) := by decide +kernel
theorem dX12_isMessage_8 : decode cX12_isMessage 8 = .ok (.isub, 1) := by decide +kernel
theorem dX12_isMessage_9 : decode cX12_isMessage 9 = .ok (.i2l, 1) := by decide +kernel
theorem dX12_isMessage_10 : decode cX12_isMessage 10 = .ok (.invokestatic 169, 3) := by decide +kernel
theorem dX12_isMessage_13 : decode cX12_isMessage 13 = .ok (.ireturn, 1) := by decide +kernel
set_option maxRecDepth 20000 in
theorem ggX12_messageLength_X12_isMessage : GoodIn wsX12_messageLength wsX12_isMessage := goodIn_r _ [7, 8, 9, 10, 6, 11, 16, 17, 18, 19, 20, 21, 22, 23, 24, 25, 26, 27, 28, 29, 30, 31, 32, 33, 34, 35, 36, 37, 38, 39, 40, 41, 42, 43, 44, 45, 46, 47, 48, 49, 50, 51, 52, 53, 54, 55, 56, 57, 58, 59, 60, 61, 62, 63, 64, 65, 66, 67, 68, 69] (by decide +kernel) (by decide +kernel)
set_option maxRecDepth 20000 in
theorem gX12_messageLength_X12_isMessage : GoodIn wsX12_messageLength (wsV RX12 311 RX12 yX12_isMessage wsX12_isMessage) := goodIn_app (goodIn_of _ (by decide +kernel)) ggX12_messageLength_X12_isMessage
set_option maxRecDepth 20000 in
theorem ggX12_messageLength_X12_throwsIf : GoodIn wsX12_messageLength wsX12_throwsIf := goodIn_r _ [15, 1, 16, 17, 18, 19, 20, 21, 22, 23, 24, 25, 26, 27, 28, 29, 30, 31, 32, 33, 34, 35, 36, 37, 38, 39, 40, 41, 42, 43, 44, 45, 46, 47, 48, 49, 50, 51, 52, 53, 54, 55, 56, 57, 58, 59, 60, 61, 62, 63, 64, 65, 66, 67, 68, 69] (by decide +kernel) (by decide +kernel)
set_option maxRecDepth 20000 in
theorem gX12_messageLength_X12_throwsIf : GoodIn wsX12_messageLength (wsV RX12 185 RX12 yX12_throwsIf wsX12_throwsIf) := goodIn_app (goodIn_of _ (by decide +kernel)) ggX12_messageLength_X12_throwsIf
theorem dX12_messageLength_0 : decode cX12_messageLength 0 = .ok (.aload_n 0, 1) := by decide +kernel
theorem dX12_messageLength_1 : decode cX12_messageLength 1 = .ok (.iconst 0, 1) := by decide +kernel
theorem dX12_messageLength_2 : decode cX12_messageLength 2 = .ok (.putfield 1, 3) := by decide +kernel
theorem dX12_messageLength_5 : decode cX12_messageLength 5 = .ok (.aload_n 0, 1) := by decide +kernel
theorem dX12_messageLength_6 : decode cX12_messageLength 6 = .ok (.aload_n 0, 1) := by decide +kernel
theorem dX12_messageLength_7 : decode cX12_messageLength 7 = .ok (.iload_n 1, 1) := by decide +kernel
theorem dX12_messageLength_8 : decode cX12_messageLength 8 = .ok (.invokevirtual 311, 3) := by decide +kernel
theorem dX12_messageLength_11 : decode cX12_messageLength 11 = .ok (.ifCond .ne 7, 3) := by decide +kernel
theorem dX12_messageLength_14 : decode cX12_messageLength 14 = .ok (.iconst 1, 1) := by decide +kernel
theorem dX12_messageLength_15 : decode cX12_messageLength 15 = .ok (.goto 4, 3) := by decide +kernel
theorem dX12_messageLength_19 : decode cX12_messageLength 19 = .ok (.iconst 1, 1) := by decide +kernel
theorem dX12_messageLength_20 : decode cX12_messageLength 20 = .ok (.invokevirtual 185, 3) := by decide +kernel
theorem dX12_messageLength_23 : decode cX12_messageLength 23 = .ok (.ifCond .eq 7, 3) := by decide +kernel
theorem dX12_messageLength_26 : decode cX12_messageLength 26 = .ok (.iconst 0, 1) := by decide +kernel
theorem dX12_messageLength_27 : decode cX12_messageLength 27 = .ok (.goto 9, 3) := by decide +kernel
theorem dX12_messageLength_36 : decode cX12_messageLength 36 = .ok (.ireturn, 1) := by decide +kernel
set_option maxRecDepth 20000 in
theorem ggX12_messageByte_X12_isMessage : GoodIn wsX12_messageByte wsX12_isMessage := goodIn_r _ [8, 9, 10, 11, 7, 12, 17, 18, 19, 20, 21, 22, 23, 24, 25, 26, 27, 28, 29, 30, 31, 32, 33, 34, 35, 36, 37, 38, 39, 40, 41, 42, 43, 44, 45, 46, 47, 48, 49, 50, 51, 52, 53, 54, 55, 56, 57, 58, 59, 60, 61, 62, 63, 64, 65, 66, 67, 68, 69, 70] (by decide +kernel) (by decide +kernel)
set_option maxRecDepth 20000 in
theorem gX12_messageByte_X12_isMessage : GoodIn wsX12_messageByte (wsV RX12 311 RX12 yX12_isMessage wsX12_isMessage) := goodIn_app (goodIn_of _ (by decide +kernel)) ggX12_messageByte_X12_isMessage
set_option maxRecDepth 20000 in
theorem ggX12_messageByte_X12_throwsIf : GoodIn wsX12_messageByte wsX12_throwsIf := goodIn_r _ [16, 1, 17, 18, 19, 20, 21, 22, 23, 24, 25, 26, 27, 28, 29, 30, 31, 32, 33, 34, 35, 36, 37, 38, 39, 40, 41, 42, 43, 44, 45, 46, 47, 48, 49, 50, 51, 52, 53, 54, 55, 56, 57, 58, 59, 60, 61, 62, 63, 64, 65, 66, 67, 68, 69, 70] (by decide +kernel) (by decide +kernel)
set_option maxRecDepth 20000 in
theorem gX12_messageByte_X12_throwsIf : GoodIn wsX12_messageByte (wsV RX12 185 RX12 yX12_throwsIf wsX12_throwsIf) := goodIn_app (goodIn_of _ (by decide +kernel)) ggX12_messageByte_X12_throwsIf
theorem dX12_messageByte_0 : decode cX12_messageByte 0 = .ok (.aload_n 0, 1) := by decide +kernel
theorem dX12_messageByte_1 : decode cX12_messageByte 1 = .ok (.iconst 0, 1) := by decide +kernel
theorem dX12_messageByte_2 : decode cX12_messageByte 2 = .ok (.putfield 1, 3) := by decide +kernel
theorem dX12_messageByte_5 : decode cX12_messageByte 5 = .ok (.aload_n 0, 1) := by decide +kernel
theorem dX12_messageByte_6 : decode cX12_messageByte 6 = .ok (.aload_n 0, 1) := by decide +kernel
theorem dX12_messageByte_7 : decode cX12_messageByte 7 = .ok (.iload_n 1, 1) := by decide +kernel
theorem dX12_messageByte_8 : decode cX12_messageByte 8 = .ok (.invokevirtual 311, 3) := by decide +kernel
theorem dX12_messageByte_11 : decode cX12_messageByte 11 = .ok (.ifCond .ne 7, 3) := by decide +kernel
theorem dX12_messageByte_14 : decode cX12_messageByte 14 = .ok (.iconst 1, 1) := by decide +kernel
theorem dX12_messageByte_15 : decode cX12_messageByte 15 = .ok (.goto 4, 3) := by decide +kernel
theorem dX12_messageByte_19 : decode cX12_messageByte 19 = .ok (.iconst 1, 1) := by decide +kernel
theorem dX12_messageByte_20 : decode cX12_messageByte 20 = .ok (.invokevirtual 185, 3) := by decide +kernel
theorem dX12_messageByte_23 : decode cX12_messageByte 23 = .ok (.ifCond .eq 7, 3) := by decide +kernel
theorem dX12_messageByte_26 : decode cX12_messageByte 26 = .ok (.iconst 0, 1) := by decide +kernel
theorem dX12_messageByte_27 : decode cX12_messageByte 27 = .ok (.goto 37, 3) := by decide +kernel
theorem dX12_messageByte_64 : decode cX12_messageByte 64 = .ok (.ireturn, 1) := by decide +kernel
set_option maxRecDepth 20000 in
theorem ggX12_deliver_X12_isMessage : GoodIn wsX12_deliver wsX12_isMessage := goodIn_r _ [10, 11, 12, 13, 9, 14, 115, 116, 117, 118, 119, 120, 121, 122, 123, 124, 125, 126, 127, 128, 129, 130, 131, 132, 133, 134, 135, 136, 137, 138, 139, 140, 141, 142, 143, 144, 145, 146, 147, 148, 149, 150, 151, 152, 153, 154, 155, 156, 157, 158, 159, 160, 161, 162, 163, 164, 165, 166, 167, 168] (by decide +kernel) (by decide +kernel)
set_option maxRecDepth 20000 in
theorem gX12_deliver_X12_isMessage : GoodIn wsX12_deliver (wsV RX12 311 RX12 yX12_isMessage wsX12_isMessage) := goodIn_app (goodIn_of _ (by decide +kernel)) ggX12_deliver_X12_isMessage
set_option maxRecDepth 20000 in
theorem ggX12_deliver_X12_throwsIf : GoodIn wsX12_deliver wsX12_throwsIf := goodIn_r _ [18, 1, 115, 116, 117, 118, 119, 120, 121, 122, 123, 124, 125, 126, 127, 128, 129, 130, 131, 132, 133, 134, 135, 136, 137, 138, 139, 140, 141, 142, 143, 144, 145, 146, 147, 148, 149, 150, 151, 152, 153, 154, 155, 156, 157, 158, 159, 160, 161, 162, 163, 164, 165, 166, 167, 168] (by decide +kernel) (by decide +kernel)
set_option maxRecDepth 20000 in
theorem gX12_deliver_X12_throwsIf : GoodIn wsX12_deliver (wsV RX12 185 RX12 yX12_throwsIf wsX12_throwsIf) := goodIn_app (goodIn_of _ (by decide +kernel)) ggX12_deliver_X12_throwsIf
theorem dX12_deliver_0 : decode cX12_deliver 0 = .ok (.aload_n 0, 1) := by decide +kernel
theorem dX12_deliver_1 : decode cX12_deliver 1 = .ok (.iconst 0, 1) := by decide +kernel
theorem dX12_deliver_2 : decode cX12_deliver 2 = .ok (.putfield 1, 3) := by decide +kernel
theorem dX12_deliver_5 : decode cX12_deliver 5 = .ok (.aload_n 0, 1) := by decide +kernel
theorem dX12_deliver_6 : decode cX12_deliver 6 = .ok (.aload_n 0, 1) := by decide +kernel
theorem dX12_deliver_7 : decode cX12_deliver 7 = .ok (.iload_n 1, 1) := by decide +kernel
theorem dX12_deliver_8 : decode cX12_deliver 8 = .ok (.invokevirtual 311, 3) := by decide +kernel
theorem dX12_deliver_11 : decode cX12_deliver 11 = .ok (.ifCond .ne 7, 3) := by decide +kernel
theorem dX12_deliver_14 : decode cX12_deliver 14 = .ok (.iconst 1, 1) := by decide +kernel
theorem dX12_deliver_15 : decode cX12_deliver 15 = .ok (.goto 4, 3) := by decide +kernel
theorem dX12_deliver_19 : decode cX12_deliver 19 = .ok (.iconst 1, 1) := by decide +kernel
theorem dX12_deliver_20 : decode cX12_deliver 20 = .ok (.invokevirtual 185, 3) := by decide +kernel
theorem dX12_deliver_23 : decode cX12_deliver 23 = .ok (.ifCond .eq 5, 3) := by decide +kernel
theorem dX12_deliver_26 : decode cX12_deliver 26 = .ok (.iconst 0, 1) := by decide +kernel
theorem dX12_deliver_27 : decode cX12_deliver 27 = .ok (.ireturn, 1) := by decide +kernel
set_option maxRecDepth 20000 in
theorem ggX12_lose_X12_isMessage : GoodIn wsX12_lose wsX12_isMessage := goodIn_r _ [7, 8, 9, 10, 6, 11, 25, 26, 27, 28, 29, 30, 31, 32, 33, 34, 35, 36, 37, 38, 39, 40, 41, 42, 43, 44, 45, 46, 47, 48, 49, 50, 51, 52, 53, 54, 55, 56, 57, 58, 59, 60, 61, 62, 63, 64, 65, 66, 67, 68, 69, 70, 71, 72, 73, 74, 75, 76, 77, 78] (by decide +kernel) (by decide +kernel)
set_option maxRecDepth 20000 in
theorem gX12_lose_X12_isMessage : GoodIn wsX12_lose (wsV RX12 311 RX12 yX12_isMessage wsX12_isMessage) := goodIn_app (goodIn_of _ (by decide +kernel)) ggX12_lose_X12_isMessage
set_option maxRecDepth 20000 in
theorem ggX12_lose_X12_throwsIf : GoodIn wsX12_lose wsX12_throwsIf := goodIn_r _ [15, 1, 25, 26, 27, 28, 29, 30, 31, 32, 33, 34, 35, 36, 37, 38, 39, 40, 41, 42, 43, 44, 45, 46, 47, 48, 49, 50, 51, 52, 53, 54, 55, 56, 57, 58, 59, 60, 61, 62, 63, 64, 65, 66, 67, 68, 69, 70, 71, 72, 73, 74, 75, 76, 77, 78] (by decide +kernel) (by decide +kernel)
set_option maxRecDepth 20000 in
theorem gX12_lose_X12_throwsIf : GoodIn wsX12_lose (wsV RX12 185 RX12 yX12_throwsIf wsX12_throwsIf) := goodIn_app (goodIn_of _ (by decide +kernel)) ggX12_lose_X12_throwsIf
theorem dX12_lose_0 : decode cX12_lose 0 = .ok (.aload_n 0, 1) := by decide +kernel
theorem dX12_lose_1 : decode cX12_lose 1 = .ok (.iconst 0, 1) := by decide +kernel
theorem dX12_lose_2 : decode cX12_lose 2 = .ok (.putfield 1, 3) := by decide +kernel
theorem dX12_lose_5 : decode cX12_lose 5 = .ok (.aload_n 0, 1) := by decide +kernel
theorem dX12_lose_6 : decode cX12_lose 6 = .ok (.aload_n 0, 1) := by decide +kernel
theorem dX12_lose_7 : decode cX12_lose 7 = .ok (.iload_n 1, 1) := by decide +kernel
theorem dX12_lose_8 : decode cX12_lose 8 = .ok (.invokevirtual 311, 3) := by decide +kernel
theorem dX12_lose_11 : decode cX12_lose 11 = .ok (.ifCond .ne 7, 3) := by decide +kernel
theorem dX12_lose_14 : decode cX12_lose 14 = .ok (.iconst 1, 1) := by decide +kernel
theorem dX12_lose_15 : decode cX12_lose 15 = .ok (.goto 4, 3) := by decide +kernel
theorem dX12_lose_19 : decode cX12_lose 19 = .ok (.iconst 1, 1) := by decide +kernel
theorem dX12_lose_20 : decode cX12_lose 20 = .ok (.invokevirtual 185, 3) := by decide +kernel
theorem dX12_lose_23 : decode cX12_lose 23 = .ok (.ifCond .eq 5, 3) := by decide +kernel
theorem dX12_lose_26 : decode cX12_lose 26 = .ok (.iconst 0, 1) := by decide +kernel
theorem dX12_lose_27 : decode cX12_lose 27 = .ok (.ireturn, 1) := by decide +kernel
set_option maxRecDepth 20000 in
theorem ggX12_duplicate_X12_isMessage : GoodIn wsX12_duplicate wsX12_isMessage := goodIn_r _ [7, 2, 8, 9, 6, 10, 21, 22, 23, 24, 25, 26, 27, 28, 29, 30, 31, 32, 33, 34, 35, 36, 37, 38, 39, 40, 41, 42, 43, 44, 45, 46, 47, 48, 49, 50, 51, 52, 53, 54, 55, 56, 57, 58, 59, 60, 61, 62, 63, 64, 65, 66, 67, 68, 69, 70, 71, 72, 73, 74] (by decide +kernel) (by decide +kernel)
set_option maxRecDepth 20000 in
theorem gX12_duplicate_X12_isMessage : GoodIn wsX12_duplicate (wsV RX12 311 RX12 yX12_isMessage wsX12_isMessage) := goodIn_app (goodIn_of _ (by decide +kernel)) ggX12_duplicate_X12_isMessage
set_option maxRecDepth 20000 in
theorem ggX12_duplicate_X12_throwsIf : GoodIn wsX12_duplicate wsX12_throwsIf := goodIn_r _ [14, 1, 21, 22, 23, 24, 25, 26, 27, 28, 29, 30, 31, 32, 33, 34, 35, 36, 37, 38, 39, 40, 41, 42, 43, 44, 45, 46, 47, 48, 49, 50, 51, 52, 53, 54, 55, 56, 57, 58, 59, 60, 61, 62, 63, 64, 65, 66, 67, 68, 69, 70, 71, 72, 73, 74] (by decide +kernel) (by decide +kernel)
set_option maxRecDepth 20000 in
theorem gX12_duplicate_X12_throwsIf : GoodIn wsX12_duplicate (wsV RX12 185 RX12 yX12_throwsIf wsX12_throwsIf) := goodIn_app (goodIn_of _ (by decide +kernel)) ggX12_duplicate_X12_throwsIf
theorem dX12_duplicate_0 : decode cX12_duplicate 0 = .ok (.aload_n 0, 1) := by decide +kernel
theorem dX12_duplicate_1 : decode cX12_duplicate 1 = .ok (.iconst 0, 1) := by decide +kernel
theorem dX12_duplicate_2 : decode cX12_duplicate 2 = .ok (.putfield 1, 3) := by decide +kernel
theorem dX12_duplicate_5 : decode cX12_duplicate 5 = .ok (.aload_n 0, 1) := by decide +kernel
theorem dX12_duplicate_6 : decode cX12_duplicate 6 = .ok (.aload_n 0, 1) := by decide +kernel
theorem dX12_duplicate_7 : decode cX12_duplicate 7 = .ok (.iload_n 1, 1) := by decide +kernel
theorem dX12_duplicate_8 : decode cX12_duplicate 8 = .ok (.invokevirtual 311, 3) := by decide +kernel
theorem dX12_duplicate_11 : decode cX12_duplicate 11 = .ok (.ifCond .ne 7, 3) := by decide +kernel
theorem dX12_duplicate_14 : decode cX12_duplicate 14 = .ok (.iconst 1, 1) := by decide +kernel
theorem dX12_duplicate_15 : decode cX12_duplicate 15 = .ok (.goto 4, 3) := by decide +kernel
theorem dX12_duplicate_19 : decode cX12_duplicate 19 = .ok (.iconst 1, 1) := by decide +kernel
theorem dX12_duplicate_20 : decode cX12_duplicate 20 = .ok (.invokevirtual 185, 3) := by decide +kernel
theorem dX12_duplicate_23 : decode cX12_duplicate 23 = .ok (.ifCond .ne 12, 3) := by decide +kernel
theorem dX12_duplicate_35 : decode cX12_duplicate 35 = .ok (.iconst 0, 1) := by decide +kernel
theorem dX12_duplicate_36 : decode cX12_duplicate 36 = .ok (.ireturn, 1) := by decide +kernel
set_option maxRecDepth 20000 in
theorem ggX12_exchange_X12_isMessage : GoodIn wsX12_exchange wsX12_isMessage := goodIn_r _ [8, 9, 10, 11, 7, 12, 17, 18, 19, 20, 21, 22, 23, 24, 25, 26, 27, 28, 29, 30, 31, 32, 33, 34, 35, 36, 37, 38, 39, 40, 41, 42, 43, 44, 45, 46, 47, 48, 49, 50, 51, 52, 53, 54, 55, 56, 57, 58, 59, 60, 61, 62, 63, 64, 65, 66, 67, 68, 69, 70] (by decide +kernel) (by decide +kernel)
set_option maxRecDepth 20000 in
theorem gX12_exchange_X12_isMessage : GoodIn wsX12_exchange (wsV RX12 311 RX12 yX12_isMessage wsX12_isMessage) := goodIn_app (goodIn_of _ (by decide +kernel)) ggX12_exchange_X12_isMessage
set_option maxRecDepth 20000 in
theorem ggX12_exchange_X12_throwsIf : GoodIn wsX12_exchange wsX12_throwsIf := goodIn_r _ [16, 1, 17, 18, 19, 20, 21, 22, 23, 24, 25, 26, 27, 28, 29, 30, 31, 32, 33, 34, 35, 36, 37, 38, 39, 40, 41, 42, 43, 44, 45, 46, 47, 48, 49, 50, 51, 52, 53, 54, 55, 56, 57, 58, 59, 60, 61, 62, 63, 64, 65, 66, 67, 68, 69, 70] (by decide +kernel) (by decide +kernel)
set_option maxRecDepth 20000 in
theorem gX12_exchange_X12_throwsIf : GoodIn wsX12_exchange (wsV RX12 185 RX12 yX12_throwsIf wsX12_throwsIf) := goodIn_app (goodIn_of _ (by decide +kernel)) ggX12_exchange_X12_throwsIf
theorem dX12_exchange_0 : decode cX12_exchange 0 = .ok (.aload_n 0, 1) := by decide +kernel
theorem dX12_exchange_1 : decode cX12_exchange 1 = .ok (.iconst 0, 1) := by decide +kernel
theorem dX12_exchange_2 : decode cX12_exchange 2 = .ok (.putfield 1, 3) := by decide +kernel
theorem dX12_exchange_5 : decode cX12_exchange 5 = .ok (.aload_n 0, 1) := by decide +kernel
theorem dX12_exchange_6 : decode cX12_exchange 6 = .ok (.aload_n 0, 1) := by decide +kernel
theorem dX12_exchange_7 : decode cX12_exchange 7 = .ok (.iload_n 1, 1) := by decide +kernel
theorem dX12_exchange_8 : decode cX12_exchange 8 = .ok (.invokevirtual 311, 3) := by decide +kernel
theorem dX12_exchange_11 : decode cX12_exchange 11 = .ok (.ifCond .eq 11, 3) := by decide +kernel
theorem dX12_exchange_22 : decode cX12_exchange 22 = .ok (.iconst 1, 1) := by decide +kernel
theorem dX12_exchange_23 : decode cX12_exchange 23 = .ok (.goto 4, 3) := by decide +kernel
theorem dX12_exchange_27 : decode cX12_exchange 27 = .ok (.iconst 1, 1) := by decide +kernel
theorem dX12_exchange_28 : decode cX12_exchange 28 = .ok (.invokevirtual 185, 3) := by decide +kernel
theorem dX12_exchange_31 : decode cX12_exchange 31 = .ok (.ifCond .ne 8, 3) := by decide +kernel
theorem dX12_exchange_39 : decode cX12_exchange 39 = .ok (.iconst 0, 1) := by decide +kernel
theorem dX12_exchange_40 : decode cX12_exchange 40 = .ok (.ireturn, 1) := by decide +kernel
set_option maxRecDepth 20000 in
theorem ggX12_templateAge_X12_inRange : GoodIn wsX12_templateAge wsX12_inRange := goodIn_r _ [9] (by decide +kernel) (by decide +kernel)
set_option maxRecDepth 20000 in
theorem gX12_templateAge_X12_inRange : GoodIn wsX12_templateAge (va_wsS RX12 169 yX12_inRange wsX12_inRange) := goodIn_app (goodIn_of _ (by decide +kernel)) ggX12_templateAge_X12_inRange
set_option maxRecDepth 20000 in
theorem ggX12_templateAge_X12_throwsIf : GoodIn wsX12_templateAge wsX12_throwsIf := goodIn_r _ [13, 1, 14, 15, 16, 17, 18, 19, 20, 21, 22, 23, 24, 25, 26, 27, 28, 29, 30, 31, 32, 33, 34, 35, 36, 37, 38, 39, 40, 41, 42, 43, 44, 45, 46, 47, 48, 49, 50, 51, 52, 53, 54, 55, 56, 57, 58, 59, 60, 61, 62, 63, 64, 65, 66, 67] (by decide +kernel) (by decide +kernel)
set_option maxRecDepth 20000 in
theorem gX12_templateAge_X12_throwsIf : GoodIn wsX12_templateAge (wsV RX12 185 RX12 yX12_throwsIf wsX12_throwsIf) := goodIn_app (goodIn_of _ (by decide +kernel)) ggX12_templateAge_X12_throwsIf
theorem dX12_templateAge_0 : decode cX12_templateAge 0 = .ok (.aload_n 0, 1) := by decide +kernel
theorem dX12_templateAge_1 : decode cX12_templateAge 1 = .ok (.iconst 0, 1) := by decide +kernel
theorem dX12_templateAge_2 : decode cX12_templateAge 2 = .ok (.putfield 1, 3) := by decide +kernel
theorem dX12_templateAge_5 : decode cX12_templateAge 5 = .ok (.aload_n 0, 1) := by decide +kernel
theorem dX12_templateAge_6 : decode cX12_templateAge 6 = .ok (.iload_n 1, 1) := by decide +kernel
theorem dX12_templateAge_7 : decode cX12_templateAge 7 = .ok (.i2l, 1) := by decide +kernel
theorem dX12_templateAge_8 : decode cX12_templateAge 8 = .ok (.lconst 0, 1) := by decide +kernel
theorem dX12_templateAge_9 : decode cX12_templateAge 9 = .ok (.ldc2_w 337, 3) := by decide +kernel
theorem dX12_templateAge_12 : decode cX12_templateAge 12 = .ok (.invokestatic 169, 3) := by decide +kernel
theorem dX12_templateAge_15 : decode cX12_templateAge 15 = .ok (.ifCond .ne 7, 3) := by decide +kernel
theorem dX12_templateAge_18 : decode cX12_templateAge 18 = .ok (.iconst 1, 1) := by decide +kernel
theorem dX12_templateAge_19 : decode cX12_templateAge 19 = .ok (.goto 4, 3) := by decide +kernel
theorem dX12_templateAge_23 : decode cX12_templateAge 23 = .ok (.iconst 1, 1) := by decide +kernel
theorem dX12_templateAge_24 : decode cX12_templateAge 24 = .ok (.invokevirtual 185, 3) := by decide +kernel
theorem dX12_templateAge_27 : decode cX12_templateAge 27 = .ok (.ifCond .eq 5, 3) := by decide +kernel
theorem dX12_templateAge_30 : decode cX12_templateAge 30 = .ok (.iconst 0, 1) := by decide +kernel
theorem dX12_templateAge_31 : decode cX12_templateAge 31 = .ok (.ireturn, 1) := by decide +kernel
set_option maxRecDepth 20000 in
theorem ggX12_counter_X12_inRange : GoodIn wsX12_counter wsX12_inRange := goodIn_r _ [7] (by decide +kernel) (by decide +kernel)
set_option maxRecDepth 20000 in
theorem gX12_counter_X12_inRange : GoodIn wsX12_counter (va_wsS RX12 169 yX12_inRange wsX12_inRange) := goodIn_app (goodIn_of _ (by decide +kernel)) ggX12_counter_X12_inRange
set_option maxRecDepth 20000 in
theorem ggX12_counter_X12_throwsIf : GoodIn wsX12_counter wsX12_throwsIf := goodIn_r _ [11, 1, 12, 13, 14, 15, 16, 17, 18, 19, 20, 21, 22, 23, 24, 25, 26, 27, 28, 29, 30, 31, 32, 33, 34, 35, 36, 37, 38, 39, 40, 41, 42, 43, 44, 45, 46, 47, 48, 49, 50, 51, 52, 53, 54, 55, 56, 57, 58, 59, 60, 61, 62, 63, 64, 65] (by decide +kernel) (by decide +kernel)
set_option maxRecDepth 20000 in
theorem gX12_counter_X12_throwsIf : GoodIn wsX12_counter (wsV RX12 185 RX12 yX12_throwsIf wsX12_throwsIf) := goodIn_app (goodIn_of _ (by decide +kernel)) ggX12_counter_X12_throwsIf
theorem dX12_counter_0 : decode cX12_counter 0 = .ok (.aload_n 0, 1) := by decide +kernel
theorem dX12_counter_1 : decode cX12_counter 1 = .ok (.iconst 0, 1) := by decide +kernel
theorem dX12_counter_2 : decode cX12_counter 2 = .ok (.putfield 1, 3) := by decide +kernel
theorem dX12_counter_5 : decode cX12_counter 5 = .ok (.aload_n 0, 1) := by decide +kernel
theorem dX12_counter_6 : decode cX12_counter 6 = .ok (.iload_n 1, 1) := by decide +kernel
theorem dX12_counter_7 : decode cX12_counter 7 = .ok (.i2l, 1) := by decide +kernel
theorem dX12_counter_8 : decode cX12_counter 8 = .ok (.lconst 0, 1) := by decide +kernel
theorem dX12_counter_9 : decode cX12_counter 9 = .ok (.ldc2_w 204, 3) := by decide +kernel
theorem dX12_counter_12 : decode cX12_counter 12 = .ok (.invokestatic 169, 3) := by decide +kernel
theorem dX12_counter_15 : decode cX12_counter 15 = .ok (.ifCond .ne 7, 3) := by decide +kernel
theorem dX12_counter_18 : decode cX12_counter 18 = .ok (.iconst 1, 1) := by decide +kernel
theorem dX12_counter_19 : decode cX12_counter 19 = .ok (.goto 4, 3) := by decide +kernel
theorem dX12_counter_23 : decode cX12_counter 23 = .ok (.iconst 1, 1) := by decide +kernel
theorem dX12_counter_24 : decode cX12_counter 24 = .ok (.invokevirtual 185, 3) := by decide +kernel
theorem dX12_counter_27 : decode cX12_counter 27 = .ok (.ifCond .eq 7, 3) := by decide +kernel
theorem dX12_counter_30 : decode cX12_counter 30 = .ok (.lconst 0, 1) := by decide +kernel
theorem dX12_counter_31 : decode cX12_counter 31 = .ok (.goto 9, 3) := by decide +kernel
theorem dX12_counter_40 : decode cX12_counter 40 = .ok (.lreturn, 1) := by decide +kernel
set_option maxRecDepth 20000 in
theorem ggX12_lossRate_X12_throwsIf : GoodIn wsX12_lossRate wsX12_throwsIf := goodIn_r _ [7, 1, 8, 9, 10, 11, 12, 13, 14, 15, 16, 17, 18, 19, 20, 21, 22, 23, 24, 25, 26, 27, 28, 29, 30, 31, 32, 33, 34, 35, 36, 37, 38, 39, 40, 41, 42, 43, 44, 45, 46, 47, 48, 49, 50, 51, 52, 53, 54, 55, 56, 57, 58, 59, 60, 61] (by decide +kernel) (by decide +kernel)
set_option maxRecDepth 20000 in
theorem gX12_lossRate_X12_throwsIf : GoodIn wsX12_lossRate (wsV RX12 185 RX12 yX12_throwsIf wsX12_throwsIf) := goodIn_app (goodIn_of _ (by decide +kernel)) ggX12_lossRate_X12_throwsIf
theorem dX12_lossRate_0 : decode cX12_lossRate 0 = .ok (.aload_n 0, 1) := by decide +kernel
theorem dX12_lossRate_1 : decode cX12_lossRate 1 = .ok (.iconst 0, 1) := by decide +kernel
theorem dX12_lossRate_2 : decode cX12_lossRate 2 = .ok (.putfield 1, 3) := by decide +kernel
theorem dX12_lossRate_5 : decode cX12_lossRate 5 = .ok (.aload_n 0, 1) := by decide +kernel
theorem dX12_lossRate_6 : decode cX12_lossRate 6 = .ok (.getfield 45, 3) := by decide +kernel
theorem dX12_lossRate_9 : decode cX12_lossRate 9 = .ok (.iconst 0, 1) := by decide +kernel
theorem dX12_lossRate_10 : decode cX12_lossRate 10 = .ok (.laload, 1) := by decide +kernel
theorem dX12_lossRate_11 : decode cX12_lossRate 11 = .ok (.aload_n 0, 1) := by decide +kernel
theorem dX12_lossRate_12 : decode cX12_lossRate 12 = .ok (.getfield 45, 3) := by decide +kernel
theorem dX12_lossRate_15 : decode cX12_lossRate 15 = .ok (.bipush 7, 2) := by decide +kernel
theorem dX12_lossRate_17 : decode cX12_lossRate 17 = .ok (.laload, 1) := by decide +kernel
theorem dX12_lossRate_18 : decode cX12_lossRate 18 = .ok (.ladd, 1) := by decide +kernel
theorem dX12_lossRate_19 : decode cX12_lossRate 19 = .ok (.lstore_n 1, 1) := by decide +kernel
theorem dX12_lossRate_20 : decode cX12_lossRate 20 = .ok (.aload_n 0, 1) := by decide +kernel
theorem dX12_lossRate_21 : decode cX12_lossRate 21 = .ok (.lload_n 1, 1) := by decide +kernel
theorem dX12_lossRate_22 : decode cX12_lossRate 22 = .ok (.lconst 0, 1) := by decide +kernel
theorem dX12_lossRate_23 : decode cX12_lossRate 23 = .ok (.lcmp, 1) := by decide +kernel
theorem dX12_lossRate_24 : decode cX12_lossRate 24 = .ok (.ifCond .ne 7, 3) := by decide +kernel
theorem dX12_lossRate_27 : decode cX12_lossRate 27 = .ok (.iconst 1, 1) := by decide +kernel
theorem dX12_lossRate_28 : decode cX12_lossRate 28 = .ok (.goto 4, 3) := by decide +kernel
theorem dX12_lossRate_32 : decode cX12_lossRate 32 = .ok (.iconst 1, 1) := by decide +kernel
theorem dX12_lossRate_33 : decode cX12_lossRate 33 = .ok (.invokevirtual 185, 3) := by decide +kernel
theorem dX12_lossRate_36 : decode cX12_lossRate 36 = .ok (.ifCond .eq 7, 3) := by decide +kernel
theorem dX12_lossRate_39 : decode cX12_lossRate 39 = .ok (.dconst 0, 1) := by decide +kernel
theorem dX12_lossRate_40 : decode cX12_lossRate 40 = .ok (.goto 13, 3) := by decide +kernel
theorem dX12_lossRate_53 : decode cX12_lossRate 53 = .ok (.dreturn, 1) := by decide +kernel
set_option maxRecDepth 20000 in
theorem ggX12_isKey_X12_inRange : GoodIn wsX12_isKey wsX12_inRange := goodIn_r _ [5] (by decide +kernel) (by decide +kernel)
set_option maxRecDepth 20000 in
theorem gX12_isKey_X12_inRange : GoodIn wsX12_isKey (va_wsS RX12 169 yX12_inRange wsX12_inRange) := goodIn_app (goodIn_of _ (by decide +kernel)) ggX12_isKey_X12_inRange
theorem dX12_isKey_0 : decode cX12_isKey 0 = .ok (.iload_n 1, 1) := by decide +kernel
theorem dX12_isKey_1 : decode cX12_isKey 1 = .ok (.i2l, 1) := by decide +kernel
theorem dX12_isKey_2 : decode cX12_isKey 2 = .ok (.lconst 0, 1) := by decide +kernel
theorem dX12_isKey_3 : decode cX12_isKey 3 = .ok (.aload_n 0, 1) := by decide +kernel
theorem dX12_isKey_4 : decode cX12_isKey 4 = .ok (.getfield 148, 3) := by decide +kernel
theorem dX12_isKey_7 : decode cX12_isKey 7 = .ok (.iconst 1, 1) := by decide +kernel
theorem dX12_isKey_8 : decode cX12_isKey 8 = .ok (.isub, 1) := by decide +kernel
theorem dX12_isKey_9 : decode cX12_isKey 9 = .ok (.i2l, 1) := by decide +kernel
theorem dX12_isKey_10 : decode cX12_isKey 10 = .ok (.invokestatic 169, 3) := by decide +kernel
theorem dX12_isKey_13 : decode cX12_isKey 13 = .ok (.ireturn, 1) := by decide +kernel
set_option maxRecDepth 20000 in
theorem ggX12_isWhat_X12_inRange : GoodIn wsX12_isWhat wsX12_inRange := goodIn_r _ [4] (by decide +kernel) (by decide +kernel)
set_option maxRecDepth 20000 in
theorem gX12_isWhat_X12_inRange : GoodIn wsX12_isWhat (va_wsS RX12 169 yX12_inRange wsX12_inRange) := goodIn_app (goodIn_of _ (by decide +kernel)) ggX12_isWhat_X12_inRange
theorem dX12_isWhat_0 : decode cX12_isWhat 0 = .ok (.iload_n 0, 1) := by decide +kernel
theorem dX12_isWhat_1 : decode cX12_isWhat 1 = .ok (.i2l, 1) := by decide +kernel
theorem dX12_isWhat_2 : decode cX12_isWhat 2 = .ok (.lconst 0, 1) := by decide +kernel
theorem dX12_isWhat_3 : decode cX12_isWhat 3 = .ok (.lconst 1, 1) := by decide +kernel
theorem dX12_isWhat_4 : decode cX12_isWhat 4 = .ok (.invokestatic 169, 3) := by decide +kernel
theorem dX12_isWhat_7 : decode cX12_isWhat 7 = .ok (.ireturn, 1) := by decide +kernel
set_option maxRecDepth 20000 in
theorem ggX12_key_X12_isKey : GoodIn wsX12_key wsX12_isKey := goodIn_r _ [8, 9, 10, 11, 7, 12, 17, 18, 19, 20, 21, 22, 23, 24, 25, 26, 27, 28, 29, 30, 31, 32, 33, 34, 35, 36, 37, 38, 39, 40, 41, 42, 43, 44, 45, 46, 47, 48, 49, 50, 51, 52, 53, 54, 55, 56, 57, 58, 59, 60, 61, 62, 63, 64, 65, 66, 67, 68, 69, 70] (by decide +kernel) (by decide +kernel)
set_option maxRecDepth 20000 in
theorem gX12_key_X12_isKey : GoodIn wsX12_key (wsV RX12 394 RX12 yX12_isKey wsX12_isKey) := goodIn_app (goodIn_of _ (by decide +kernel)) ggX12_key_X12_isKey
set_option maxRecDepth 20000 in
theorem ggX12_key_X12_throwsIf : GoodIn wsX12_key wsX12_throwsIf := goodIn_r _ [16, 1, 17, 18, 19, 20, 21, 22, 23, 24, 25, 26, 27, 28, 29, 30, 31, 32, 33, 34, 35, 36, 37, 38, 39, 40, 41, 42, 43, 44, 45, 46, 47, 48, 49, 50, 51, 52, 53, 54, 55, 56, 57, 58, 59, 60, 61, 62, 63, 64, 65, 66, 67, 68, 69, 70] (by decide +kernel) (by decide +kernel)
set_option maxRecDepth 20000 in
theorem gX12_key_X12_throwsIf : GoodIn wsX12_key (wsV RX12 185 RX12 yX12_throwsIf wsX12_throwsIf) := goodIn_app (goodIn_of _ (by decide +kernel)) ggX12_key_X12_throwsIf
theorem dX12_key_0 : decode cX12_key 0 = .ok (.aload_n 0, 1) := by decide +kernel
theorem dX12_key_1 : decode cX12_key 1 = .ok (.iconst 0, 1) := by decide +kernel
theorem dX12_key_2 : decode cX12_key 2 = .ok (.putfield 1, 3) := by decide +kernel
theorem dX12_key_5 : decode cX12_key 5 = .ok (.aload_n 0, 1) := by decide +kernel
theorem dX12_key_6 : decode cX12_key 6 = .ok (.aload_n 0, 1) := by decide +kernel
theorem dX12_key_7 : decode cX12_key 7 = .ok (.iload_n 1, 1) := by decide +kernel
theorem dX12_key_8 : decode cX12_key 8 = .ok (.invokevirtual 394, 3) := by decide +kernel
theorem dX12_key_11 : decode cX12_key 11 = .ok (.ifCond .ne 7, 3) := by decide +kernel
theorem dX12_key_14 : decode cX12_key 14 = .ok (.iconst 1, 1) := by decide +kernel
theorem dX12_key_15 : decode cX12_key 15 = .ok (.goto 4, 3) := by decide +kernel
theorem dX12_key_19 : decode cX12_key 19 = .ok (.iconst 1, 1) := by decide +kernel
theorem dX12_key_20 : decode cX12_key 20 = .ok (.invokevirtual 185, 3) := by decide +kernel
theorem dX12_key_23 : decode cX12_key 23 = .ok (.ifCond .ne 28, 3) := by decide +kernel
theorem dX12_key_51 : decode cX12_key 51 = .ok (.iconst 0, 1) := by decide +kernel
theorem dX12_key_52 : decode cX12_key 52 = .ok (.goto 13, 3) := by decide +kernel
theorem dX12_key_65 : decode cX12_key 65 = .ok (.ireturn, 1) := by decide +kernel
set_option maxRecDepth 20000 in
theorem ggX12_raw_X12_isKey : GoodIn wsX12_raw wsX12_isKey := goodIn_r _ [7, 8, 9, 10, 6, 11, 19, 20, 21, 22, 23, 24, 25, 26, 27, 28, 29, 30, 31, 32, 33, 34, 35, 36, 37, 38, 39, 40, 41, 42, 43, 44, 45, 46, 47, 48, 49, 50, 51, 52, 53, 54, 55, 56, 57, 58, 59, 60, 61, 62, 63, 64, 65, 66, 67, 68, 69, 70, 71, 72] (by decide +kernel) (by decide +kernel)
set_option maxRecDepth 20000 in
theorem gX12_raw_X12_isKey : GoodIn wsX12_raw (wsV RX12 394 RX12 yX12_isKey wsX12_isKey) := goodIn_app (goodIn_of _ (by decide +kernel)) ggX12_raw_X12_isKey
set_option maxRecDepth 20000 in
theorem ggX12_raw_X12_throwsIf : GoodIn wsX12_raw wsX12_throwsIf := goodIn_r _ [15, 1, 19, 20, 21, 22, 23, 24, 25, 26, 27, 28, 29, 30, 31, 32, 33, 34, 35, 36, 37, 38, 39, 40, 41, 42, 43, 44, 45, 46, 47, 48, 49, 50, 51, 52, 53, 54, 55, 56, 57, 58, 59, 60, 61, 62, 63, 64, 65, 66, 67, 68, 69, 70, 71, 72] (by decide +kernel) (by decide +kernel)
set_option maxRecDepth 20000 in
theorem gX12_raw_X12_throwsIf : GoodIn wsX12_raw (wsV RX12 185 RX12 yX12_throwsIf wsX12_throwsIf) := goodIn_app (goodIn_of _ (by decide +kernel)) ggX12_raw_X12_throwsIf
theorem dX12_raw_0 : decode cX12_raw 0 = .ok (.aload_n 0, 1) := by decide +kernel
theorem dX12_raw_1 : decode cX12_raw 1 = .ok (.iconst 0, 1) := by decide +kernel
theorem dX12_raw_2 : decode cX12_raw 2 = .ok (.putfield 1, 3) := by decide +kernel
theorem dX12_raw_5 : decode cX12_raw 5 = .ok (.aload_n 0, 1) := by decide +kernel
theorem dX12_raw_6 : decode cX12_raw 6 = .ok (.aload_n 0, 1) := by decide +kernel
theorem dX12_raw_7 : decode cX12_raw 7 = .ok (.iload_n 1, 1) := by decide +kernel
theorem dX12_raw_8 : decode cX12_raw 8 = .ok (.invokevirtual 394, 3) := by decide +kernel
theorem dX12_raw_11 : decode cX12_raw 11 = .ok (.ifCond .ne 7, 3) := by decide +kernel
theorem dX12_raw_14 : decode cX12_raw 14 = .ok (.iconst 1, 1) := by decide +kernel
theorem dX12_raw_15 : decode cX12_raw 15 = .ok (.goto 4, 3) := by decide +kernel
theorem dX12_raw_19 : decode cX12_raw 19 = .ok (.iconst 1, 1) := by decide +kernel
theorem dX12_raw_20 : decode cX12_raw 20 = .ok (.invokevirtual 185, 3) := by decide +kernel
theorem dX12_raw_23 : decode cX12_raw 23 = .ok (.ifCond .ne 23, 3) := by decide +kernel
theorem dX12_raw_46 : decode cX12_raw 46 = .ok (.lconst 0, 1) := by decide +kernel
theorem dX12_raw_47 : decode cX12_raw 47 = .ok (.goto 13, 3) := by decide +kernel
theorem dX12_raw_60 : decode cX12_raw 60 = .ok (.lreturn, 1) := by decide +kernel
set_option maxRecDepth 20000 in
theorem ggX12_estimate_X12_isKey : GoodIn wsX12_estimate wsX12_isKey := goodIn_r _ [7, 8, 9, 10, 6, 11, 19, 20, 21, 22, 23, 24, 25, 26, 27, 28, 29, 30, 31, 32, 33, 34, 35, 36, 37, 38, 39, 40, 41, 42, 43, 44, 45, 46, 47, 48, 49, 50, 51, 52, 53, 54, 55, 56, 57, 58, 59, 60, 61, 62, 63, 64, 65, 66, 67, 68, 69, 70, 71, 72] (by decide +kernel) (by decide +kernel)
set_option maxRecDepth 20000 in
theorem gX12_estimate_X12_isKey : GoodIn wsX12_estimate (wsV RX12 394 RX12 yX12_isKey wsX12_isKey) := goodIn_app (goodIn_of _ (by decide +kernel)) ggX12_estimate_X12_isKey
set_option maxRecDepth 20000 in
theorem ggX12_estimate_X12_throwsIf : GoodIn wsX12_estimate wsX12_throwsIf := goodIn_r _ [15, 1, 19, 20, 21, 22, 23, 24, 25, 26, 27, 28, 29, 30, 31, 32, 33, 34, 35, 36, 37, 38, 39, 40, 41, 42, 43, 44, 45, 46, 47, 48, 49, 50, 51, 52, 53, 54, 55, 56, 57, 58, 59, 60, 61, 62, 63, 64, 65, 66, 67, 68, 69, 70, 71, 72] (by decide +kernel) (by decide +kernel)
set_option maxRecDepth 20000 in
theorem gX12_estimate_X12_throwsIf : GoodIn wsX12_estimate (wsV RX12 185 RX12 yX12_throwsIf wsX12_throwsIf) := goodIn_app (goodIn_of _ (by decide +kernel)) ggX12_estimate_X12_throwsIf
theorem dX12_estimate_0 : decode cX12_estimate 0 = .ok (.aload_n 0, 1) := by decide +kernel
theorem dX12_estimate_1 : decode cX12_estimate 1 = .ok (.iconst 0, 1) := by decide +kernel
theorem dX12_estimate_2 : decode cX12_estimate 2 = .ok (.putfield 1, 3) := by decide +kernel
theorem dX12_estimate_5 : decode cX12_estimate 5 = .ok (.aload_n 0, 1) := by decide +kernel
theorem dX12_estimate_6 : decode cX12_estimate 6 = .ok (.aload_n 0, 1) := by decide +kernel
theorem dX12_estimate_7 : decode cX12_estimate 7 = .ok (.iload_n 1, 1) := by decide +kernel
theorem dX12_estimate_8 : decode cX12_estimate 8 = .ok (.invokevirtual 394, 3) := by decide +kernel
theorem dX12_estimate_11 : decode cX12_estimate 11 = .ok (.ifCond .ne 7, 3) := by decide +kernel
theorem dX12_estimate_14 : decode cX12_estimate 14 = .ok (.iconst 1, 1) := by decide +kernel
theorem dX12_estimate_15 : decode cX12_estimate 15 = .ok (.goto 4, 3) := by decide +kernel
theorem dX12_estimate_19 : decode cX12_estimate 19 = .ok (.iconst 1, 1) := by decide +kernel
theorem dX12_estimate_20 : decode cX12_estimate 20 = .ok (.invokevirtual 185, 3) := by decide +kernel
theorem dX12_estimate_23 : decode cX12_estimate 23 = .ok (.ifCond .ne 23, 3) := by decide +kernel
theorem dX12_estimate_46 : decode cX12_estimate 46 = .ok (.lconst 0, 1) := by decide +kernel
theorem dX12_estimate_47 : decode cX12_estimate 47 = .ok (.goto 13, 3) := by decide +kernel
theorem dX12_estimate_60 : decode cX12_estimate 60 = .ok (.lreturn, 1) := by decide +kernel
set_option maxRecDepth 20000 in
theorem ggX12_lower_X12_isKey : GoodIn wsX12_lower wsX12_isKey := goodIn_r _ [6, 7, 8, 9, 5, 10, 52, 53, 54, 55, 56, 57, 58, 59, 60, 61, 62, 63, 64, 65, 66, 67, 68, 69, 70, 71, 72, 73, 74, 75, 76, 77, 78, 79, 80, 81, 82, 83, 84, 85, 86, 87, 88, 89, 90, 91, 92, 93, 94, 95, 96, 97, 98, 99, 100, 101, 102, 103, 104, 105] (by decide +kernel) (by decide +kernel)
set_option maxRecDepth 20000 in
theorem gX12_lower_X12_isKey : GoodIn wsX12_lower (wsV RX12 394 RX12 yX12_isKey wsX12_isKey) := goodIn_app (goodIn_of _ (by decide +kernel)) ggX12_lower_X12_isKey
set_option maxRecDepth 20000 in
theorem ggX12_lower_X12_throwsIf : GoodIn wsX12_lower wsX12_throwsIf := goodIn_r _ [14, 1, 52, 53, 54, 55, 56, 57, 58, 59, 60, 61, 62, 63, 64, 65, 66, 67, 68, 69, 70, 71, 72, 73, 74, 75, 76, 77, 78, 79, 80, 81, 82, 83, 84, 85, 86, 87, 88, 89, 90, 91, 92, 93, 94, 95, 96, 97, 98, 99, 100, 101, 102, 103, 104, 105] (by decide +kernel) (by decide +kernel)
set_option maxRecDepth 20000 in
theorem gX12_lower_X12_throwsIf : GoodIn wsX12_lower (wsV RX12 185 RX12 yX12_throwsIf wsX12_throwsIf) := goodIn_app (goodIn_of _ (by decide +kernel)) ggX12_lower_X12_throwsIf
theorem dX12_lower_0 : decode cX12_lower 0 = .ok (.aload_n 0, 1) := by decide +kernel
theorem dX12_lower_1 : decode cX12_lower 1 = .ok (.iconst 0, 1) := by decide +kernel
theorem dX12_lower_2 : decode cX12_lower 2 = .ok (.putfield 1, 3) := by decide +kernel
theorem dX12_lower_5 : decode cX12_lower 5 = .ok (.aload_n 0, 1) := by decide +kernel
theorem dX12_lower_6 : decode cX12_lower 6 = .ok (.aload_n 0, 1) := by decide +kernel
theorem dX12_lower_7 : decode cX12_lower 7 = .ok (.iload_n 1, 1) := by decide +kernel
theorem dX12_lower_8 : decode cX12_lower 8 = .ok (.invokevirtual 394, 3) := by decide +kernel
theorem dX12_lower_11 : decode cX12_lower 11 = .ok (.ifCond .ne 7, 3) := by decide +kernel
theorem dX12_lower_14 : decode cX12_lower 14 = .ok (.iconst 1, 1) := by decide +kernel
theorem dX12_lower_15 : decode cX12_lower 15 = .ok (.goto 4, 3) := by decide +kernel
theorem dX12_lower_19 : decode cX12_lower 19 = .ok (.iconst 1, 1) := by decide +kernel
theorem dX12_lower_20 : decode cX12_lower 20 = .ok (.invokevirtual 185, 3) := by decide +kernel
theorem dX12_lower_23 : decode cX12_lower 23 = .ok (.ifCond .ne 23, 3) := by decide +kernel
theorem dX12_lower_46 : decode cX12_lower 46 = .ok (.dconst 0, 1) := by decide +kernel
theorem dX12_lower_47 : decode cX12_lower 47 = .ok (.goto 9, 3) := by decide +kernel
theorem dX12_lower_56 : decode cX12_lower 56 = .ok (.dreturn, 1) := by decide +kernel
set_option maxRecDepth 20000 in
theorem ggX12_upper_X12_isKey : GoodIn wsX12_upper wsX12_isKey := goodIn_r _ [6, 7, 8, 9, 5, 10, 51, 52, 53, 54, 55, 56, 57, 58, 59, 60, 61, 62, 63, 64, 65, 66, 67, 68, 69, 70, 71, 72, 73, 74, 75, 76, 77, 78, 79, 80, 81, 82, 83, 84, 85, 86, 87, 88, 89, 90, 91, 92, 93, 94, 95, 96, 97, 98, 99, 100, 101, 102, 103, 104] (by decide +kernel) (by decide +kernel)
set_option maxRecDepth 20000 in
theorem gX12_upper_X12_isKey : GoodIn wsX12_upper (wsV RX12 394 RX12 yX12_isKey wsX12_isKey) := goodIn_app (goodIn_of _ (by decide +kernel)) ggX12_upper_X12_isKey
set_option maxRecDepth 20000 in
theorem ggX12_upper_X12_throwsIf : GoodIn wsX12_upper wsX12_throwsIf := goodIn_r _ [14, 1, 51, 52, 53, 54, 55, 56, 57, 58, 59, 60, 61, 62, 63, 64, 65, 66, 67, 68, 69, 70, 71, 72, 73, 74, 75, 76, 77, 78, 79, 80, 81, 82, 83, 84, 85, 86, 87, 88, 89, 90, 91, 92, 93, 94, 95, 96, 97, 98, 99, 100, 101, 102, 103, 104] (by decide +kernel) (by decide +kernel)
set_option maxRecDepth 20000 in
theorem gX12_upper_X12_throwsIf : GoodIn wsX12_upper (wsV RX12 185 RX12 yX12_throwsIf wsX12_throwsIf) := goodIn_app (goodIn_of _ (by decide +kernel)) ggX12_upper_X12_throwsIf
theorem dX12_upper_0 : decode cX12_upper 0 = .ok (.aload_n 0, 1) := by decide +kernel
theorem dX12_upper_1 : decode cX12_upper 1 = .ok (.iconst 0, 1) := by decide +kernel
theorem dX12_upper_2 : decode cX12_upper 2 = .ok (.putfield 1, 3) := by decide +kernel
theorem dX12_upper_5 : decode cX12_upper 5 = .ok (.aload_n 0, 1) := by decide +kernel
theorem dX12_upper_6 : decode cX12_upper 6 = .ok (.aload_n 0, 1) := by decide +kernel
theorem dX12_upper_7 : decode cX12_upper 7 = .ok (.iload_n 1, 1) := by decide +kernel
theorem dX12_upper_8 : decode cX12_upper 8 = .ok (.invokevirtual 394, 3) := by decide +kernel
theorem dX12_upper_11 : decode cX12_upper 11 = .ok (.ifCond .ne 7, 3) := by decide +kernel
theorem dX12_upper_14 : decode cX12_upper 14 = .ok (.iconst 1, 1) := by decide +kernel
theorem dX12_upper_15 : decode cX12_upper 15 = .ok (.goto 4, 3) := by decide +kernel
theorem dX12_upper_19 : decode cX12_upper 19 = .ok (.iconst 1, 1) := by decide +kernel
theorem dX12_upper_20 : decode cX12_upper 20 = .ok (.invokevirtual 185, 3) := by decide +kernel
theorem dX12_upper_23 : decode cX12_upper 23 = .ok (.ifCond .ne 23, 3) := by decide +kernel
theorem dX12_upper_46 : decode cX12_upper 46 = .ok (.dconst 0, 1) := by decide +kernel
theorem dX12_upper_47 : decode cX12_upper 47 = .ok (.goto 9, 3) := by decide +kernel
theorem dX12_upper_56 : decode cX12_upper 56 = .ok (.dreturn, 1) := by decide +kernel
set_option maxRecDepth 20000 in
theorem ggX12_truth_X12_isWhat : GoodIn wsX12_truth wsX12_isWhat := goodIn_r _ [5, 6, 7, 4, 8] (by decide +kernel) (by decide +kernel)
set_option maxRecDepth 20000 in
theorem gX12_truth_X12_isWhat : GoodIn wsX12_truth (va_wsS RX12 397 yX12_isWhat wsX12_isWhat) := goodIn_app (goodIn_of _ (by decide +kernel)) ggX12_truth_X12_isWhat
set_option maxRecDepth 20000 in
theorem ggX12_truth_X12_throwsIf : GoodIn wsX12_truth wsX12_throwsIf := goodIn_r _ [12, 1, 27, 28, 29, 30, 31, 32, 33, 34, 35, 36, 37, 38, 39, 40, 41, 42, 43, 44, 45, 46, 47, 48, 49, 50, 51, 52, 53, 54, 55, 56, 57, 58, 59, 60, 61, 62, 63, 64, 65, 66, 67, 68, 69, 70, 71, 72, 73, 74, 75, 76, 77, 78, 79, 80] (by decide +kernel) (by decide +kernel)
set_option maxRecDepth 20000 in
theorem gX12_truth_X12_throwsIf : GoodIn wsX12_truth (wsV RX12 185 RX12 yX12_throwsIf wsX12_throwsIf) := goodIn_app (goodIn_of _ (by decide +kernel)) ggX12_truth_X12_throwsIf
theorem dX12_truth_0 : decode cX12_truth 0 = .ok (.aload_n 0, 1) := by decide +kernel
theorem dX12_truth_1 : decode cX12_truth 1 = .ok (.iconst 0, 1) := by decide +kernel
theorem dX12_truth_2 : decode cX12_truth 2 = .ok (.putfield 1, 3) := by decide +kernel
theorem dX12_truth_5 : decode cX12_truth 5 = .ok (.aload_n 0, 1) := by decide +kernel
theorem dX12_truth_6 : decode cX12_truth 6 = .ok (.iload 5, 2) := by decide +kernel
theorem dX12_truth_8 : decode cX12_truth 8 = .ok (.invokestatic 397, 3) := by decide +kernel
theorem dX12_truth_11 : decode cX12_truth 11 = .ok (.ifCond .ne 7, 3) := by decide +kernel
theorem dX12_truth_14 : decode cX12_truth 14 = .ok (.iconst 1, 1) := by decide +kernel
theorem dX12_truth_15 : decode cX12_truth 15 = .ok (.goto 4, 3) := by decide +kernel
theorem dX12_truth_19 : decode cX12_truth 19 = .ok (.iconst 1, 1) := by decide +kernel
theorem dX12_truth_20 : decode cX12_truth 20 = .ok (.invokevirtual 185, 3) := by decide +kernel
theorem dX12_truth_23 : decode cX12_truth 23 = .ok (.ifCond .eq 7, 3) := by decide +kernel
theorem dX12_truth_26 : decode cX12_truth 26 = .ok (.lconst 0, 1) := by decide +kernel
theorem dX12_truth_27 : decode cX12_truth 27 = .ok (.goto 14, 3) := by decide +kernel
theorem dX12_truth_41 : decode cX12_truth 41 = .ok (.lreturn, 1) := by decide +kernel
set_option maxRecDepth 20000 in
theorem ggX12_covered_X12_isWhat : GoodIn wsX12_covered wsX12_isWhat := goodIn_r _ [7, 8, 9, 6, 10] (by decide +kernel) (by decide +kernel)
set_option maxRecDepth 20000 in
theorem gX12_covered_X12_isWhat : GoodIn wsX12_covered (va_wsS RX12 397 yX12_isWhat wsX12_isWhat) := goodIn_app (goodIn_of _ (by decide +kernel)) ggX12_covered_X12_isWhat
set_option maxRecDepth 20000 in
theorem ggX12_covered_X12_throwsIf : GoodIn wsX12_covered wsX12_throwsIf := goodIn_r _ [14, 1, 67, 68, 69, 70, 71, 72, 73, 74, 75, 76, 77, 78, 79, 80, 81, 82, 83, 84, 85, 86, 87, 88, 89, 90, 91, 92, 93, 94, 95, 96, 97, 98, 99, 100, 101, 102, 103, 104, 105, 106, 107, 108, 109, 110, 111, 112, 113, 114, 115, 116, 117, 118, 119, 120] (by decide +kernel) (by decide +kernel)
set_option maxRecDepth 20000 in
theorem gX12_covered_X12_throwsIf : GoodIn wsX12_covered (wsV RX12 185 RX12 yX12_throwsIf wsX12_throwsIf) := goodIn_app (goodIn_of _ (by decide +kernel)) ggX12_covered_X12_throwsIf
theorem dX12_covered_0 : decode cX12_covered 0 = .ok (.aload_n 0, 1) := by decide +kernel
theorem dX12_covered_1 : decode cX12_covered 1 = .ok (.iconst 0, 1) := by decide +kernel
theorem dX12_covered_2 : decode cX12_covered 2 = .ok (.putfield 1, 3) := by decide +kernel
theorem dX12_covered_5 : decode cX12_covered 5 = .ok (.aload_n 0, 1) := by decide +kernel
theorem dX12_covered_6 : decode cX12_covered 6 = .ok (.iload_n 1, 1) := by decide +kernel
theorem dX12_covered_7 : decode cX12_covered 7 = .ok (.invokestatic 397, 3) := by decide +kernel
theorem dX12_covered_10 : decode cX12_covered 10 = .ok (.ifCond .ne 7, 3) := by decide +kernel
theorem dX12_covered_13 : decode cX12_covered 13 = .ok (.iconst 1, 1) := by decide +kernel
theorem dX12_covered_14 : decode cX12_covered 14 = .ok (.goto 4, 3) := by decide +kernel
theorem dX12_covered_18 : decode cX12_covered 18 = .ok (.iconst 1, 1) := by decide +kernel
theorem dX12_covered_19 : decode cX12_covered 19 = .ok (.invokevirtual 185, 3) := by decide +kernel
theorem dX12_covered_22 : decode cX12_covered 22 = .ok (.ifCond .eq 5, 3) := by decide +kernel
theorem dX12_covered_25 : decode cX12_covered 25 = .ok (.iconst 0, 1) := by decide +kernel
theorem dX12_covered_26 : decode cX12_covered 26 = .ok (.ireturn, 1) := by decide +kernel
set_option maxRecDepth 20000 in
theorem ggX12_totalEstimate_X12_isWhat : GoodIn wsX12_totalEstimate wsX12_isWhat := goodIn_r _ [7, 8, 9, 6, 10] (by decide +kernel) (by decide +kernel)
set_option maxRecDepth 20000 in
theorem gX12_totalEstimate_X12_isWhat : GoodIn wsX12_totalEstimate (va_wsS RX12 397 yX12_isWhat wsX12_isWhat) := goodIn_app (goodIn_of _ (by decide +kernel)) ggX12_totalEstimate_X12_isWhat
set_option maxRecDepth 20000 in
theorem ggX12_totalEstimate_X12_throwsIf : GoodIn wsX12_totalEstimate wsX12_throwsIf := goodIn_r _ [14, 1, 15, 16, 17, 18, 19, 20, 21, 22, 23, 24, 25, 26, 27, 28, 29, 30, 31, 32, 33, 34, 35, 36, 37, 38, 39, 40, 41, 42, 43, 44, 45, 46, 47, 48, 49, 50, 51, 52, 53, 54, 55, 56, 57, 58, 59, 60, 61, 62, 63, 64, 65, 66, 67, 68] (by decide +kernel) (by decide +kernel)
set_option maxRecDepth 20000 in
theorem gX12_totalEstimate_X12_throwsIf : GoodIn wsX12_totalEstimate (wsV RX12 185 RX12 yX12_throwsIf wsX12_throwsIf) := goodIn_app (goodIn_of _ (by decide +kernel)) ggX12_totalEstimate_X12_throwsIf
theorem dX12_totalEstimate_0 : decode cX12_totalEstimate 0 = .ok (.aload_n 0, 1) := by decide +kernel
theorem dX12_totalEstimate_1 : decode cX12_totalEstimate 1 = .ok (.iconst 0, 1) := by decide +kernel
theorem dX12_totalEstimate_2 : decode cX12_totalEstimate 2 = .ok (.putfield 1, 3) := by decide +kernel
theorem dX12_totalEstimate_5 : decode cX12_totalEstimate 5 = .ok (.aload_n 0, 1) := by decide +kernel
theorem dX12_totalEstimate_6 : decode cX12_totalEstimate 6 = .ok (.iload_n 1, 1) := by decide +kernel
theorem dX12_totalEstimate_7 : decode cX12_totalEstimate 7 = .ok (.invokestatic 397, 3) := by decide +kernel
theorem dX12_totalEstimate_10 : decode cX12_totalEstimate 10 = .ok (.ifCond .ne 7, 3) := by decide +kernel
theorem dX12_totalEstimate_13 : decode cX12_totalEstimate 13 = .ok (.iconst 1, 1) := by decide +kernel
theorem dX12_totalEstimate_14 : decode cX12_totalEstimate 14 = .ok (.goto 4, 3) := by decide +kernel
theorem dX12_totalEstimate_18 : decode cX12_totalEstimate 18 = .ok (.iconst 1, 1) := by decide +kernel
theorem dX12_totalEstimate_19 : decode cX12_totalEstimate 19 = .ok (.invokevirtual 185, 3) := by decide +kernel
theorem dX12_totalEstimate_22 : decode cX12_totalEstimate 22 = .ok (.ifCond .eq 5, 3) := by decide +kernel
theorem dX12_totalEstimate_25 : decode cX12_totalEstimate 25 = .ok (.lconst 0, 1) := by decide +kernel
theorem dX12_totalEstimate_26 : decode cX12_totalEstimate 26 = .ok (.lreturn, 1) := by decide +kernel
set_option maxRecDepth 20000 in
theorem ggX12_totalMargin_X12_isWhat : GoodIn wsX12_totalMargin wsX12_isWhat := goodIn_r _ [7, 8, 9, 6, 10] (by decide +kernel) (by decide +kernel)
set_option maxRecDepth 20000 in
theorem gX12_totalMargin_X12_isWhat : GoodIn wsX12_totalMargin (va_wsS RX12 397 yX12_isWhat wsX12_isWhat) := goodIn_app (goodIn_of _ (by decide +kernel)) ggX12_totalMargin_X12_isWhat
set_option maxRecDepth 20000 in
theorem ggX12_totalMargin_X12_throwsIf : GoodIn wsX12_totalMargin wsX12_throwsIf := goodIn_r _ [14, 1, 42, 43, 44, 45, 46, 47, 48, 49, 50, 51, 52, 53, 54, 55, 56, 57, 58, 59, 60, 61, 62, 63, 64, 65, 66, 67, 68, 69, 70, 71, 72, 73, 74, 75, 76, 77, 78, 79, 80, 81, 82, 83, 84, 85, 86, 87, 88, 89, 90, 91, 92, 93, 94, 95] (by decide +kernel) (by decide +kernel)
set_option maxRecDepth 20000 in
theorem gX12_totalMargin_X12_throwsIf : GoodIn wsX12_totalMargin (wsV RX12 185 RX12 yX12_throwsIf wsX12_throwsIf) := goodIn_app (goodIn_of _ (by decide +kernel)) ggX12_totalMargin_X12_throwsIf
theorem dX12_totalMargin_0 : decode cX12_totalMargin 0 = .ok (.aload_n 0, 1) := by decide +kernel
theorem dX12_totalMargin_1 : decode cX12_totalMargin 1 = .ok (.iconst 0, 1) := by decide +kernel
theorem dX12_totalMargin_2 : decode cX12_totalMargin 2 = .ok (.putfield 1, 3) := by decide +kernel
theorem dX12_totalMargin_5 : decode cX12_totalMargin 5 = .ok (.aload_n 0, 1) := by decide +kernel
theorem dX12_totalMargin_6 : decode cX12_totalMargin 6 = .ok (.iload_n 1, 1) := by decide +kernel
theorem dX12_totalMargin_7 : decode cX12_totalMargin 7 = .ok (.invokestatic 397, 3) := by decide +kernel
theorem dX12_totalMargin_10 : decode cX12_totalMargin 10 = .ok (.ifCond .ne 7, 3) := by decide +kernel
theorem dX12_totalMargin_13 : decode cX12_totalMargin 13 = .ok (.iconst 1, 1) := by decide +kernel
theorem dX12_totalMargin_14 : decode cX12_totalMargin 14 = .ok (.goto 4, 3) := by decide +kernel
theorem dX12_totalMargin_18 : decode cX12_totalMargin 18 = .ok (.iconst 1, 1) := by decide +kernel
theorem dX12_totalMargin_19 : decode cX12_totalMargin 19 = .ok (.invokevirtual 185, 3) := by decide +kernel
theorem dX12_totalMargin_22 : decode cX12_totalMargin 22 = .ok (.ifCond .eq 5, 3) := by decide +kernel
theorem dX12_totalMargin_25 : decode cX12_totalMargin 25 = .ok (.dconst 0, 1) := by decide +kernel
theorem dX12_totalMargin_26 : decode cX12_totalMargin 26 = .ok (.dreturn, 1) := by decide +kernel
set_option maxRecDepth 20000 in
theorem ggX12_ranked_X12_isWhat : GoodIn wsX12_ranked wsX12_isWhat := goodIn_r _ [7, 8, 9, 6, 10] (by decide +kernel) (by decide +kernel)
set_option maxRecDepth 20000 in
theorem gX12_ranked_X12_isWhat : GoodIn wsX12_ranked (va_wsS RX12 397 yX12_isWhat wsX12_isWhat) := goodIn_app (goodIn_of _ (by decide +kernel)) ggX12_ranked_X12_isWhat
set_option maxRecDepth 20000 in
theorem ggX12_ranked_X12_throwsIf : GoodIn wsX12_ranked wsX12_throwsIf := goodIn_r _ [14, 1, 15, 16, 17, 18, 19, 20, 21, 22, 23, 24, 25, 26, 27, 28, 29, 30, 31, 32, 33, 34, 35, 36, 37, 38, 39, 40, 41, 42, 43, 44, 45, 46, 47, 48, 49, 50, 51, 52, 53, 54, 55, 56, 57, 58, 59, 60, 61, 62, 63, 64, 65, 66, 67, 68] (by decide +kernel) (by decide +kernel)
set_option maxRecDepth 20000 in
theorem gX12_ranked_X12_throwsIf : GoodIn wsX12_ranked (wsV RX12 185 RX12 yX12_throwsIf wsX12_throwsIf) := goodIn_app (goodIn_of _ (by decide +kernel)) ggX12_ranked_X12_throwsIf
theorem dX12_ranked_0 : decode cX12_ranked 0 = .ok (.aload_n 0, 1) := by decide +kernel
theorem dX12_ranked_1 : decode cX12_ranked 1 = .ok (.iconst 0, 1) := by decide +kernel
theorem dX12_ranked_2 : decode cX12_ranked 2 = .ok (.putfield 1, 3) := by decide +kernel
theorem dX12_ranked_5 : decode cX12_ranked 5 = .ok (.aload_n 0, 1) := by decide +kernel
theorem dX12_ranked_6 : decode cX12_ranked 6 = .ok (.iload_n 2, 1) := by decide +kernel
theorem dX12_ranked_7 : decode cX12_ranked 7 = .ok (.invokestatic 397, 3) := by decide +kernel
theorem dX12_ranked_10 : decode cX12_ranked 10 = .ok (.ifCond .ne 7, 3) := by decide +kernel
theorem dX12_ranked_13 : decode cX12_ranked 13 = .ok (.iconst 1, 1) := by decide +kernel
theorem dX12_ranked_14 : decode cX12_ranked 14 = .ok (.goto 4, 3) := by decide +kernel
theorem dX12_ranked_18 : decode cX12_ranked 18 = .ok (.iconst 1, 1) := by decide +kernel
theorem dX12_ranked_19 : decode cX12_ranked 19 = .ok (.invokevirtual 185, 3) := by decide +kernel
theorem dX12_ranked_22 : decode cX12_ranked 22 = .ok (.ifCond .eq 5, 3) := by decide +kernel
theorem dX12_ranked_25 : decode cX12_ranked 25 = .ok (.iconst 0, 1) := by decide +kernel
theorem dX12_ranked_26 : decode cX12_ranked 26 = .ok (.ireturn, 1) := by decide +kernel

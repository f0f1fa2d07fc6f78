theorem dX11_truncateInput_0 : decode cX11_truncateInput 0 = .ok (.iload_n 1, 1) := by decide +kernel
theorem dX11_truncateInput_1 : decode cX11_truncateInput 1 = .ok (.ifCond .lt 14, 3) := by decide +kernel
theorem dX11_truncateInput_4 : decode cX11_truncateInput 4 = .ok (.iload_n 1, 1) := by decide +kernel
theorem dX11_truncateInput_5 : decode cX11_truncateInput 5 = .ok (.aload_n 0, 1) := by decide +kernel
theorem dX11_truncateInput_6 : decode cX11_truncateInput 6 = .ok (.getfield 14, 3) := by decide +kernel
theorem dX11_truncateInput_9 : decode cX11_truncateInput 9 = .ok (.getfield 97, 3) := by decide +kernel
theorem dX11_truncateInput_12 : decode cX11_truncateInput 12 = .ok (.if_icmp .le 5, 3) := by decide +kernel
theorem dX11_truncateInput_15 : decode cX11_truncateInput 15 = .ok (.iconst (-1), 1) := by decide +kernel
theorem dX11_truncateInput_16 : decode cX11_truncateInput 16 = .ok (.ireturn, 1) := by decide +kernel
theorem dX11_truncateInput_17 : decode cX11_truncateInput 17 = .ok (.aload_n 0, 1) := by decide +kernel
theorem dX11_truncateInput_18 : decode cX11_truncateInput 18 = .ok (.getfield 14, 3) := by decide +kernel
theorem dX11_truncateInput_21 : decode cX11_truncateInput 21 = .ok (.iload_n 1, 1) := by decide +kernel
theorem dX11_truncateInput_22 : decode cX11_truncateInput 22 = .ok (.putfield 97, 3) := by decide +kernel
theorem dX11_truncateInput_25 : decode cX11_truncateInput 25 = .ok (.iload_n 1, 1) := by decide +kernel
theorem dX11_truncateInput_26 : decode cX11_truncateInput 26 = .ok (.ireturn, 1) := by decide +kernel
theorem dX11_errorCode_0 : decode cX11_errorCode 0 = .ok (.aload_n 0, 1) := by decide +kernel
theorem dX11_errorCode_1 : decode cX11_errorCode 1 = .ok (.getfield 30, 3) := by decide +kernel
theorem dX11_errorCode_4 : decode cX11_errorCode 4 = .ok (.getfield 104, 3) := by decide +kernel
theorem dX11_errorCode_7 : decode cX11_errorCode 7 = .ok (.ireturn, 1) := by decide +kernel
theorem dX11_errorPosition_0 : decode cX11_errorPosition 0 = .ok (.aload_n 0, 1) := by decide +kernel
theorem dX11_errorPosition_1 : decode cX11_errorPosition 1 = .ok (.getfield 30, 3) := by decide +kernel
theorem dX11_errorPosition_4 : decode cX11_errorPosition 4 = .ok (.getfield 107, 3) := by decide +kernel
theorem dX11_errorPosition_7 : decode cX11_errorPosition 7 = .ok (.ireturn, 1) := by decide +kernel
theorem dX11_now_0 : decode cX11_now 0 = .ok (.aload_n 0, 1) := by decide +kernel
theorem dX11_now_1 : decode cX11_now 1 = .ok (.getfield 55, 3) := by decide +kernel
theorem dX11_now_4 : decode cX11_now 4 = .ok (.getfield 110, 3) := by decide +kernel
theorem dX11_now_7 : decode cX11_now 7 = .ok (.ireturn, 1) := by decide +kernel
theorem dX11_cacheSize_0 : decode cX11_cacheSize 0 = .ok (.aload_n 0, 1) := by decide +kernel
theorem dX11_cacheSize_1 : decode cX11_cacheSize 1 = .ok (.getfield 55, 3) := by decide +kernel
theorem dX11_cacheSize_4 : decode cX11_cacheSize 4 = .ok (.getfield 146, 3) := by decide +kernel
theorem dX11_cacheSize_7 : decode cX11_cacheSize 7 = .ok (.getfield 150, 3) := by decide +kernel
theorem dX11_cacheSize_10 : decode cX11_cacheSize 10 = .ok (.ireturn, 1) := by decide +kernel
theorem dX11_cached_0 : decode cX11_cached 0 = .ok (.iload_n 1, 1) := by decide +kernel
theorem dX11_cached_1 : decode cX11_cached 1 = .ok (.ifCond .lt 17, 3) := by decide +kernel
theorem dX11_cached_4 : decode cX11_cached 4 = .ok (.iload_n 1, 1) := by decide +kernel
theorem dX11_cached_5 : decode cX11_cached 5 = .ok (.aload_n 0, 1) := by decide +kernel
theorem dX11_cached_6 : decode cX11_cached 6 = .ok (.getfield 55, 3) := by decide +kernel
theorem dX11_cached_9 : decode cX11_cached 9 = .ok (.getfield 146, 3) := by decide +kernel
theorem dX11_cached_12 : decode cX11_cached 12 = .ok (.getfield 150, 3) := by decide +kernel
theorem dX11_cached_15 : decode cX11_cached 15 = .ok (.if_icmp .lt 11, 3) := by decide +kernel
theorem dX11_cached_18 : decode cX11_cached 18 = .ok (.new 153, 3) := by decide +kernel
theorem dX11_cached_21 : decode cX11_cached 21 = .ok (.dup, 1) := by decide +kernel
theorem dX11_cached_22 : decode cX11_cached 22 = .ok (.invokespecial 155, 3) := by decide +kernel
theorem dX11_cached_25 : decode cX11_cached 25 = .ok (.athrow, 1) := by decide +kernel
theorem dX11_rate_0 : decode cX11_rate 0 = .ok (.aload_n 0, 1) := by decide +kernel
theorem dX11_rate_1 : decode cX11_rate 1 = .ok (.getfield 55, 3) := by decide +kernel
theorem dX11_rate_4 : decode cX11_rate 4 = .ok (.getfield 164, 3) := by decide +kernel
theorem dX11_rate_7 : decode cX11_rate 7 = .ok (.ireturn, 1) := by decide +kernel
theorem dX11_setAdaptive_0 : decode cX11_setAdaptive 0 = .ok (.aload_n 0, 1) := by decide +kernel
theorem dX11_setAdaptive_1 : decode cX11_setAdaptive 1 = .ok (.getfield 55, 3) := by decide +kernel
theorem dX11_setAdaptive_4 : decode cX11_setAdaptive 4 = .ok (.getfield 171, 3) := by decide +kernel
theorem dX11_setAdaptive_7 : decode cX11_setAdaptive 7 = .ok (.istore_n 2, 1) := by decide +kernel
theorem dX11_setAdaptive_8 : decode cX11_setAdaptive 8 = .ok (.aload_n 0, 1) := by decide +kernel
theorem dX11_setAdaptive_9 : decode cX11_setAdaptive 9 = .ok (.getfield 55, 3) := by decide +kernel
theorem dX11_setAdaptive_12 : decode cX11_setAdaptive 12 = .ok (.iload_n 1, 1) := by decide +kernel
theorem dX11_setAdaptive_13 : decode cX11_setAdaptive 13 = .ok (.putfield 171, 3) := by decide +kernel
theorem dX11_setAdaptive_16 : decode cX11_setAdaptive 16 = .ok (.iload_n 2, 1) := by decide +kernel
theorem dX11_setAdaptive_17 : decode cX11_setAdaptive 17 = .ok (.ireturn, 1) := by decide +kernel
theorem dX11_setSeed_0 : decode cX11_setSeed 0 = .ok (.iload_n 1, 1) := by decide +kernel
theorem dX11_setSeed_1 : decode cX11_setSeed 1 = .ok (.ifCond .ge 5, 3) := by decide +kernel
theorem dX11_setSeed_4 : decode cX11_setSeed 4 = .ok (.iconst 0, 1) := by decide +kernel
theorem dX11_setSeed_5 : decode cX11_setSeed 5 = .ok (.ireturn, 1) := by decide +kernel
theorem dX11_setSeed_6 : decode cX11_setSeed 6 = .ok (.aload_n 0, 1) := by decide +kernel
theorem dX11_setSeed_7 : decode cX11_setSeed 7 = .ok (.getfield 55, 3) := by decide +kernel
theorem dX11_setSeed_10 : decode cX11_setSeed 10 = .ok (.iload_n 1, 1) := by decide +kernel
theorem dX11_setSeed_11 : decode cX11_setSeed 11 = .ok (.putfield 175, 3) := by decide +kernel
theorem dX11_setSeed_14 : decode cX11_setSeed 14 = .ok (.iconst 1, 1) := by decide +kernel
theorem dX11_setSeed_15 : decode cX11_setSeed 15 = .ok (.ireturn, 1) := by decide +kernel
set_option maxRecDepth 20000 in
theorem ggX11_restartExporter_X8_restart : GoodIn wsX11_restartExporter wsX8_restart := goodIn_r _ [9, 10, 11, 12, 13, 8, 14, 15, 16, 17, 18, 19, 20, 21, 22, 23, 24, 25, 26, 50, 51, 52, 53, 54, 55, 56, 57, 58, 59, 60, 61] (by decide +kernel) (by decide +kernel)
set_option maxRecDepth 20000 in
theorem gX11_restartExporter_X8_restart : GoodIn wsX11_restartExporter (wsV RX11 178 RX8 yX8_restart wsX8_restart) := goodIn_app (goodIn_of _ (by decide +kernel)) ggX11_restartExporter_X8_restart
theorem dX11_restartExporter_0 : decode cX11_restartExporter 0 = .ok (.aload_n 0, 1) := by decide +kernel
theorem dX11_restartExporter_1 : decode cX11_restartExporter 1 = .ok (.getfield 55, 3) := by decide +kernel
theorem dX11_restartExporter_4 : decode cX11_restartExporter 4 = .ok (.getfield 146, 3) := by decide +kernel
theorem dX11_restartExporter_7 : decode cX11_restartExporter 7 = .ok (.getfield 150, 3) := by decide +kernel
theorem dX11_restartExporter_10 : decode cX11_restartExporter 10 = .ok (.istore_n 1, 1) := by decide +kernel
theorem dX11_restartExporter_11 : decode cX11_restartExporter 11 = .ok (.aload_n 0, 1) := by decide +kernel
theorem dX11_restartExporter_12 : decode cX11_restartExporter 12 = .ok (.getfield 55, 3) := by decide +kernel
theorem dX11_restartExporter_15 : decode cX11_restartExporter 15 = .ok (.getfield 146, 3) := by decide +kernel
theorem dX11_restartExporter_18 : decode cX11_restartExporter 18 = .ok (.iconst 0, 1) := by decide +kernel
theorem dX11_restartExporter_19 : decode cX11_restartExporter 19 = .ok (.putfield 150, 3) := by decide +kernel
theorem dX11_restartExporter_22 : decode cX11_restartExporter 22 = .ok (.aload_n 0, 1) := by decide +kernel
theorem dX11_restartExporter_23 : decode cX11_restartExporter 23 = .ok (.getfield 46, 3) := by decide +kernel
theorem dX11_restartExporter_26 : decode cX11_restartExporter 26 = .ok (.invokevirtual 178, 3) := by decide +kernel
theorem dX11_restartExporter_29 : decode cX11_restartExporter 29 = .ok (.iload_n 1, 1) := by decide +kernel
theorem dX11_restartExporter_30 : decode cX11_restartExporter 30 = .ok (.ireturn, 1) := by decide +kernel
theorem dX11_observed_0 : decode cX11_observed 0 = .ok (.aload_n 0, 1) := by decide +kernel
theorem dX11_observed_1 : decode cX11_observed 1 = .ok (.getfield 55, 3) := by decide +kernel
theorem dX11_observed_4 : decode cX11_observed 4 = .ok (.getfield 181, 3) := by decide +kernel
theorem dX11_observed_7 : decode cX11_observed 7 = .ok (.lreturn, 1) := by decide +kernel
theorem dX11_sampled_0 : decode cX11_sampled 0 = .ok (.aload_n 0, 1) := by decide +kernel
theorem dX11_sampled_1 : decode cX11_sampled 1 = .ok (.getfield 55, 3) := by decide +kernel
theorem dX11_sampled_4 : decode cX11_sampled 4 = .ok (.getfield 185, 3) := by decide +kernel
theorem dX11_sampled_7 : decode cX11_sampled 7 = .ok (.lreturn, 1) := by decide +kernel
theorem dX11_unsent_0 : decode cX11_unsent 0 = .ok (.aload_n 0, 1) := by decide +kernel
theorem dX11_unsent_1 : decode cX11_unsent 1 = .ok (.getfield 55, 3) := by decide +kernel
theorem dX11_unsent_4 : decode cX11_unsent 4 = .ok (.getfield 188, 3) := by decide +kernel
theorem dX11_unsent_7 : decode cX11_unsent 7 = .ok (.lreturn, 1) := by decide +kernel
theorem dX11_requireTemplate_0 : decode cX11_requireTemplate 0 = .ok (.iload_n 1, 1) := by decide +kernel
theorem dX11_requireTemplate_1 : decode cX11_requireTemplate 1 = .ok (.ifCond .lt 14, 3) := by decide +kernel
theorem dX11_requireTemplate_4 : decode cX11_requireTemplate 4 = .ok (.iload_n 1, 1) := by decide +kernel
theorem dX11_requireTemplate_5 : decode cX11_requireTemplate 5 = .ok (.aload_n 0, 1) := by decide +kernel
theorem dX11_requireTemplate_6 : decode cX11_requireTemplate 6 = .ok (.getfield 21, 3) := by decide +kernel
theorem dX11_requireTemplate_9 : decode cX11_requireTemplate 9 = .ok (.getfield 191, 3) := by decide +kernel
theorem dX11_requireTemplate_12 : decode cX11_requireTemplate 12 = .ok (.if_icmp .lt 11, 3) := by decide +kernel
theorem dX11_requireTemplate_15 : decode cX11_requireTemplate 15 = .ok (.new 153, 3) := by decide +kernel
theorem dX11_requireTemplate_18 : decode cX11_requireTemplate 18 = .ok (.dup, 1) := by decide +kernel
theorem dX11_requireTemplate_19 : decode cX11_requireTemplate 19 = .ok (.invokespecial 155, 3) := by decide +kernel
theorem dX11_requireTemplate_22 : decode cX11_requireTemplate 22 = .ok (.athrow, 1) := by decide +kernel
theorem dX11_requireTemplate_23 : decode cX11_requireTemplate 23 = .ok (.return_, 1) := by decide +kernel
theorem dX11_templateCount_0 : decode cX11_templateCount 0 = .ok (.aload_n 0, 1) := by decide +kernel
theorem dX11_templateCount_1 : decode cX11_templateCount 1 = .ok (.getfield 21, 3) := by decide +kernel
theorem dX11_templateCount_4 : decode cX11_templateCount 4 = .ok (.getfield 191, 3) := by decide +kernel
theorem dX11_templateCount_7 : decode cX11_templateCount 7 = .ok (.ireturn, 1) := by decide +kernel
set_option maxRecDepth 20000 in
theorem ggX11_templateFields_X11_requireTemplate : GoodIn wsX11_templateFields wsX11_requireTemplate := goodIn_ca (goodIn_r _ [7, 8, 9, 1, 10, 17, 18, 19, 20, 21, 22, 23, 24, 29, 30, 31, 32, 33, 34] (by decide +kernel) (by decide +kernel)) (goodIn_sub (fun _ h => List.mem_cons_of_mem _ (List.mem_append_right _ h)) (by decide +kernel))
set_option maxRecDepth 20000 in
theorem gX11_templateFields_X11_requireTemplate : GoodIn wsX11_templateFields (wsV RX11 194 RX11 yX11_requireTemplate wsX11_requireTemplate) := goodIn_app (goodIn_of _ (by decide +kernel)) ggX11_templateFields_X11_requireTemplate
theorem dX11_templateFields_0 : decode cX11_templateFields 0 = .ok (.aload_n 0, 1) := by decide +kernel
theorem dX11_templateFields_1 : decode cX11_templateFields 1 = .ok (.iload_n 1, 1) := by decide +kernel
theorem dX11_templateFields_2 : decode cX11_templateFields 2 = .ok (.invokevirtual 194, 3) := by decide +kernel
set_option maxRecDepth 20000 in
theorem ggX11_effectiveFields_X11_requireTemplate : GoodIn wsX11_effectiveFields wsX11_requireTemplate := goodIn_ca (goodIn_r _ [7, 8, 9, 1, 10, 17, 18, 19, 20, 21, 22, 23, 24, 29, 30, 31, 32, 33, 34] (by decide +kernel) (by decide +kernel)) (goodIn_sub (fun _ h => List.mem_cons_of_mem _ (List.mem_append_right _ h)) (by decide +kernel))
set_option maxRecDepth 20000 in
theorem gX11_effectiveFields_X11_requireTemplate : GoodIn wsX11_effectiveFields (wsV RX11 194 RX11 yX11_requireTemplate wsX11_requireTemplate) := goodIn_app (goodIn_of _ (by decide +kernel)) ggX11_effectiveFields_X11_requireTemplate
theorem dX11_effectiveFields_0 : decode cX11_effectiveFields 0 = .ok (.aload_n 0, 1) := by decide +kernel
theorem dX11_effectiveFields_1 : decode cX11_effectiveFields 1 = .ok (.iload_n 1, 1) := by decide +kernel
theorem dX11_effectiveFields_2 : decode cX11_effectiveFields 2 = .ok (.invokevirtual 194, 3) := by decide +kernel
set_option maxRecDepth 20000 in
theorem ggX11_fieldAt_X11_requireTemplate : GoodIn wsX11_fieldAt wsX11_requireTemplate := goodIn_ca (goodIn_r _ [6, 7, 8, 1, 9, 23, 24, 25, 26, 27, 28, 29, 30, 31, 32, 33, 34, 35, 36] (by decide +kernel) (by decide +kernel)) (goodIn_sub (fun _ h => List.mem_cons_of_mem _ (List.mem_append_left _ (List.mem_append_right _ h))) (by decide +kernel))
set_option maxRecDepth 20000 in
theorem gX11_fieldAt_X11_requireTemplate : GoodIn wsX11_fieldAt (wsV RX11 194 RX11 yX11_requireTemplate wsX11_requireTemplate) := goodIn_app (goodIn_of _ (by decide +kernel)) ggX11_fieldAt_X11_requireTemplate
theorem dX11_fieldAt_0 : decode cX11_fieldAt 0 = .ok (.aload_n 0, 1) := by decide +kernel
theorem dX11_fieldAt_1 : decode cX11_fieldAt 1 = .ok (.iload_n 1, 1) := by decide +kernel
theorem dX11_fieldAt_2 : decode cX11_fieldAt 2 = .ok (.invokevirtual 194, 3) := by decide +kernel
set_option maxRecDepth 20000 in
theorem ggX11_recordLength_X11_requireTemplate : GoodIn wsX11_recordLength wsX11_requireTemplate := goodIn_ca (goodIn_r _ [7, 8, 9, 1, 10, 17, 18, 19, 20, 21, 22, 23, 24, 29, 30, 31, 32, 33, 34] (by decide +kernel) (by decide +kernel)) (goodIn_sub (fun _ h => List.mem_cons_of_mem _ (List.mem_append_right _ h)) (by decide +kernel))
set_option maxRecDepth 20000 in
theorem gX11_recordLength_X11_requireTemplate : GoodIn wsX11_recordLength (wsV RX11 194 RX11 yX11_requireTemplate wsX11_requireTemplate) := goodIn_app (goodIn_of _ (by decide +kernel)) ggX11_recordLength_X11_requireTemplate
theorem dX11_recordLength_0 : decode cX11_recordLength 0 = .ok (.aload_n 0, 1) := by decide +kernel
theorem dX11_recordLength_1 : decode cX11_recordLength 1 = .ok (.iload_n 1, 1) := by decide +kernel
theorem dX11_recordLength_2 : decode cX11_recordLength 2 = .ok (.invokevirtual 194, 3) := by decide +kernel
set_option maxRecDepth 20000 in
theorem ggX11_requestTemplates_X8_forgetTemplates : GoodIn wsX11_requestTemplates wsX8_forgetTemplates := goodIn_r _ [6, 7, 8, 9, 10, 11, 20, 21, 22, 23, 24, 25, 26, 27, 28, 29] (by decide +kernel) (by decide +kernel)
set_option maxRecDepth 20000 in
theorem gX11_requestTemplates_X8_forgetTemplates : GoodIn wsX11_requestTemplates (wsV RX11 224 RX8 yX8_forgetTemplates wsX8_forgetTemplates) := goodIn_app (goodIn_of _ (by decide +kernel)) ggX11_requestTemplates_X8_forgetTemplates
theorem dX11_requestTemplates_0 : decode cX11_requestTemplates 0 = .ok (.aload_n 0, 1) := by decide +kernel
theorem dX11_requestTemplates_1 : decode cX11_requestTemplates 1 = .ok (.getfield 46, 3) := by decide +kernel
theorem dX11_requestTemplates_4 : decode cX11_requestTemplates 4 = .ok (.invokevirtual 224, 3) := by decide +kernel
theorem dX11_requestTemplates_7 : decode cX11_requestTemplates 7 = .ok (.return_, 1) := by decide +kernel
set_option maxRecDepth 20000 in
theorem ggX11_isDue_X11_requireTemplate : GoodIn wsX11_isDue wsX11_requireTemplate := goodIn_ca (goodIn_r _ [8, 9, 10, 11, 12, 34, 35, 36, 37, 38, 39, 40, 41, 55, 56, 57, 58, 59, 60] (by decide +kernel) (by decide +kernel)) (goodIn_sub (fun _ h => List.mem_cons_of_mem _ (List.mem_append_left _ (List.mem_append_right _ h))) (by decide +kernel))
set_option maxRecDepth 20000 in
theorem gX11_isDue_X11_requireTemplate : GoodIn wsX11_isDue (wsV RX11 194 RX11 yX11_requireTemplate wsX11_requireTemplate) := goodIn_app (goodIn_of _ (by decide +kernel)) ggX11_isDue_X11_requireTemplate
theorem dX11_isDue_0 : decode cX11_isDue 0 = .ok (.aload_n 0, 1) := by decide +kernel
theorem dX11_isDue_1 : decode cX11_isDue 1 = .ok (.iload_n 1, 1) := by decide +kernel
theorem dX11_isDue_2 : decode cX11_isDue 2 = .ok (.invokevirtual 194, 3) := by decide +kernel
theorem dX11_requireMessage_0 : decode cX11_requireMessage 0 = .ok (.iload_n 1, 1) := by decide +kernel
theorem dX11_requireMessage_1 : decode cX11_requireMessage 1 = .ok (.ifCond .lt 14, 3) := by decide +kernel
theorem dX11_requireMessage_4 : decode cX11_requireMessage 4 = .ok (.iload_n 1, 1) := by decide +kernel
theorem dX11_requireMessage_5 : decode cX11_requireMessage 5 = .ok (.aload_n 0, 1) := by decide +kernel
theorem dX11_requireMessage_6 : decode cX11_requireMessage 6 = .ok (.getfield 37, 3) := by decide +kernel
theorem dX11_requireMessage_9 : decode cX11_requireMessage 9 = .ok (.getfield 231, 3) := by decide +kernel
theorem dX11_requireMessage_12 : decode cX11_requireMessage 12 = .ok (.if_icmp .lt 11, 3) := by decide +kernel
theorem dX11_requireMessage_15 : decode cX11_requireMessage 15 = .ok (.new 153, 3) := by decide +kernel
theorem dX11_requireMessage_18 : decode cX11_requireMessage 18 = .ok (.dup, 1) := by decide +kernel
theorem dX11_requireMessage_19 : decode cX11_requireMessage 19 = .ok (.invokespecial 155, 3) := by decide +kernel
theorem dX11_requireMessage_22 : decode cX11_requireMessage 22 = .ok (.athrow, 1) := by decide +kernel
theorem dX11_sent_0 : decode cX11_sent 0 = .ok (.aload_n 0, 1) := by decide +kernel
theorem dX11_sent_1 : decode cX11_sent 1 = .ok (.getfield 46, 3) := by decide +kernel
theorem dX11_sent_4 : decode cX11_sent 4 = .ok (.getfield 232, 3) := by decide +kernel
theorem dX11_sent_7 : decode cX11_sent 7 = .ok (.lreturn, 1) := by decide +kernel
theorem dX11_dropped_0 : decode cX11_dropped 0 = .ok (.aload_n 0, 1) := by decide +kernel
theorem dX11_dropped_1 : decode cX11_dropped 1 = .ok (.getfield 37, 3) := by decide +kernel
theorem dX11_dropped_4 : decode cX11_dropped 4 = .ok (.getfield 235, 3) := by decide +kernel
theorem dX11_dropped_7 : decode cX11_dropped 7 = .ok (.ireturn, 1) := by decide +kernel
theorem dX11_sequence_0 : decode cX11_sequence 0 = .ok (.aload_n 0, 1) := by decide +kernel
theorem dX11_sequence_1 : decode cX11_sequence 1 = .ok (.getfield 46, 3) := by decide +kernel
theorem dX11_sequence_4 : decode cX11_sequence 4 = .ok (.getfield 238, 3) := by decide +kernel
theorem dX11_sequence_7 : decode cX11_sequence 7 = .ok (.i2l, 1) := by decide +kernel
theorem dX11_sequence_8 : decode cX11_sequence 8 = .ok (.ldc2_w 241, 3) := by decide +kernel
theorem dX11_sequence_11 : decode cX11_sequence 11 = .ok (.land, 1) := by decide +kernel
theorem dX11_sequence_12 : decode cX11_sequence 12 = .ok (.lreturn, 1) := by decide +kernel
theorem dX11_queueLength_0 : decode cX11_queueLength 0 = .ok (.aload_n 0, 1) := by decide +kernel
theorem dX11_queueLength_1 : decode cX11_queueLength 1 = .ok (.getfield 37, 3) := by decide +kernel
theorem dX11_queueLength_4 : decode cX11_queueLength 4 = .ok (.getfield 231, 3) := by decide +kernel
theorem dX11_queueLength_7 : decode cX11_queueLength 7 = .ok (.ireturn, 1) := by decide +kernel
set_option maxRecDepth 20000 in
theorem ggX11_messageLength_X11_requireMessage : GoodIn wsX11_messageLength wsX11_requireMessage := goodIn_ca (goodIn_r _ [7, 8, 9, 1, 10, 17, 18, 19, 20, 21, 22, 23, 24, 27, 28, 29] (by decide +kernel) (by decide +kernel)) (goodIn_sub (fun _ h => List.mem_cons_of_mem _ (List.mem_append_right _ h)) (by decide +kernel))
set_option maxRecDepth 20000 in
theorem gX11_messageLength_X11_requireMessage : GoodIn wsX11_messageLength (wsV RX11 243 RX11 yX11_requireMessage wsX11_requireMessage) := goodIn_app (goodIn_of _ (by decide +kernel)) ggX11_messageLength_X11_requireMessage
theorem dX11_messageLength_0 : decode cX11_messageLength 0 = .ok (.aload_n 0, 1) := by decide +kernel
theorem dX11_messageLength_1 : decode cX11_messageLength 1 = .ok (.iload_n 1, 1) := by decide +kernel
theorem dX11_messageLength_2 : decode cX11_messageLength 2 = .ok (.invokevirtual 243, 3) := by decide +kernel
set_option maxRecDepth 20000 in
theorem ggX11_messageByte_X11_requireMessage : GoodIn wsX11_messageByte wsX11_requireMessage := goodIn_ca (goodIn_r _ [6, 7, 8, 1, 9, 23, 24, 25, 26, 27, 28, 29, 30, 31, 32, 33] (by decide +kernel) (by decide +kernel)) (goodIn_sub (fun _ h => List.mem_cons_of_mem _ (List.mem_append_left _ (List.mem_append_right _ h))) (by decide +kernel))
set_option maxRecDepth 20000 in
theorem gX11_messageByte_X11_requireMessage : GoodIn wsX11_messageByte (wsV RX11 243 RX11 yX11_requireMessage wsX11_requireMessage) := goodIn_app (goodIn_of _ (by decide +kernel)) ggX11_messageByte_X11_requireMessage
theorem dX11_messageByte_0 : decode cX11_messageByte 0 = .ok (.aload_n 0, 1) := by decide +kernel
theorem dX11_messageByte_1 : decode cX11_messageByte 1 = .ok (.iload_n 1, 1) := by decide +kernel
theorem dX11_messageByte_2 : decode cX11_messageByte 2 = .ok (.invokevirtual 243, 3) := by decide +kernel
set_option maxRecDepth 20000 in
theorem ggX11_deliver_X11_requireMessage : GoodIn wsX11_deliver wsX11_requireMessage := goodIn_ca (goodIn_r _ [9, 10, 11, 2, 12, 178, 179, 180, 181, 182, 183, 184, 185, 199, 200, 201] (by decide +kernel) (by decide +kernel)) (goodIn_sub (fun _ h => List.mem_cons_of_mem _ (List.mem_append_left _ (List.mem_append_right _ h))) (by decide +kernel))
set_option maxRecDepth 20000 in
theorem gX11_deliver_X11_requireMessage : GoodIn wsX11_deliver (wsV RX11 243 RX11 yX11_requireMessage wsX11_requireMessage) := goodIn_app (goodIn_of _ (by decide +kernel)) ggX11_deliver_X11_requireMessage
theorem dX11_deliver_0 : decode cX11_deliver 0 = .ok (.aload_n 0, 1) := by decide +kernel
theorem dX11_deliver_1 : decode cX11_deliver 1 = .ok (.iload_n 1, 1) := by decide +kernel
theorem dX11_deliver_2 : decode cX11_deliver 2 = .ok (.invokevirtual 243, 3) := by decide +kernel
theorem dX11_deliverAll_0 : decode cX11_deliverAll 0 = .ok (.iconst 0, 1) := by decide +kernel
theorem dX11_deliverAll_1 : decode cX11_deliverAll 1 = .ok (.istore_n 1, 1) := by decide +kernel
theorem dX11_deliverAll_2 : decode cX11_deliverAll 2 = .ok (.aload_n 0, 1) := by decide +kernel
theorem dX11_deliverAll_3 : decode cX11_deliverAll 3 = .ok (.getfield 37, 3) := by decide +kernel
theorem dX11_deliverAll_6 : decode cX11_deliverAll 6 = .ok (.getfield 231, 3) := by decide +kernel
theorem dX11_deliverAll_9 : decode cX11_deliverAll 9 = .ok (.istore_n 2, 1) := by decide +kernel
theorem dX11_deliverAll_10 : decode cX11_deliverAll 10 = .ok (.iload_n 2, 1) := by decide +kernel
theorem dX11_deliverAll_11 : decode cX11_deliverAll 11 = .ok (.ifCond .le 34, 3) := by decide +kernel
theorem dX11_deliverAll_45 : decode cX11_deliverAll 45 = .ok (.iload_n 1, 1) := by decide +kernel
theorem dX11_deliverAll_46 : decode cX11_deliverAll 46 = .ok (.ireturn, 1) := by decide +kernel
set_option maxRecDepth 20000 in
theorem ggX11_lose_X11_requireMessage : GoodIn wsX11_lose wsX11_requireMessage := goodIn_ca (goodIn_r _ [7, 8, 9, 1, 10, 22, 23, 24, 25, 26, 27, 28, 29, 32, 33, 34] (by decide +kernel) (by decide +kernel)) (goodIn_sub (fun _ h => List.mem_cons_of_mem _ (List.mem_append_right _ h)) (by decide +kernel))
set_option maxRecDepth 20000 in
theorem gX11_lose_X11_requireMessage : GoodIn wsX11_lose (wsV RX11 243 RX11 yX11_requireMessage wsX11_requireMessage) := goodIn_app (goodIn_of _ (by decide +kernel)) ggX11_lose_X11_requireMessage
theorem dX11_lose_0 : decode cX11_lose 0 = .ok (.aload_n 0, 1) := by decide +kernel
theorem dX11_lose_1 : decode cX11_lose 1 = .ok (.iload_n 1, 1) := by decide +kernel
theorem dX11_lose_2 : decode cX11_lose 2 = .ok (.invokevirtual 243, 3) := by decide +kernel
set_option maxRecDepth 20000 in
theorem ggX11_duplicate_X11_requireMessage : GoodIn wsX11_duplicate wsX11_requireMessage := goodIn_ca (goodIn_r _ [8, 9, 10, 1, 2, 44, 45, 46, 47, 48, 49, 50, 51, 52, 53, 54] (by decide +kernel) (by decide +kernel)) (goodIn_sub (fun _ h => List.mem_cons_of_mem _ (List.mem_append_right _ h)) (by decide +kernel))
set_option maxRecDepth 20000 in
theorem gX11_duplicate_X11_requireMessage : GoodIn wsX11_duplicate (wsV RX11 243 RX11 yX11_requireMessage wsX11_requireMessage) := goodIn_app (goodIn_of _ (by decide +kernel)) ggX11_duplicate_X11_requireMessage
theorem dX11_duplicate_0 : decode cX11_duplicate 0 = .ok (.aload_n 0, 1) := by decide +kernel
theorem dX11_duplicate_1 : decode cX11_duplicate 1 = .ok (.iload_n 1, 1) := by decide +kernel
theorem dX11_duplicate_2 : decode cX11_duplicate 2 = .ok (.invokevirtual 243, 3) := by decide +kernel
set_option maxRecDepth 20000 in
theorem ggX11_exchange_X11_requireMessage : GoodIn wsX11_exchange wsX11_requireMessage := goodIn_ca (goodIn_r _ [6, 7, 8, 1, 9, 17, 18, 19, 20, 21, 22, 23, 24, 25, 26, 27] (by decide +kernel) (by decide +kernel)) (goodIn_sub (fun _ h => List.mem_cons_of_mem _ (List.mem_append_right _ h)) (by decide +kernel))
set_option maxRecDepth 20000 in
theorem gX11_exchange_X11_requireMessage : GoodIn wsX11_exchange (wsV RX11 243 RX11 yX11_requireMessage wsX11_requireMessage) := goodIn_app (goodIn_of _ (by decide +kernel)) ggX11_exchange_X11_requireMessage
theorem dX11_exchange_0 : decode cX11_exchange 0 = .ok (.aload_n 0, 1) := by decide +kernel
theorem dX11_exchange_1 : decode cX11_exchange 1 = .ok (.iload_n 1, 1) := by decide +kernel
theorem dX11_exchange_2 : decode cX11_exchange 2 = .ok (.invokevirtual 243, 3) := by decide +kernel
theorem dX11_lossRate_0 : decode cX11_lossRate 0 = .ok (.aload_n 0, 1) := by decide +kernel
theorem dX11_lossRate_1 : decode cX11_lossRate 1 = .ok (.getfield 71, 3) := by decide +kernel
theorem dX11_lossRate_4 : decode cX11_lossRate 4 = .ok (.getfield 289, 3) := by decide +kernel
theorem dX11_lossRate_7 : decode cX11_lossRate 7 = .ok (.iconst 0, 1) := by decide +kernel
theorem dX11_lossRate_8 : decode cX11_lossRate 8 = .ok (.laload, 1) := by decide +kernel
theorem dX11_lossRate_9 : decode cX11_lossRate 9 = .ok (.lstore_n 1, 1) := by decide +kernel
theorem dX11_lossRate_10 : decode cX11_lossRate 10 = .ok (.lload_n 1, 1) := by decide +kernel
theorem dX11_lossRate_11 : decode cX11_lossRate 11 = .ok (.aload_n 0, 1) := by decide +kernel
theorem dX11_lossRate_12 : decode cX11_lossRate 12 = .ok (.getfield 71, 3) := by decide +kernel
theorem dX11_lossRate_15 : decode cX11_lossRate 15 = .ok (.getfield 289, 3) := by decide +kernel
theorem dX11_lossRate_18 : decode cX11_lossRate 18 = .ok (.bipush 7, 2) := by decide +kernel
theorem dX11_lossRate_20 : decode cX11_lossRate 20 = .ok (.laload, 1) := by decide +kernel
theorem dX11_lossRate_21 : decode cX11_lossRate 21 = .ok (.ladd, 1) := by decide +kernel
theorem dX11_lossRate_22 : decode cX11_lossRate 22 = .ok (.lstore_n 3, 1) := by decide +kernel
theorem dX11_lossRate_23 : decode cX11_lossRate 23 = .ok (.lload_n 3, 1) := by decide +kernel
theorem dX11_lossRate_24 : decode cX11_lossRate 24 = .ok (.lconst 0, 1) := by decide +kernel
theorem dX11_lossRate_25 : decode cX11_lossRate 25 = .ok (.lcmp, 1) := by decide +kernel
theorem dX11_lossRate_26 : decode cX11_lossRate 26 = .ok (.ifCond .ne 11, 3) := by decide +kernel
theorem dX11_lossRate_29 : decode cX11_lossRate 29 = .ok (.new 293, 3) := by decide +kernel
theorem dX11_lossRate_32 : decode cX11_lossRate 32 = .ok (.dup, 1) := by decide +kernel
theorem dX11_lossRate_33 : decode cX11_lossRate 33 = .ok (.invokespecial 295, 3) := by decide +kernel
theorem dX11_lossRate_36 : decode cX11_lossRate 36 = .ok (.athrow, 1) := by decide +kernel
theorem dX11_requireKey_0 : decode cX11_requireKey 0 = .ok (.iload_n 1, 1) := by decide +kernel
theorem dX11_requireKey_1 : decode cX11_requireKey 1 = .ok (.ifCond .lt 14, 3) := by decide +kernel
theorem dX11_requireKey_4 : decode cX11_requireKey 4 = .ok (.iload_n 1, 1) := by decide +kernel
theorem dX11_requireKey_5 : decode cX11_requireKey 5 = .ok (.aload_n 0, 1) := by decide +kernel
theorem dX11_requireKey_6 : decode cX11_requireKey 6 = .ok (.getfield 62, 3) := by decide +kernel
theorem dX11_requireKey_9 : decode cX11_requireKey 9 = .ok (.getfield 92, 3) := by decide +kernel
theorem dX11_requireKey_12 : decode cX11_requireKey 12 = .ok (.if_icmp .lt 11, 3) := by decide +kernel
theorem dX11_requireKey_15 : decode cX11_requireKey 15 = .ok (.new 153, 3) := by decide +kernel
theorem dX11_requireKey_18 : decode cX11_requireKey 18 = .ok (.dup, 1) := by decide +kernel
theorem dX11_requireKey_19 : decode cX11_requireKey 19 = .ok (.invokespecial 155, 3) := by decide +kernel
theorem dX11_requireKey_22 : decode cX11_requireKey 22 = .ok (.athrow, 1) := by decide +kernel
theorem dX11_keyCount_0 : decode cX11_keyCount 0 = .ok (.aload_n 0, 1) := by decide +kernel
theorem dX11_keyCount_1 : decode cX11_keyCount 1 = .ok (.getfield 62, 3) := by decide +kernel
theorem dX11_keyCount_4 : decode cX11_keyCount 4 = .ok (.getfield 92, 3) := by decide +kernel
theorem dX11_keyCount_7 : decode cX11_keyCount 7 = .ok (.ireturn, 1) := by decide +kernel
set_option maxRecDepth 20000 in
theorem ggX11_key_X11_requireKey : GoodIn wsX11_key wsX11_requireKey := goodIn_ca (goodIn_r _ [9, 10, 11, 3, 12, 19, 20, 21, 22, 23, 24, 25, 26, 27, 28, 29, 30, 31] (by decide +kernel) (by decide +kernel)) (goodIn_sub (fun _ h => List.mem_cons_of_mem _ (List.mem_append_right _ h)) (by decide +kernel))
set_option maxRecDepth 20000 in
theorem gX11_key_X11_requireKey : GoodIn wsX11_key (wsV RX11 298 RX11 yX11_requireKey wsX11_requireKey) := goodIn_app (goodIn_of _ (by decide +kernel)) ggX11_key_X11_requireKey
theorem dX11_key_0 : decode cX11_key 0 = .ok (.aload_n 0, 1) := by decide +kernel
theorem dX11_key_1 : decode cX11_key 1 = .ok (.iload_n 1, 1) := by decide +kernel
theorem dX11_key_2 : decode cX11_key 2 = .ok (.invokevirtual 298, 3) := by decide +kernel
set_option maxRecDepth 20000 in
theorem ggX11_raw_X11_requireKey : GoodIn wsX11_raw wsX11_requireKey := goodIn_ca (goodIn_r _ [7, 8, 9, 1, 10, 16, 17, 18, 19, 20, 21, 22, 23, 24, 25, 26, 27, 28] (by decide +kernel) (by decide +kernel)) (goodIn_sub (fun _ h => List.mem_cons_of_mem _ (List.mem_append_left _ (List.mem_append_right _ h))) (by decide +kernel))
set_option maxRecDepth 20000 in
theorem gX11_raw_X11_requireKey : GoodIn wsX11_raw (wsV RX11 298 RX11 yX11_requireKey wsX11_requireKey) := goodIn_app (goodIn_of _ (by decide +kernel)) ggX11_raw_X11_requireKey
theorem dX11_raw_0 : decode cX11_raw 0 = .ok (.aload_n 0, 1) := by decide +kernel
theorem dX11_raw_1 : decode cX11_raw 1 = .ok (.iload_n 1, 1) := by decide +kernel
theorem dX11_raw_2 : decode cX11_raw 2 = .ok (.invokevirtual 298, 3) := by decide +kernel
set_option maxRecDepth 20000 in
theorem ggX11_estimate_X11_requireKey : GoodIn wsX11_estimate wsX11_requireKey := goodIn_ca (goodIn_r _ [7, 8, 9, 1, 10, 16, 17, 18, 19, 20, 21, 22, 23, 24, 25, 26, 27, 28] (by decide +kernel) (by decide +kernel)) (goodIn_sub (fun _ h => List.mem_cons_of_mem _ (List.mem_append_left _ (List.mem_append_right _ h))) (by decide +kernel))
set_option maxRecDepth 20000 in
theorem gX11_estimate_X11_requireKey : GoodIn wsX11_estimate (wsV RX11 298 RX11 yX11_requireKey wsX11_requireKey) := goodIn_app (goodIn_of _ (by decide +kernel)) ggX11_estimate_X11_requireKey
theorem dX11_estimate_0 : decode cX11_estimate 0 = .ok (.aload_n 0, 1) := by decide +kernel
theorem dX11_estimate_1 : decode cX11_estimate 1 = .ok (.iload_n 1, 1) := by decide +kernel
theorem dX11_estimate_2 : decode cX11_estimate 2 = .ok (.invokevirtual 298, 3) := by decide +kernel
set_option maxRecDepth 20000 in
theorem ggX11_lower_X11_requireKey : GoodIn wsX11_lower wsX11_requireKey := goodIn_ca (goodIn_r _ [6, 7, 8, 1, 9, 43, 44, 45, 46, 47, 48, 49, 50, 51, 52, 53, 54, 55] (by decide +kernel) (by decide +kernel)) (goodIn_sub (fun _ h => List.mem_cons_of_mem _ (List.mem_append_left _ (List.mem_append_left _ (List.mem_append_right _ h)))) (by decide +kernel))
set_option maxRecDepth 20000 in
theorem gX11_lower_X11_requireKey : GoodIn wsX11_lower (wsV RX11 298 RX11 yX11_requireKey wsX11_requireKey) := goodIn_app (goodIn_of _ (by decide +kernel)) ggX11_lower_X11_requireKey
theorem dX11_lower_0 : decode cX11_lower 0 = .ok (.aload_n 0, 1) := by decide +kernel
theorem dX11_lower_1 : decode cX11_lower 1 = .ok (.iload_n 1, 1) := by decide +kernel
theorem dX11_lower_2 : decode cX11_lower 2 = .ok (.invokevirtual 298, 3) := by decide +kernel
set_option maxRecDepth 20000 in
theorem ggX11_upper_X11_requireKey : GoodIn wsX11_upper wsX11_requireKey := goodIn_ca (goodIn_r _ [6, 7, 8, 1, 9, 42, 43, 44, 45, 46, 47, 48, 49, 50, 51, 52, 53, 54] (by decide +kernel) (by decide +kernel)) (goodIn_sub (fun _ h => List.mem_cons_of_mem _ (List.mem_append_left _ (List.mem_append_left _ (List.mem_append_right _ h)))) (by decide +kernel))
set_option maxRecDepth 20000 in
theorem gX11_upper_X11_requireKey : GoodIn wsX11_upper (wsV RX11 298 RX11 yX11_requireKey wsX11_requireKey) := goodIn_app (goodIn_of _ (by decide +kernel)) ggX11_upper_X11_requireKey
theorem dX11_upper_0 : decode cX11_upper 0 = .ok (.aload_n 0, 1) := by decide +kernel
theorem dX11_upper_1 : decode cX11_upper 1 = .ok (.iload_n 1, 1) := by decide +kernel
theorem dX11_upper_2 : decode cX11_upper 2 = .ok (.invokevirtual 298, 3) := by decide +kernel

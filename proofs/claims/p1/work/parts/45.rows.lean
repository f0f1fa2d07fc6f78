theorem dX12_throwsIf_0 : decode cX12_throwsIf 0 = .ok (.iload_n 1, 1) := by decide +kernel
theorem dX12_throwsIf_1 : decode cX12_throwsIf 1 = .ok (.ifCond .eq 8, 3) := by decide +kernel
theorem dX12_throwsIf_4 : decode cX12_throwsIf 4 = .ok (.aload_n 0, 1) := by decide +kernel
theorem dX12_throwsIf_5 : decode cX12_throwsIf 5 = .ok (.iload_n 2, 1) := by decide +kernel
theorem dX12_throwsIf_6 : decode cX12_throwsIf 6 = .ok (.putfield 1, 3) := by decide +kernel
theorem dX12_throwsIf_9 : decode cX12_throwsIf 9 = .ok (.iload_n 1, 1) := by decide +kernel
theorem dX12_throwsIf_10 : decode cX12_throwsIf 10 = .ok (.ireturn, 1) := by decide +kernel
theorem dX12_inRange_0 : decode cX12_inRange 0 = .ok (.lload_n 0, 1) := by decide +kernel
theorem dX12_inRange_1 : decode cX12_inRange 1 = .ok (.lload_n 2, 1) := by decide +kernel
theorem dX12_inRange_2 : decode cX12_inRange 2 = .ok (.lcmp, 1) := by decide +kernel
theorem dX12_inRange_3 : decode cX12_inRange 3 = .ok (.ifCond .lt 14, 3) := by decide +kernel
theorem dX12_inRange_6 : decode cX12_inRange 6 = .ok (.lload_n 0, 1) := by decide +kernel
theorem dX12_inRange_7 : decode cX12_inRange 7 = .ok (.lload 4, 2) := by decide +kernel
theorem dX12_inRange_9 : decode cX12_inRange 9 = .ok (.lcmp, 1) := by decide +kernel
theorem dX12_inRange_10 : decode cX12_inRange 10 = .ok (.ifCond .gt 7, 3) := by decide +kernel
theorem dX12_inRange_13 : decode cX12_inRange 13 = .ok (.iconst 1, 1) := by decide +kernel
theorem dX12_inRange_14 : decode cX12_inRange 14 = .ok (.goto 4, 3) := by decide +kernel
theorem dX12_inRange_17 : decode cX12_inRange 17 = .ok (.iconst 0, 1) := by decide +kernel
theorem dX12_inRange_18 : decode cX12_inRange 18 = .ok (.ireturn, 1) := by decide +kernel
theorem dX12_now_0 : decode cX12_now 0 = .ok (.aload_n 0, 1) := by decide +kernel
theorem dX12_now_1 : decode cX12_now 1 = .ok (.iconst 0, 1) := by decide +kernel
theorem dX12_now_2 : decode cX12_now 2 = .ok (.putfield 1, 3) := by decide +kernel
theorem dX12_now_5 : decode cX12_now 5 = .ok (.aload_n 0, 1) := by decide +kernel
theorem dX12_now_6 : decode cX12_now 6 = .ok (.getfield 101, 3) := by decide +kernel
theorem dX12_now_9 : decode cX12_now 9 = .ok (.ireturn, 1) := by decide +kernel
theorem dX12_setSeed_0 : decode cX12_setSeed 0 = .ok (.aload_n 0, 1) := by decide +kernel
theorem dX12_setSeed_1 : decode cX12_setSeed 1 = .ok (.iconst 0, 1) := by decide +kernel
theorem dX12_setSeed_2 : decode cX12_setSeed 2 = .ok (.putfield 1, 3) := by decide +kernel
theorem dX12_setSeed_5 : decode cX12_setSeed 5 = .ok (.iload_n 1, 1) := by decide +kernel
theorem dX12_setSeed_6 : decode cX12_setSeed 6 = .ok (.ifCond .ge 5, 3) := by decide +kernel
theorem dX12_setSeed_9 : decode cX12_setSeed 9 = .ok (.iconst 0, 1) := by decide +kernel
theorem dX12_setSeed_10 : decode cX12_setSeed 10 = .ok (.ireturn, 1) := by decide +kernel
theorem dX12_setSeed_11 : decode cX12_setSeed 11 = .ok (.aload_n 0, 1) := by decide +kernel
theorem dX12_setSeed_12 : decode cX12_setSeed 12 = .ok (.iload_n 1, 1) := by decide +kernel
theorem dX12_setSeed_13 : decode cX12_setSeed 13 = .ok (.putfield 104, 3) := by decide +kernel
theorem dX12_setSeed_16 : decode cX12_setSeed 16 = .ok (.iconst 1, 1) := by decide +kernel
theorem dX12_setSeed_17 : decode cX12_setSeed 17 = .ok (.ireturn, 1) := by decide +kernel
theorem dX12_rate_0 : decode cX12_rate 0 = .ok (.aload_n 0, 1) := by decide +kernel
theorem dX12_rate_1 : decode cX12_rate 1 = .ok (.iconst 0, 1) := by decide +kernel
theorem dX12_rate_2 : decode cX12_rate 2 = .ok (.putfield 1, 3) := by decide +kernel
theorem dX12_rate_5 : decode cX12_rate 5 = .ok (.aload_n 0, 1) := by decide +kernel
theorem dX12_rate_6 : decode cX12_rate 6 = .ok (.getfield 107, 3) := by decide +kernel
theorem dX12_rate_9 : decode cX12_rate 9 = .ok (.ireturn, 1) := by decide +kernel
theorem dX12_setAdaptive_0 : decode cX12_setAdaptive 0 = .ok (.aload_n 0, 1) := by decide +kernel
theorem dX12_setAdaptive_1 : decode cX12_setAdaptive 1 = .ok (.iconst 0, 1) := by decide +kernel
theorem dX12_setAdaptive_2 : decode cX12_setAdaptive 2 = .ok (.putfield 1, 3) := by decide +kernel
theorem dX12_setAdaptive_5 : decode cX12_setAdaptive 5 = .ok (.aload_n 0, 1) := by decide +kernel
theorem dX12_setAdaptive_6 : decode cX12_setAdaptive 6 = .ok (.getfield 110, 3) := by decide +kernel
theorem dX12_setAdaptive_9 : decode cX12_setAdaptive 9 = .ok (.istore_n 2, 1) := by decide +kernel
theorem dX12_setAdaptive_10 : decode cX12_setAdaptive 10 = .ok (.aload_n 0, 1) := by decide +kernel
theorem dX12_setAdaptive_11 : decode cX12_setAdaptive 11 = .ok (.iload_n 1, 1) := by decide +kernel
theorem dX12_setAdaptive_12 : decode cX12_setAdaptive 12 = .ok (.putfield 110, 3) := by decide +kernel
theorem dX12_setAdaptive_15 : decode cX12_setAdaptive 15 = .ok (.iload_n 2, 1) := by decide +kernel
theorem dX12_setAdaptive_16 : decode cX12_setAdaptive 16 = .ok (.ireturn, 1) := by decide +kernel
theorem dX12_templateCount_0 : decode cX12_templateCount 0 = .ok (.aload_n 0, 1) := by decide +kernel
theorem dX12_templateCount_1 : decode cX12_templateCount 1 = .ok (.iconst 0, 1) := by decide +kernel
theorem dX12_templateCount_2 : decode cX12_templateCount 2 = .ok (.putfield 1, 3) := by decide +kernel
theorem dX12_templateCount_5 : decode cX12_templateCount 5 = .ok (.aload_n 0, 1) := by decide +kernel
theorem dX12_templateCount_6 : decode cX12_templateCount 6 = .ok (.getfield 17, 3) := by decide +kernel
theorem dX12_templateCount_9 : decode cX12_templateCount 9 = .ok (.bipush 10, 2) := by decide +kernel
theorem dX12_templateCount_11 : decode cX12_templateCount 11 = .ok (.iaload, 1) := by decide +kernel
theorem dX12_templateCount_12 : decode cX12_templateCount 12 = .ok (.ireturn, 1) := by decide +kernel
theorem dX12_requestTemplates_0 : decode cX12_requestTemplates 0 = .ok (.aload_n 0, 1) := by decide +kernel
theorem dX12_requestTemplates_1 : decode cX12_requestTemplates 1 = .ok (.iconst 0, 1) := by decide +kernel
theorem dX12_requestTemplates_2 : decode cX12_requestTemplates 2 = .ok (.putfield 1, 3) := by decide +kernel
theorem dX12_requestTemplates_5 : decode cX12_requestTemplates 5 = .ok (.iconst 0, 1) := by decide +kernel
theorem dX12_requestTemplates_6 : decode cX12_requestTemplates 6 = .ok (.istore_n 1, 1) := by decide +kernel
theorem dX12_requestTemplates_7 : decode cX12_requestTemplates 7 = .ok (.iload_n 1, 1) := by decide +kernel
theorem dX12_requestTemplates_8 : decode cX12_requestTemplates 8 = .ok (.iconst 4, 1) := by decide +kernel
theorem dX12_requestTemplates_9 : decode cX12_requestTemplates 9 = .ok (.if_icmp .ge 16, 3) := by decide +kernel
theorem dX12_requestTemplates_12 : decode cX12_requestTemplates 12 = .ok (.aload_n 0, 1) := by decide +kernel
theorem dX12_requestTemplates_13 : decode cX12_requestTemplates 13 = .ok (.getfield 20, 3) := by decide +kernel
theorem dX12_requestTemplates_16 : decode cX12_requestTemplates 16 = .ok (.iload_n 1, 1) := by decide +kernel
theorem dX12_requestTemplates_17 : decode cX12_requestTemplates 17 = .ok (.iconst (-1), 1) := by decide +kernel
theorem dX12_requestTemplates_18 : decode cX12_requestTemplates 18 = .ok (.iastore, 1) := by decide +kernel
theorem dX12_requestTemplates_19 : decode cX12_requestTemplates 19 = .ok (.iinc 1 1, 3) := by decide +kernel
theorem dX12_requestTemplates_22 : decode cX12_requestTemplates 22 = .ok (.goto (-15), 3) := by decide +kernel
theorem dX12_requestTemplates_25 : decode cX12_requestTemplates 25 = .ok (.return_, 1) := by decide +kernel
theorem dX12_cacheSize_0 : decode cX12_cacheSize 0 = .ok (.aload_n 0, 1) := by decide +kernel
theorem dX12_cacheSize_1 : decode cX12_cacheSize 1 = .ok (.iconst 0, 1) := by decide +kernel
theorem dX12_cacheSize_2 : decode cX12_cacheSize 2 = .ok (.putfield 1, 3) := by decide +kernel
theorem dX12_cacheSize_5 : decode cX12_cacheSize 5 = .ok (.aload_n 0, 1) := by decide +kernel
theorem dX12_cacheSize_6 : decode cX12_cacheSize 6 = .ok (.getfield 133, 3) := by decide +kernel
theorem dX12_cacheSize_9 : decode cX12_cacheSize 9 = .ok (.ireturn, 1) := by decide +kernel
set_option maxRecDepth 20000 in
theorem ggX12_restartExporter_X12_startExporter : GoodIn wsX12_restartExporter wsX12_startExporter := goodIn_ca (goodIn_r _ [7, 2, 8, 9, 10, 11, 12, 13, 14, 15, 16, 17, 18, 19, 20, 21, 22, 23, 24, 25, 26, 27, 28, 29, 30, 31, 32, 33, 34, 35, 36, 37, 38, 39, 40, 41, 42, 43, 44, 45, 46, 47, 48, 49, 50, 51, 52, 53, 54, 55, 56, 57, 58, 59, 60, 61, 62, 63, 64] (by decide +kernel) (by decide +kernel)) (goodIn_sub (fun _ h => List.mem_cons_of_mem _ (List.mem_append_right _ h)) (by decide +kernel))
set_option maxRecDepth 20000 in
theorem gX12_restartExporter_X12_startExporter : GoodIn wsX12_restartExporter (wsV RX12 151 RX12 yX12_startExporter wsX12_startExporter) := goodIn_app (goodIn_of _ (by decide +kernel)) ggX12_restartExporter_X12_startExporter
theorem dX12_restartExporter_0 : decode cX12_restartExporter 0 = .ok (.aload_n 0, 1) := by decide +kernel
theorem dX12_restartExporter_1 : decode cX12_restartExporter 1 = .ok (.iconst 0, 1) := by decide +kernel
theorem dX12_restartExporter_2 : decode cX12_restartExporter 2 = .ok (.putfield 1, 3) := by decide +kernel
theorem dX12_restartExporter_5 : decode cX12_restartExporter 5 = .ok (.aload_n 0, 1) := by decide +kernel
theorem dX12_restartExporter_6 : decode cX12_restartExporter 6 = .ok (.getfield 133, 3) := by decide +kernel
theorem dX12_restartExporter_9 : decode cX12_restartExporter 9 = .ok (.istore_n 1, 1) := by decide +kernel
theorem dX12_restartExporter_10 : decode cX12_restartExporter 10 = .ok (.aload_n 0, 1) := by decide +kernel
theorem dX12_restartExporter_11 : decode cX12_restartExporter 11 = .ok (.invokevirtual 151, 3) := by decide +kernel
theorem dX12_restartExporter_14 : decode cX12_restartExporter 14 = .ok (.iload_n 1, 1) := by decide +kernel
theorem dX12_restartExporter_15 : decode cX12_restartExporter 15 = .ok (.ireturn, 1) := by decide +kernel
theorem dX12_observed_0 : decode cX12_observed 0 = .ok (.aload_n 0, 1) := by decide +kernel
theorem dX12_observed_1 : decode cX12_observed 1 = .ok (.iconst 0, 1) := by decide +kernel
theorem dX12_observed_2 : decode cX12_observed 2 = .ok (.putfield 1, 3) := by decide +kernel
theorem dX12_observed_5 : decode cX12_observed 5 = .ok (.aload_n 0, 1) := by decide +kernel
theorem dX12_observed_6 : decode cX12_observed 6 = .ok (.getfield 117, 3) := by decide +kernel
theorem dX12_observed_9 : decode cX12_observed 9 = .ok (.lreturn, 1) := by decide +kernel
theorem dX12_sampled_0 : decode cX12_sampled 0 = .ok (.aload_n 0, 1) := by decide +kernel
theorem dX12_sampled_1 : decode cX12_sampled 1 = .ok (.iconst 0, 1) := by decide +kernel
theorem dX12_sampled_2 : decode cX12_sampled 2 = .ok (.putfield 1, 3) := by decide +kernel
theorem dX12_sampled_5 : decode cX12_sampled 5 = .ok (.aload_n 0, 1) := by decide +kernel
theorem dX12_sampled_6 : decode cX12_sampled 6 = .ok (.getfield 121, 3) := by decide +kernel
theorem dX12_sampled_9 : decode cX12_sampled 9 = .ok (.lreturn, 1) := by decide +kernel
theorem dX12_sent_0 : decode cX12_sent 0 = .ok (.aload_n 0, 1) := by decide +kernel
theorem dX12_sent_1 : decode cX12_sent 1 = .ok (.iconst 0, 1) := by decide +kernel
theorem dX12_sent_2 : decode cX12_sent 2 = .ok (.putfield 1, 3) := by decide +kernel
theorem dX12_sent_5 : decode cX12_sent 5 = .ok (.aload_n 0, 1) := by decide +kernel
theorem dX12_sent_6 : decode cX12_sent 6 = .ok (.getfield 124, 3) := by decide +kernel
theorem dX12_sent_9 : decode cX12_sent 9 = .ok (.lreturn, 1) := by decide +kernel
theorem dX12_unsent_0 : decode cX12_unsent 0 = .ok (.aload_n 0, 1) := by decide +kernel
theorem dX12_unsent_1 : decode cX12_unsent 1 = .ok (.iconst 0, 1) := by decide +kernel
theorem dX12_unsent_2 : decode cX12_unsent 2 = .ok (.putfield 1, 3) := by decide +kernel
theorem dX12_unsent_5 : decode cX12_unsent 5 = .ok (.aload_n 0, 1) := by decide +kernel
theorem dX12_unsent_6 : decode cX12_unsent 6 = .ok (.getfield 127, 3) := by decide +kernel
theorem dX12_unsent_9 : decode cX12_unsent 9 = .ok (.lreturn, 1) := by decide +kernel
theorem dX12_dropped_0 : decode cX12_dropped 0 = .ok (.aload_n 0, 1) := by decide +kernel
theorem dX12_dropped_1 : decode cX12_dropped 1 = .ok (.iconst 0, 1) := by decide +kernel
theorem dX12_dropped_2 : decode cX12_dropped 2 = .ok (.putfield 1, 3) := by decide +kernel
theorem dX12_dropped_5 : decode cX12_dropped 5 = .ok (.aload_n 0, 1) := by decide +kernel
theorem dX12_dropped_6 : decode cX12_dropped 6 = .ok (.getfield 130, 3) := by decide +kernel
theorem dX12_dropped_9 : decode cX12_dropped 9 = .ok (.ireturn, 1) := by decide +kernel
theorem dX12_sequence_0 : decode cX12_sequence 0 = .ok (.aload_n 0, 1) := by decide +kernel
theorem dX12_sequence_1 : decode cX12_sequence 1 = .ok (.iconst 0, 1) := by decide +kernel
theorem dX12_sequence_2 : decode cX12_sequence 2 = .ok (.putfield 1, 3) := by decide +kernel
theorem dX12_sequence_5 : decode cX12_sequence 5 = .ok (.aload_n 0, 1) := by decide +kernel
theorem dX12_sequence_6 : decode cX12_sequence 6 = .ok (.getfield 201, 3) := by decide +kernel
theorem dX12_sequence_9 : decode cX12_sequence 9 = .ok (.lreturn, 1) := by decide +kernel
theorem dX12_queueLength_0 : decode cX12_queueLength 0 = .ok (.aload_n 0, 1) := by decide +kernel
theorem dX12_queueLength_1 : decode cX12_queueLength 1 = .ok (.iconst 0, 1) := by decide +kernel
theorem dX12_queueLength_2 : decode cX12_queueLength 2 = .ok (.putfield 1, 3) := by decide +kernel
theorem dX12_queueLength_5 : decode cX12_queueLength 5 = .ok (.aload_n 0, 1) := by decide +kernel
theorem dX12_queueLength_6 : decode cX12_queueLength 6 = .ok (.getfield 139, 3) := by decide +kernel
theorem dX12_queueLength_9 : decode cX12_queueLength 9 = .ok (.ireturn, 1) := by decide +kernel
theorem dX12_deliverAll_0 : decode cX12_deliverAll 0 = .ok (.aload_n 0, 1) := by decide +kernel
theorem dX12_deliverAll_1 : decode cX12_deliverAll 1 = .ok (.iconst 0, 1) := by decide +kernel
theorem dX12_deliverAll_2 : decode cX12_deliverAll 2 = .ok (.putfield 1, 3) := by decide +kernel
theorem dX12_deliverAll_5 : decode cX12_deliverAll 5 = .ok (.iconst 0, 1) := by decide +kernel
theorem dX12_deliverAll_6 : decode cX12_deliverAll 6 = .ok (.istore_n 1, 1) := by decide +kernel
theorem dX12_deliverAll_7 : decode cX12_deliverAll 7 = .ok (.aload_n 0, 1) := by decide +kernel
theorem dX12_deliverAll_8 : decode cX12_deliverAll 8 = .ok (.getfield 139, 3) := by decide +kernel
theorem dX12_deliverAll_11 : decode cX12_deliverAll 11 = .ok (.ifCond .le 14, 3) := by decide +kernel
theorem dX12_deliverAll_25 : decode cX12_deliverAll 25 = .ok (.iload_n 1, 1) := by decide +kernel
theorem dX12_deliverAll_26 : decode cX12_deliverAll 26 = .ok (.ireturn, 1) := by decide +kernel
set_option maxRecDepth 20000 in
theorem ggX12_restartCollector_X12_startCollector : GoodIn wsX12_restartCollector wsX12_startCollector := goodIn_ca (goodIn_r _ [7, 2, 8, 9, 10, 11, 12, 13, 14, 15, 16, 17, 18, 19, 20, 21, 22, 23, 24, 25, 26, 27, 28, 29, 30, 31, 32, 33, 34, 35, 36, 37, 38, 39, 40, 41, 42, 43, 44, 45, 46, 47, 48, 49, 50, 51, 52, 53, 54, 55, 56, 57, 58, 59, 60, 61, 62, 63, 64] (by decide +kernel) (by decide +kernel)) (goodIn_sub (fun _ h => List.mem_cons_of_mem _ (List.mem_append_right _ h)) (by decide +kernel))
set_option maxRecDepth 20000 in
theorem gX12_restartCollector_X12_startCollector : GoodIn wsX12_restartCollector (wsV RX12 154 RX12 yX12_startCollector wsX12_startCollector) := goodIn_app (goodIn_of _ (by decide +kernel)) ggX12_restartCollector_X12_startCollector
theorem dX12_restartCollector_0 : decode cX12_restartCollector 0 = .ok (.aload_n 0, 1) := by decide +kernel
theorem dX12_restartCollector_1 : decode cX12_restartCollector 1 = .ok (.iconst 0, 1) := by decide +kernel
theorem dX12_restartCollector_2 : decode cX12_restartCollector 2 = .ok (.putfield 1, 3) := by decide +kernel
theorem dX12_restartCollector_5 : decode cX12_restartCollector 5 = .ok (.iconst 0, 1) := by decide +kernel
theorem dX12_restartCollector_6 : decode cX12_restartCollector 6 = .ok (.istore_n 1, 1) := by decide +kernel
theorem dX12_restartCollector_7 : decode cX12_restartCollector 7 = .ok (.iconst 0, 1) := by decide +kernel
theorem dX12_restartCollector_8 : decode cX12_restartCollector 8 = .ok (.istore_n 2, 1) := by decide +kernel
theorem dX12_restartCollector_9 : decode cX12_restartCollector 9 = .ok (.iload_n 2, 1) := by decide +kernel
theorem dX12_restartCollector_10 : decode cX12_restartCollector 10 = .ok (.iconst 4, 1) := by decide +kernel
theorem dX12_restartCollector_11 : decode cX12_restartCollector 11 = .ok (.if_icmp .ge 26, 3) := by decide +kernel
theorem dX12_restartCollector_14 : decode cX12_restartCollector 14 = .ok (.iload_n 1, 1) := by decide +kernel
theorem dX12_restartCollector_15 : decode cX12_restartCollector 15 = .ok (.aload_n 0, 1) := by decide +kernel
theorem dX12_restartCollector_16 : decode cX12_restartCollector 16 = .ok (.getfield 48, 3) := by decide +kernel
theorem dX12_restartCollector_19 : decode cX12_restartCollector 19 = .ok (.iload_n 2, 1) := by decide +kernel
theorem dX12_restartCollector_20 : decode cX12_restartCollector 20 = .ok (.iaload, 1) := by decide +kernel
theorem dX12_restartCollector_21 : decode cX12_restartCollector 21 = .ok (.ifCond .le 7, 3) := by decide +kernel
theorem dX12_restartCollector_28 : decode cX12_restartCollector 28 = .ok (.iconst 0, 1) := by decide +kernel
theorem dX12_restartCollector_29 : decode cX12_restartCollector 29 = .ok (.iadd, 1) := by decide +kernel
theorem dX12_restartCollector_30 : decode cX12_restartCollector 30 = .ok (.istore_n 1, 1) := by decide +kernel
theorem dX12_restartCollector_31 : decode cX12_restartCollector 31 = .ok (.iinc 2 1, 3) := by decide +kernel
theorem dX12_restartCollector_34 : decode cX12_restartCollector 34 = .ok (.goto (-25), 3) := by decide +kernel
theorem dX12_restartCollector_37 : decode cX12_restartCollector 37 = .ok (.aload_n 0, 1) := by decide +kernel
theorem dX12_restartCollector_38 : decode cX12_restartCollector 38 = .ok (.invokevirtual 154, 3) := by decide +kernel
theorem dX12_restartCollector_41 : decode cX12_restartCollector 41 = .ok (.iload_n 1, 1) := by decide +kernel
theorem dX12_restartCollector_42 : decode cX12_restartCollector 42 = .ok (.ireturn, 1) := by decide +kernel
theorem dX12_expected_0 : decode cX12_expected 0 = .ok (.aload_n 0, 1) := by decide +kernel
theorem dX12_expected_1 : decode cX12_expected 1 = .ok (.iconst 0, 1) := by decide +kernel
theorem dX12_expected_2 : decode cX12_expected 2 = .ok (.putfield 1, 3) := by decide +kernel
theorem dX12_expected_5 : decode cX12_expected 5 = .ok (.aload_n 0, 1) := by decide +kernel
theorem dX12_expected_6 : decode cX12_expected 6 = .ok (.getfield 331, 3) := by decide +kernel
theorem dX12_expected_9 : decode cX12_expected 9 = .ok (.lreturn, 1) := by decide +kernel
theorem dX12_keyCount_0 : decode cX12_keyCount 0 = .ok (.aload_n 0, 1) := by decide +kernel
theorem dX12_keyCount_1 : decode cX12_keyCount 1 = .ok (.iconst 0, 1) := by decide +kernel
theorem dX12_keyCount_2 : decode cX12_keyCount 2 = .ok (.putfield 1, 3) := by decide +kernel
theorem dX12_keyCount_5 : decode cX12_keyCount 5 = .ok (.aload_n 0, 1) := by decide +kernel
theorem dX12_keyCount_6 : decode cX12_keyCount 6 = .ok (.getfield 148, 3) := by decide +kernel
theorem dX12_keyCount_9 : decode cX12_keyCount 9 = .ok (.ireturn, 1) := by decide +kernel
theorem dX12_errorCode_0 : decode cX12_errorCode 0 = .ok (.aload_n 0, 1) := by decide +kernel
theorem dX12_errorCode_1 : decode cX12_errorCode 1 = .ok (.iconst 0, 1) := by decide +kernel
theorem dX12_errorCode_2 : decode cX12_errorCode 2 = .ok (.putfield 1, 3) := by decide +kernel
theorem dX12_errorCode_5 : decode cX12_errorCode 5 = .ok (.aload_n 0, 1) := by decide +kernel
theorem dX12_errorCode_6 : decode cX12_errorCode 6 = .ok (.getfield 447, 3) := by decide +kernel
theorem dX12_errorCode_9 : decode cX12_errorCode 9 = .ok (.ireturn, 1) := by decide +kernel
theorem dX12_errorPosition_0 : decode cX12_errorPosition 0 = .ok (.aload_n 0, 1) := by decide +kernel
theorem dX12_errorPosition_1 : decode cX12_errorPosition 1 = .ok (.iconst 0, 1) := by decide +kernel
theorem dX12_errorPosition_2 : decode cX12_errorPosition 2 = .ok (.putfield 1, 3) := by decide +kernel
theorem dX12_errorPosition_5 : decode cX12_errorPosition 5 = .ok (.aload_n 0, 1) := by decide +kernel
theorem dX12_errorPosition_6 : decode cX12_errorPosition 6 = .ok (.getfield 92, 3) := by decide +kernel
theorem dX12_errorPosition_9 : decode cX12_errorPosition 9 = .ok (.ireturn, 1) := by decide +kernel

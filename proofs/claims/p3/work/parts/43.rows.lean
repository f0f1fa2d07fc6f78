theorem dX12_throwsIf_0 : decode cX12_throwsIf 0 = .ok (.iload_n 1, 1) := by decide +kernel
theorem dX12_throwsIf_1 : decode cX12_throwsIf 1 = .ok (.ifCond .eq 8, 3) := by decide +kernel
theorem dX12_throwsIf_4 : decode cX12_throwsIf 4 = .ok (.aload_n 0, 1) := by decide +kernel
theorem dX12_throwsIf_5 : decode cX12_throwsIf 5 = .ok (.iload_n 2, 1) := by decide +kernel
theorem dX12_throwsIf_6 : decode cX12_throwsIf 6 = .ok (.putfield 1, 3) := by decide +kernel
theorem dX12_throwsIf_9 : decode cX12_throwsIf 9 = .ok (.iload_n 1, 1) := by decide +kernel
theorem dX12_throwsIf_10 : decode cX12_throwsIf 10 = .ok (.ireturn, 1) := by decide +kernel
theorem dX12_now_0 : decode cX12_now 0 = .ok (.aload_n 0, 1) := by decide +kernel
theorem dX12_now_1 : decode cX12_now 1 = .ok (.iconst 0, 1) := by decide +kernel
theorem dX12_now_2 : decode cX12_now 2 = .ok (.putfield 1, 3) := by decide +kernel
theorem dX12_now_5 : decode cX12_now 5 = .ok (.aload_n 0, 1) := by decide +kernel
theorem dX12_now_6 : decode cX12_now 6 = .ok (.getfield 101, 3) := by decide +kernel
theorem dX12_now_9 : decode cX12_now 9 = .ok (.ireturn, 1) := by decide +kernel
theorem dX12_setSeed_0 : decode cX12_setSeed 0 = .ok (.aload_n 0, 1) := by decide +kernel
theorem dX12_setSeed_1 : decode cX12_setSeed 1 = .ok (.iconst 0, 1) := by decide +kernel
theorem dX12_setSeed_2 : decode cX12_setSeed 2 = .ok (.putfield 1, 3) := by decide +kernel
theorem dX12_setSeed_5 : decode cX12_setSeed 5 = .ok (.iload_n 1, 1) := by decide +kernel
theorem dX12_setSeed_6 : decode cX12_setSeed 6 = .ok (.ifCond .ge 5, 3) := by decide +kernel
theorem dX12_setSeed_9 : decode cX12_setSeed 9 = .ok (.iconst 0, 1) := by decide +kernel
theorem dX12_setSeed_10 : decode cX12_setSeed 10 = .ok (.ireturn, 1) := by decide +kernel
theorem dX12_setSeed_11 : decode cX12_setSeed 11 = .ok (.aload_n 0, 1) := by decide +kernel
theorem dX12_setSeed_12 : decode cX12_setSeed 12 = .ok (.iload_n 1, 1) := by decide +kernel
theorem dX12_setSeed_13 : decode cX12_setSeed 13 = .ok (.putfield 104, 3) := by decide +kernel
theorem dX12_setSeed_16 : decode cX12_setSeed 16 = .ok (.iconst 1, 1) := by decide +kernel
theorem dX12_setSeed_17 : decode cX12_setSeed 17 = .ok (.ireturn, 1) := by decide +kernel
theorem dX12_rate_0 : decode cX12_rate 0 = .ok (.aload_n 0, 1) := by decide +kernel
theorem dX12_rate_1 : decode cX12_rate 1 = .ok (.iconst 0, 1) := by decide +kernel
theorem dX12_rate_2 : decode cX12_rate 2 = .ok (.putfield 1, 3) := by decide +kernel
theorem dX12_rate_5 : decode cX12_rate 5 = .ok (.aload_n 0, 1) := by decide +kernel
theorem dX12_rate_6 : decode cX12_rate 6 = .ok (.getfield 107, 3) := by decide +kernel
theorem dX12_rate_9 : decode cX12_rate 9 = .ok (.ireturn, 1) := by decide +kernel
theorem dX12_setAdaptive_0 : decode cX12_setAdaptive 0 = .ok (.aload_n 0, 1) := by decide +kernel
theorem dX12_setAdaptive_1 : decode cX12_setAdaptive 1 = .ok (.iconst 0, 1) := by decide +kernel
theorem dX12_setAdaptive_2 : decode cX12_setAdaptive 2 = .ok (.putfield 1, 3) := by decide +kernel
theorem dX12_setAdaptive_5 : decode cX12_setAdaptive 5 = .ok (.aload_n 0, 1) := by decide +kernel
theorem dX12_setAdaptive_6 : decode cX12_setAdaptive 6 = .ok (.getfield 110, 3) := by decide +kernel
theorem dX12_setAdaptive_9 : decode cX12_setAdaptive 9 = .ok (.istore_n 2, 1) := by decide +kernel
theorem dX12_setAdaptive_10 : decode cX12_setAdaptive 10 = .ok (.aload_n 0, 1) := by decide +kernel
theorem dX12_setAdaptive_11 : decode cX12_setAdaptive 11 = .ok (.iload_n 1, 1) := by decide +kernel
theorem dX12_setAdaptive_12 : decode cX12_setAdaptive 12 = .ok (.putfield 110, 3) := by decide +kernel
theorem dX12_setAdaptive_15 : decode cX12_setAdaptive 15 = .ok (.iload_n 2, 1) := by decide +kernel
theorem dX12_setAdaptive_16 : decode cX12_setAdaptive 16 = .ok (.ireturn, 1) := by decide +kernel
set_option maxRecDepth 20000 in
theorem ggX12_isTemplate_X12_inRange : GoodIn wsX12_isTemplate wsX12_inRange := goodIn_r _ [5] rfl (by decide +kernel)
set_option maxRecDepth 20000 in
theorem gX12_isTemplate_X12_inRange : GoodIn wsX12_isTemplate (va_wsS RX12 169 yX12_inRange wsX12_inRange) := goodIn_app (goodIn_of _ (by decide +kernel)) ggX12_isTemplate_X12_inRange
theorem dX12_isTemplate_0 : decode cX12_isTemplate 0 = .ok (.iload_n 1, 1) := by decide +kernel
theorem dX12_isTemplate_1 : decode cX12_isTemplate 1 = .ok (.i2l, 1) := by decide +kernel
theorem dX12_isTemplate_2 : decode cX12_isTemplate 2 = .ok (.lconst 0, 1) := by decide +kernel
theorem dX12_isTemplate_3 : decode cX12_isTemplate 3 = .ok (.aload_n 0, 1) := by decide +kernel
theorem dX12_isTemplate_4 : decode cX12_isTemplate 4 = .ok (.getfield 17, 3) := by decide +kernel
theorem dX12_isTemplate_7 : decode cX12_isTemplate 7 = .ok (.bipush 10, 2) := by decide +kernel
theorem dX12_isTemplate_9 : decode cX12_isTemplate 9 = .ok (.iaload, 1) := by decide +kernel
theorem dX12_isTemplate_10 : decode cX12_isTemplate 10 = .ok (.iconst 1, 1) := by decide +kernel
theorem dX12_isTemplate_11 : decode cX12_isTemplate 11 = .ok (.isub, 1) := by decide +kernel
theorem dX12_isTemplate_12 : decode cX12_isTemplate 12 = .ok (.i2l, 1) := by decide +kernel
theorem dX12_isTemplate_13 : decode cX12_isTemplate 13 = .ok (.invokestatic 169, 3) := by decide +kernel
theorem dX12_isTemplate_16 : decode cX12_isTemplate 16 = .ok (.ireturn, 1) := by decide +kernel
theorem dX12_templateCount_0 : decode cX12_templateCount 0 = .ok (.aload_n 0, 1) := by decide +kernel
theorem dX12_templateCount_1 : decode cX12_templateCount 1 = .ok (.iconst 0, 1) := by decide +kernel
theorem dX12_templateCount_2 : decode cX12_templateCount 2 = .ok (.putfield 1, 3) := by decide +kernel
theorem dX12_templateCount_5 : decode cX12_templateCount 5 = .ok (.aload_n 0, 1) := by decide +kernel
theorem dX12_templateCount_6 : decode cX12_templateCount 6 = .ok (.getfield 17, 3) := by decide +kernel
theorem dX12_templateCount_9 : decode cX12_templateCount 9 = .ok (.bipush 10, 2) := by decide +kernel
theorem dX12_templateCount_11 : decode cX12_templateCount 11 = .ok (.iaload, 1) := by decide +kernel
theorem dX12_templateCount_12 : decode cX12_templateCount 12 = .ok (.ireturn, 1) := by decide +kernel
theorem dX12_cacheSize_0 : decode cX12_cacheSize 0 = .ok (.aload_n 0, 1) := by decide +kernel
theorem dX12_cacheSize_1 : decode cX12_cacheSize 1 = .ok (.iconst 0, 1) := by decide +kernel
theorem dX12_cacheSize_2 : decode cX12_cacheSize 2 = .ok (.putfield 1, 3) := by decide +kernel
theorem dX12_cacheSize_5 : decode cX12_cacheSize 5 = .ok (.aload_n 0, 1) := by decide +kernel
theorem dX12_cacheSize_6 : decode cX12_cacheSize 6 = .ok (.getfield 133, 3) := by decide +kernel
theorem dX12_cacheSize_9 : decode cX12_cacheSize 9 = .ok (.ireturn, 1) := by decide +kernel
theorem dX12_observed_0 : decode cX12_observed 0 = .ok (.aload_n 0, 1) := by decide +kernel
theorem dX12_observed_1 : decode cX12_observed 1 = .ok (.iconst 0, 1) := by decide +kernel
theorem dX12_observed_2 : decode cX12_observed 2 = .ok (.putfield 1, 3) := by decide +kernel
theorem dX12_observed_5 : decode cX12_observed 5 = .ok (.aload_n 0, 1) := by decide +kernel
theorem dX12_observed_6 : decode cX12_observed 6 = .ok (.getfield 117, 3) := by decide +kernel
theorem dX12_observed_9 : decode cX12_observed 9 = .ok (.lreturn, 1) := by decide +kernel
theorem dX12_sampled_0 : decode cX12_sampled 0 = .ok (.aload_n 0, 1) := by decide +kernel
theorem dX12_sampled_1 : decode cX12_sampled 1 = .ok (.iconst 0, 1) := by decide +kernel
theorem dX12_sampled_2 : decode cX12_sampled 2 = .ok (.putfield 1, 3) := by decide +kernel
theorem dX12_sampled_5 : decode cX12_sampled 5 = .ok (.aload_n 0, 1) := by decide +kernel
theorem dX12_sampled_6 : decode cX12_sampled 6 = .ok (.getfield 121, 3) := by decide +kernel
theorem dX12_sampled_9 : decode cX12_sampled 9 = .ok (.lreturn, 1) := by decide +kernel
theorem dX12_sent_0 : decode cX12_sent 0 = .ok (.aload_n 0, 1) := by decide +kernel
theorem dX12_sent_1 : decode cX12_sent 1 = .ok (.iconst 0, 1) := by decide +kernel
theorem dX12_sent_2 : decode cX12_sent 2 = .ok (.putfield 1, 3) := by decide +kernel
theorem dX12_sent_5 : decode cX12_sent 5 = .ok (.aload_n 0, 1) := by decide +kernel
theorem dX12_sent_6 : decode cX12_sent 6 = .ok (.getfield 124, 3) := by decide +kernel
theorem dX12_sent_9 : decode cX12_sent 9 = .ok (.lreturn, 1) := by decide +kernel
theorem dX12_unsent_0 : decode cX12_unsent 0 = .ok (.aload_n 0, 1) := by decide +kernel
theorem dX12_unsent_1 : decode cX12_unsent 1 = .ok (.iconst 0, 1) := by decide +kernel
theorem dX12_unsent_2 : decode cX12_unsent 2 = .ok (.putfield 1, 3) := by decide +kernel
theorem dX12_unsent_5 : decode cX12_unsent 5 = .ok (.aload_n 0, 1) := by decide +kernel
theorem dX12_unsent_6 : decode cX12_unsent 6 = .ok (.getfield 127, 3) := by decide +kernel
theorem dX12_unsent_9 : decode cX12_unsent 9 = .ok (.lreturn, 1) := by decide +kernel
theorem dX12_dropped_0 : decode cX12_dropped 0 = .ok (.aload_n 0, 1) := by decide +kernel
theorem dX12_dropped_1 : decode cX12_dropped 1 = .ok (.iconst 0, 1) := by decide +kernel
theorem dX12_dropped_2 : decode cX12_dropped 2 = .ok (.putfield 1, 3) := by decide +kernel
theorem dX12_dropped_5 : decode cX12_dropped 5 = .ok (.aload_n 0, 1) := by decide +kernel
theorem dX12_dropped_6 : decode cX12_dropped 6 = .ok (.getfield 130, 3) := by decide +kernel
theorem dX12_dropped_9 : decode cX12_dropped 9 = .ok (.ireturn, 1) := by decide +kernel
theorem dX12_sequence_0 : decode cX12_sequence 0 = .ok (.aload_n 0, 1) := by decide +kernel
theorem dX12_sequence_1 : decode cX12_sequence 1 = .ok (.iconst 0, 1) := by decide +kernel
theorem dX12_sequence_2 : decode cX12_sequence 2 = .ok (.putfield 1, 3) := by decide +kernel
theorem dX12_sequence_5 : decode cX12_sequence 5 = .ok (.aload_n 0, 1) := by decide +kernel
theorem dX12_sequence_6 : decode cX12_sequence 6 = .ok (.getfield 201, 3) := by decide +kernel
theorem dX12_sequence_9 : decode cX12_sequence 9 = .ok (.lreturn, 1) := by decide +kernel
set_option maxRecDepth 20000 in
theorem ggX12_isMessage_X12_inRange : GoodIn wsX12_isMessage wsX12_inRange := goodIn_r _ [5] rfl (by decide +kernel)
set_option maxRecDepth 20000 in
theorem gX12_isMessage_X12_inRange : GoodIn wsX12_isMessage (va_wsS RX12 169 yX12_inRange wsX12_inRange) := goodIn_app (goodIn_of _ (by decide +kernel)) ggX12_isMessage_X12_inRange
theorem dX12_isMessage_0 : decode cX12_isMessage 0 = .ok (.iload_n 1, 1) := by decide +kernel
theorem dX12_isMessage_1 : decode cX12_isMessage 1 = .ok (.i2l, 1) := by decide +kernel
theorem dX12_isMessage_2 : decode cX12_isMessage 2 = .ok (.lconst 0, 1) := by decide +kernel
theorem dX12_isMessage_3 : decode cX12_isMessage 3 = .ok (.aload_n 0, 1) := by decide +kernel
theorem dX12_isMessage_4 : decode cX12_isMessage 4 = .ok (.getfield 139, 3) := by decide +kernel
theorem dX12_isMessage_7 : decode cX12_isMessage 7 = .ok (.iconst 1, 1) := by decide +kernel
theorem dX12_isMessage_8 : decode cX12_isMessage 8 = .ok (.isub, 1) := by decide +kernel
theorem dX12_isMessage_9 : decode cX12_isMessage 9 = .ok (.i2l, 1) := by decide +kernel
theorem dX12_isMessage_10 : decode cX12_isMessage 10 = .ok (.invokestatic 169, 3) := by decide +kernel
theorem dX12_isMessage_13 : decode cX12_isMessage 13 = .ok (.ireturn, 1) := by decide +kernel
theorem dX12_queueLength_0 : decode cX12_queueLength 0 = .ok (.aload_n 0, 1) := by decide +kernel
theorem dX12_queueLength_1 : decode cX12_queueLength 1 = .ok (.iconst 0, 1) := by decide +kernel
theorem dX12_queueLength_2 : decode cX12_queueLength 2 = .ok (.putfield 1, 3) := by decide +kernel
theorem dX12_queueLength_5 : decode cX12_queueLength 5 = .ok (.aload_n 0, 1) := by decide +kernel
theorem dX12_queueLength_6 : decode cX12_queueLength 6 = .ok (.getfield 139, 3) := by decide +kernel
theorem dX12_queueLength_9 : decode cX12_queueLength 9 = .ok (.ireturn, 1) := by decide +kernel
theorem dX12_expected_0 : decode cX12_expected 0 = .ok (.aload_n 0, 1) := by decide +kernel
theorem dX12_expected_1 : decode cX12_expected 1 = .ok (.iconst 0, 1) := by decide +kernel
theorem dX12_expected_2 : decode cX12_expected 2 = .ok (.putfield 1, 3) := by decide +kernel
theorem dX12_expected_5 : decode cX12_expected 5 = .ok (.aload_n 0, 1) := by decide +kernel
theorem dX12_expected_6 : decode cX12_expected 6 = .ok (.getfield 331, 3) := by decide +kernel
theorem dX12_expected_9 : decode cX12_expected 9 = .ok (.lreturn, 1) := by decide +kernel
theorem dX12_keyCount_0 : decode cX12_keyCount 0 = .ok (.aload_n 0, 1) := by decide +kernel
theorem dX12_keyCount_1 : decode cX12_keyCount 1 = .ok (.iconst 0, 1) := by decide +kernel
theorem dX12_keyCount_2 : decode cX12_keyCount 2 = .ok (.putfield 1, 3) := by decide +kernel
theorem dX12_keyCount_5 : decode cX12_keyCount 5 = .ok (.aload_n 0, 1) := by decide +kernel
theorem dX12_keyCount_6 : decode cX12_keyCount 6 = .ok (.getfield 148, 3) := by decide +kernel
theorem dX12_keyCount_9 : decode cX12_keyCount 9 = .ok (.ireturn, 1) := by decide +kernel
set_option maxRecDepth 20000 in
theorem ggX12_isKey_X12_inRange : GoodIn wsX12_isKey wsX12_inRange := goodIn_r _ [5] rfl (by decide +kernel)
set_option maxRecDepth 20000 in
theorem gX12_isKey_X12_inRange : GoodIn wsX12_isKey (va_wsS RX12 169 yX12_inRange wsX12_inRange) := goodIn_app (goodIn_of _ (by decide +kernel)) ggX12_isKey_X12_inRange
theorem dX12_isKey_0 : decode cX12_isKey 0 = .ok (.iload_n 1, 1) := by decide +kernel
theorem dX12_isKey_1 : decode cX12_isKey 1 = .ok (.i2l, 1) := by decide +kernel
theorem dX12_isKey_2 : decode cX12_isKey 2 = .ok (.lconst 0, 1) := by decide +kernel
theorem dX12_isKey_3 : decode cX12_isKey 3 = .ok (.aload_n 0, 1) := by decide +kernel
theorem dX12_isKey_4 : decode cX12_isKey 4 = .ok (.getfield 148, 3) := by decide +kernel
theorem dX12_isKey_7 : decode cX12_isKey 7 = .ok (.iconst 1, 1) := by decide +kernel
theorem dX12_isKey_8 : decode cX12_isKey 8 = .ok (.isub, 1) := by decide +kernel
theorem dX12_isKey_9 : decode cX12_isKey 9 = .ok (.i2l, 1) := by decide +kernel
theorem dX12_isKey_10 : decode cX12_isKey 10 = .ok (.invokestatic 169, 3) := by decide +kernel
theorem dX12_isKey_13 : decode cX12_isKey 13 = .ok (.ireturn, 1) := by decide +kernel
theorem dX12_errorCode_0 : decode cX12_errorCode 0 = .ok (.aload_n 0, 1) := by decide +kernel
theorem dX12_errorCode_1 : decode cX12_errorCode 1 = .ok (.iconst 0, 1) := by decide +kernel
theorem dX12_errorCode_2 : decode cX12_errorCode 2 = .ok (.putfield 1, 3) := by decide +kernel
theorem dX12_errorCode_5 : decode cX12_errorCode 5 = .ok (.aload_n 0, 1) := by decide +kernel
theorem dX12_errorCode_6 : decode cX12_errorCode 6 = .ok (.getfield 447, 3) := by decide +kernel
theorem dX12_errorCode_9 : decode cX12_errorCode 9 = .ok (.ireturn, 1) := by decide +kernel
theorem dX12_errorPosition_0 : decode cX12_errorPosition 0 = .ok (.aload_n 0, 1) := by decide +kernel
theorem dX12_errorPosition_1 : decode cX12_errorPosition 1 = .ok (.iconst 0, 1) := by decide +kernel
theorem dX12_errorPosition_2 : decode cX12_errorPosition 2 = .ok (.putfield 1, 3) := by decide +kernel
theorem dX12_errorPosition_5 : decode cX12_errorPosition 5 = .ok (.aload_n 0, 1) := by decide +kernel
theorem dX12_errorPosition_6 : decode cX12_errorPosition 6 = .ok (.getfield 92, 3) := by decide +kernel
theorem dX12_errorPosition_9 : decode cX12_errorPosition 9 = .ok (.ireturn, 1) := by decide +kernel

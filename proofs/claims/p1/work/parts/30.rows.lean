theorem dX12_beginConfiguration_0 : decode cX12_beginConfiguration 0 = .ok (.iconst 0, 1) := by decide +kernel
theorem dX12_beginConfiguration_1 : decode cX12_beginConfiguration 1 = .ok (.istore_n 1, 1) := by decide +kernel
theorem dX12_beginConfiguration_2 : decode cX12_beginConfiguration 2 = .ok (.iload_n 1, 1) := by decide +kernel
theorem dX12_beginConfiguration_3 : decode cX12_beginConfiguration 3 = .ok (.sipush 307, 3) := by decide +kernel
theorem dX12_beginConfiguration_6 : decode cX12_beginConfiguration 6 = .ok (.if_icmp .ge 16, 3) := by decide +kernel
theorem dX12_beginConfiguration_9 : decode cX12_beginConfiguration 9 = .ok (.aload_n 0, 1) := by decide +kernel
theorem dX12_beginConfiguration_10 : decode cX12_beginConfiguration 10 = .ok (.getfield 13, 3) := by decide +kernel
theorem dX12_beginConfiguration_13 : decode cX12_beginConfiguration 13 = .ok (.iload_n 1, 1) := by decide +kernel
theorem dX12_beginConfiguration_14 : decode cX12_beginConfiguration 14 = .ok (.iconst 0, 1) := by decide +kernel
theorem dX12_beginConfiguration_15 : decode cX12_beginConfiguration 15 = .ok (.iastore, 1) := by decide +kernel
theorem dX12_beginConfiguration_16 : decode cX12_beginConfiguration 16 = .ok (.iinc 1 1, 3) := by decide +kernel
theorem dX12_beginConfiguration_19 : decode cX12_beginConfiguration 19 = .ok (.goto (-17), 3) := by decide +kernel
theorem dX12_beginConfiguration_22 : decode cX12_beginConfiguration 22 = .ok (.aload_n 0, 1) := by decide +kernel
theorem dX12_beginConfiguration_23 : decode cX12_beginConfiguration 23 = .ok (.getfield 13, 3) := by decide +kernel
theorem dX12_beginConfiguration_26 : decode cX12_beginConfiguration 26 = .ok (.iconst 0, 1) := by decide +kernel
theorem dX12_beginConfiguration_27 : decode cX12_beginConfiguration 27 = .ok (.iconst 1, 1) := by decide +kernel
theorem dX12_beginConfiguration_28 : decode cX12_beginConfiguration 28 = .ok (.iastore, 1) := by decide +kernel
theorem dX12_beginConfiguration_29 : decode cX12_beginConfiguration 29 = .ok (.aload_n 0, 1) := by decide +kernel
theorem dX12_beginConfiguration_30 : decode cX12_beginConfiguration 30 = .ok (.getfield 13, 3) := by decide +kernel
theorem dX12_beginConfiguration_33 : decode cX12_beginConfiguration 33 = .ok (.iconst 1, 1) := by decide +kernel
theorem dX12_beginConfiguration_34 : decode cX12_beginConfiguration 34 = .ok (.bipush 100, 2) := by decide +kernel
theorem dX12_beginConfiguration_36 : decode cX12_beginConfiguration 36 = .ok (.iastore, 1) := by decide +kernel
theorem dX12_beginConfiguration_37 : decode cX12_beginConfiguration 37 = .ok (.aload_n 0, 1) := by decide +kernel
theorem dX12_beginConfiguration_38 : decode cX12_beginConfiguration 38 = .ok (.getfield 13, 3) := by decide +kernel
theorem dX12_beginConfiguration_41 : decode cX12_beginConfiguration 41 = .ok (.iconst 2, 1) := by decide +kernel
theorem dX12_beginConfiguration_42 : decode cX12_beginConfiguration 42 = .ok (.sipush 1000, 3) := by decide +kernel
theorem dX12_beginConfiguration_45 : decode cX12_beginConfiguration 45 = .ok (.iastore, 1) := by decide +kernel
theorem dX12_beginConfiguration_46 : decode cX12_beginConfiguration 46 = .ok (.aload_n 0, 1) := by decide +kernel
theorem dX12_beginConfiguration_47 : decode cX12_beginConfiguration 47 = .ok (.getfield 13, 3) := by decide +kernel
theorem dX12_beginConfiguration_50 : decode cX12_beginConfiguration 50 = .ok (.iconst 3, 1) := by decide +kernel
theorem dX12_beginConfiguration_51 : decode cX12_beginConfiguration 51 = .ok (.bipush 100, 2) := by decide +kernel
theorem dX12_beginConfiguration_53 : decode cX12_beginConfiguration 53 = .ok (.iastore, 1) := by decide +kernel
theorem dX12_beginConfiguration_54 : decode cX12_beginConfiguration 54 = .ok (.aload_n 0, 1) := by decide +kernel
theorem dX12_beginConfiguration_55 : decode cX12_beginConfiguration 55 = .ok (.getfield 13, 3) := by decide +kernel
theorem dX12_beginConfiguration_58 : decode cX12_beginConfiguration 58 = .ok (.iconst 4, 1) := by decide +kernel
theorem dX12_beginConfiguration_59 : decode cX12_beginConfiguration 59 = .ok (.bipush 20, 2) := by decide +kernel
theorem dX12_beginConfiguration_61 : decode cX12_beginConfiguration 61 = .ok (.iastore, 1) := by decide +kernel
theorem dX12_beginConfiguration_62 : decode cX12_beginConfiguration 62 = .ok (.aload_n 0, 1) := by decide +kernel
theorem dX12_beginConfiguration_63 : decode cX12_beginConfiguration 63 = .ok (.getfield 13, 3) := by decide +kernel
theorem dX12_beginConfiguration_66 : decode cX12_beginConfiguration 66 = .ok (.iconst 5, 1) := by decide +kernel
theorem dX12_beginConfiguration_67 : decode cX12_beginConfiguration 67 = .ok (.sipush 1000, 3) := by decide +kernel
theorem dX12_beginConfiguration_70 : decode cX12_beginConfiguration 70 = .ok (.iastore, 1) := by decide +kernel
theorem dX12_beginConfiguration_71 : decode cX12_beginConfiguration 71 = .ok (.aload_n 0, 1) := by decide +kernel
theorem dX12_beginConfiguration_72 : decode cX12_beginConfiguration 72 = .ok (.getfield 13, 3) := by decide +kernel
theorem dX12_beginConfiguration_75 : decode cX12_beginConfiguration 75 = .ok (.bipush 6, 2) := by decide +kernel
theorem dX12_beginConfiguration_77 : decode cX12_beginConfiguration 77 = .ok (.sipush 5000, 3) := by decide +kernel
theorem dX12_beginConfiguration_80 : decode cX12_beginConfiguration 80 = .ok (.iastore, 1) := by decide +kernel
theorem dX12_beginConfiguration_81 : decode cX12_beginConfiguration 81 = .ok (.aload_n 0, 1) := by decide +kernel
theorem dX12_beginConfiguration_82 : decode cX12_beginConfiguration 82 = .ok (.getfield 13, 3) := by decide +kernel
theorem dX12_beginConfiguration_85 : decode cX12_beginConfiguration 85 = .ok (.bipush 7, 2) := by decide +kernel
theorem dX12_beginConfiguration_87 : decode cX12_beginConfiguration 87 = .ok (.sipush 512, 3) := by decide +kernel
theorem dX12_beginConfiguration_90 : decode cX12_beginConfiguration 90 = .ok (.iastore, 1) := by decide +kernel
theorem dX12_beginConfiguration_91 : decode cX12_beginConfiguration 91 = .ok (.aload_n 0, 1) := by decide +kernel
theorem dX12_beginConfiguration_92 : decode cX12_beginConfiguration 92 = .ok (.getfield 13, 3) := by decide +kernel
theorem dX12_beginConfiguration_95 : decode cX12_beginConfiguration 95 = .ok (.bipush 8, 2) := by decide +kernel
theorem dX12_beginConfiguration_97 : decode cX12_beginConfiguration 97 = .ok (.iconst 1, 1) := by decide +kernel
theorem dX12_beginConfiguration_98 : decode cX12_beginConfiguration 98 = .ok (.iastore, 1) := by decide +kernel
theorem dX12_beginConfiguration_99 : decode cX12_beginConfiguration 99 = .ok (.aload_n 0, 1) := by decide +kernel
theorem dX12_beginConfiguration_100 : decode cX12_beginConfiguration 100 = .ok (.getfield 13, 3) := by decide +kernel
theorem dX12_beginConfiguration_103 : decode cX12_beginConfiguration 103 = .ok (.bipush 9, 2) := by decide +kernel
theorem dX12_beginConfiguration_105 : decode cX12_beginConfiguration 105 = .ok (.sipush 511, 3) := by decide +kernel
theorem dX12_beginConfiguration_108 : decode cX12_beginConfiguration 108 = .ok (.iastore, 1) := by decide +kernel
theorem dX12_beginConfiguration_109 : decode cX12_beginConfiguration 109 = .ok (.return_, 1) := by decide +kernel
theorem dX12_take_53 : decode cX12_take 53 = .ok (.iload_n 1, 1) := by decide +kernel
theorem dX12_take_54 : decode cX12_take 54 = .ok (.sipush 307, 3) := by decide +kernel
theorem dX12_take_57 : decode cX12_take 57 = .ok (.if_icmp .ge 21, 3) := by decide +kernel
theorem dX12_take_60 : decode cX12_take 60 = .ok (.aload_n 0, 1) := by decide +kernel
theorem dX12_take_61 : decode cX12_take 61 = .ok (.getfield 17, 3) := by decide +kernel
theorem dX12_take_64 : decode cX12_take 64 = .ok (.iload_n 1, 1) := by decide +kernel
theorem dX12_take_65 : decode cX12_take 65 = .ok (.aload_n 0, 1) := by decide +kernel
theorem dX12_take_66 : decode cX12_take 66 = .ok (.getfield 13, 3) := by decide +kernel
theorem dX12_take_69 : decode cX12_take 69 = .ok (.iload_n 1, 1) := by decide +kernel
theorem dX12_take_70 : decode cX12_take 70 = .ok (.iaload, 1) := by decide +kernel
theorem dX12_take_71 : decode cX12_take 71 = .ok (.iastore, 1) := by decide +kernel
theorem dX12_take_72 : decode cX12_take 72 = .ok (.iinc 1 1, 3) := by decide +kernel
theorem dX12_take_75 : decode cX12_take 75 = .ok (.goto (-22), 3) := by decide +kernel
theorem dX12_startExporter_0 : decode cX12_startExporter 0 = .ok (.aload_n 0, 1) := by decide +kernel
theorem dX12_startExporter_1 : decode cX12_startExporter 1 = .ok (.iconst 0, 1) := by decide +kernel
theorem dX12_startExporter_2 : decode cX12_startExporter 2 = .ok (.putfield 133, 3) := by decide +kernel
theorem dX12_startExporter_5 : decode cX12_startExporter 5 = .ok (.aload_n 0, 1) := by decide +kernel
theorem dX12_startExporter_6 : decode cX12_startExporter 6 = .ok (.iconst 0, 1) := by decide +kernel
theorem dX12_startExporter_7 : decode cX12_startExporter 7 = .ok (.putfield 136, 3) := by decide +kernel
theorem dX12_startExporter_10 : decode cX12_startExporter 10 = .ok (.aload_n 0, 1) := by decide +kernel
theorem dX12_startExporter_11 : decode cX12_startExporter 11 = .ok (.lconst 0, 1) := by decide +kernel
theorem dX12_startExporter_12 : decode cX12_startExporter 12 = .ok (.putfield 201, 3) := by decide +kernel
theorem dX12_startExporter_15 : decode cX12_startExporter 15 = .ok (.iconst 0, 1) := by decide +kernel
theorem dX12_startExporter_16 : decode cX12_startExporter 16 = .ok (.istore_n 1, 1) := by decide +kernel
theorem dX12_startExporter_17 : decode cX12_startExporter 17 = .ok (.iload_n 1, 1) := by decide +kernel
theorem dX12_startExporter_18 : decode cX12_startExporter 18 = .ok (.iconst 4, 1) := by decide +kernel
theorem dX12_startExporter_19 : decode cX12_startExporter 19 = .ok (.if_icmp .ge 16, 3) := by decide +kernel
theorem dX12_startExporter_22 : decode cX12_startExporter 22 = .ok (.aload_n 0, 1) := by decide +kernel
theorem dX12_startExporter_23 : decode cX12_startExporter 23 = .ok (.getfield 20, 3) := by decide +kernel
theorem dX12_startExporter_26 : decode cX12_startExporter 26 = .ok (.iload_n 1, 1) := by decide +kernel
theorem dX12_startExporter_27 : decode cX12_startExporter 27 = .ok (.iconst (-1), 1) := by decide +kernel
theorem dX12_startExporter_28 : decode cX12_startExporter 28 = .ok (.iastore, 1) := by decide +kernel
theorem dX12_startExporter_29 : decode cX12_startExporter 29 = .ok (.iinc 1 1, 3) := by decide +kernel
theorem dX12_startExporter_32 : decode cX12_startExporter 32 = .ok (.goto (-15), 3) := by decide +kernel
theorem dX12_startExporter_35 : decode cX12_startExporter 35 = .ok (.return_, 1) := by decide +kernel
theorem dX12_startCollector_0 : decode cX12_startCollector 0 = .ok (.iconst 0, 1) := by decide +kernel
theorem dX12_startCollector_1 : decode cX12_startCollector 1 = .ok (.istore_n 1, 1) := by decide +kernel
theorem dX12_startCollector_2 : decode cX12_startCollector 2 = .ok (.iload_n 1, 1) := by decide +kernel
theorem dX12_startCollector_3 : decode cX12_startCollector 3 = .ok (.iconst 4, 1) := by decide +kernel
theorem dX12_startCollector_4 : decode cX12_startCollector 4 = .ok (.if_icmp .ge 16, 3) := by decide +kernel
theorem dX12_startCollector_7 : decode cX12_startCollector 7 = .ok (.aload_n 0, 1) := by decide +kernel
theorem dX12_startCollector_8 : decode cX12_startCollector 8 = .ok (.getfield 48, 3) := by decide +kernel
theorem dX12_startCollector_11 : decode cX12_startCollector 11 = .ok (.iload_n 1, 1) := by decide +kernel
theorem dX12_startCollector_12 : decode cX12_startCollector 12 = .ok (.iconst 0, 1) := by decide +kernel
theorem dX12_startCollector_13 : decode cX12_startCollector 13 = .ok (.iastore, 1) := by decide +kernel
theorem dX12_startCollector_14 : decode cX12_startCollector 14 = .ok (.iinc 1 1, 3) := by decide +kernel
theorem dX12_startCollector_17 : decode cX12_startCollector 17 = .ok (.goto (-15), 3) := by decide +kernel
theorem dX12_startCollector_20 : decode cX12_startCollector 20 = .ok (.aload_n 0, 1) := by decide +kernel
theorem dX12_startCollector_21 : decode cX12_startCollector 21 = .ok (.iconst 0, 1) := by decide +kernel
theorem dX12_startCollector_22 : decode cX12_startCollector 22 = .ok (.putfield 326, 3) := by decide +kernel
theorem dX12_startCollector_25 : decode cX12_startCollector 25 = .ok (.aload_n 0, 1) := by decide +kernel
theorem dX12_startCollector_26 : decode cX12_startCollector 26 = .ok (.ldc2_w 329, 3) := by decide +kernel
theorem dX12_startCollector_29 : decode cX12_startCollector 29 = .ok (.putfield 331, 3) := by decide +kernel
theorem dX12_startCollector_32 : decode cX12_startCollector 32 = .ok (.return_, 1) := by decide +kernel

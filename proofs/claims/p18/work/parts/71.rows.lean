theorem dX12_fail_0 : decode cX12_fail 0 = .ok (.aload_n 0, 1) := by decide +kernel
theorem dX12_fail_1 : decode cX12_fail 1 = .ok (.iload_n 1, 1) := by decide +kernel
theorem dX12_fail_2 : decode cX12_fail 2 = .ok (.putfield 447, 3) := by decide +kernel
theorem dX12_fail_5 : decode cX12_fail 5 = .ok (.aload_n 0, 1) := by decide +kernel
theorem dX12_fail_6 : decode cX12_fail 6 = .ok (.aload_n 0, 1) := by decide +kernel
theorem dX12_fail_7 : decode cX12_fail 7 = .ok (.getfield 464, 3) := by decide +kernel
theorem dX12_fail_10 : decode cX12_fail 10 = .ok (.putfield 92, 3) := by decide +kernel
theorem dX12_fail_13 : decode cX12_fail 13 = .ok (.iconst 0, 1) := by decide +kernel
theorem dX12_fail_14 : decode cX12_fail 14 = .ok (.ireturn, 1) := by decide +kernel
theorem dX12_pack_0 : decode cX12_pack 0 = .ok (.iload_n 0, 1) := by decide +kernel
theorem dX12_pack_1 : decode cX12_pack 1 = .ok (.i2l, 1) := by decide +kernel
theorem dX12_pack_2 : decode cX12_pack 2 = .ok (.ldc2_w 481, 3) := by decide +kernel
theorem dX12_pack_5 : decode cX12_pack 5 = .ok (.lsub, 1) := by decide +kernel
theorem dX12_pack_6 : decode cX12_pack 6 = .ok (.ldc2_w 479, 3) := by decide +kernel
theorem dX12_pack_9 : decode cX12_pack 9 = .ok (.lmul, 1) := by decide +kernel
theorem dX12_pack_10 : decode cX12_pack 10 = .ok (.iload_n 1, 1) := by decide +kernel
theorem dX12_pack_11 : decode cX12_pack 11 = .ok (.i2l, 1) := by decide +kernel
theorem dX12_pack_12 : decode cX12_pack 12 = .ok (.ladd, 1) := by decide +kernel
theorem dX12_pack_13 : decode cX12_pack 13 = .ok (.ldc2_w 481, 3) := by decide +kernel
theorem dX12_pack_16 : decode cX12_pack 16 = .ok (.lsub, 1) := by decide +kernel
theorem dX12_pack_17 : decode cX12_pack 17 = .ok (.ldc2_w 479, 3) := by decide +kernel
theorem dX12_pack_20 : decode cX12_pack 20 = .ok (.lmul, 1) := by decide +kernel
theorem dX12_pack_21 : decode cX12_pack 21 = .ok (.iload_n 2, 1) := by decide +kernel
theorem dX12_pack_22 : decode cX12_pack 22 = .ok (.i2l, 1) := by decide +kernel
theorem dX12_pack_23 : decode cX12_pack 23 = .ok (.ladd, 1) := by decide +kernel
theorem dX12_pack_24 : decode cX12_pack 24 = .ok (.ldc2_w 481, 3) := by decide +kernel
theorem dX12_pack_27 : decode cX12_pack 27 = .ok (.lsub, 1) := by decide +kernel
theorem dX12_pack_28 : decode cX12_pack 28 = .ok (.lstore 6, 2) := by decide +kernel
theorem dX12_pack_30 : decode cX12_pack 30 = .ok (.iload_n 3, 1) := by decide +kernel
theorem dX12_pack_31 : decode cX12_pack 31 = .ok (.ifCond .ne 8, 3) := by decide +kernel
theorem dX12_pack_34 : decode cX12_pack 34 = .ok (.lload 6, 2) := by decide +kernel
theorem dX12_pack_36 : decode cX12_pack 36 = .ok (.goto 16, 3) := by decide +kernel
theorem dX12_pack_39 : decode cX12_pack 39 = .ok (.lload 6, 2) := by decide +kernel
theorem dX12_pack_41 : decode cX12_pack 41 = .ok (.ldc2_w 479, 3) := by decide +kernel
theorem dX12_pack_44 : decode cX12_pack 44 = .ok (.lmul, 1) := by decide +kernel
theorem dX12_pack_45 : decode cX12_pack 45 = .ok (.iload_n 3, 1) := by decide +kernel
theorem dX12_pack_46 : decode cX12_pack 46 = .ok (.i2l, 1) := by decide +kernel
theorem dX12_pack_47 : decode cX12_pack 47 = .ok (.ladd, 1) := by decide +kernel
theorem dX12_pack_48 : decode cX12_pack 48 = .ok (.ldc2_w 481, 3) := by decide +kernel
theorem dX12_pack_51 : decode cX12_pack 51 = .ok (.lsub, 1) := by decide +kernel
theorem dX12_pack_52 : decode cX12_pack 52 = .ok (.lstore 6, 2) := by decide +kernel
theorem dX12_pack_54 : decode cX12_pack 54 = .ok (.iload 4, 2) := by decide +kernel
theorem dX12_pack_56 : decode cX12_pack 56 = .ok (.ifCond .ne 8, 3) := by decide +kernel
theorem dX12_pack_59 : decode cX12_pack 59 = .ok (.lload 6, 2) := by decide +kernel
theorem dX12_pack_61 : decode cX12_pack 61 = .ok (.goto 17, 3) := by decide +kernel
theorem dX12_pack_64 : decode cX12_pack 64 = .ok (.lload 6, 2) := by decide +kernel
theorem dX12_pack_66 : decode cX12_pack 66 = .ok (.ldc2_w 479, 3) := by decide +kernel
theorem dX12_pack_69 : decode cX12_pack 69 = .ok (.lmul, 1) := by decide +kernel
theorem dX12_pack_70 : decode cX12_pack 70 = .ok (.iload 4, 2) := by decide +kernel
theorem dX12_pack_72 : decode cX12_pack 72 = .ok (.i2l, 1) := by decide +kernel
theorem dX12_pack_73 : decode cX12_pack 73 = .ok (.ladd, 1) := by decide +kernel
theorem dX12_pack_74 : decode cX12_pack 74 = .ok (.ldc2_w 481, 3) := by decide +kernel
theorem dX12_pack_77 : decode cX12_pack 77 = .ok (.lsub, 1) := by decide +kernel
theorem dX12_pack_78 : decode cX12_pack 78 = .ok (.lstore 6, 2) := by decide +kernel
theorem dX12_pack_80 : decode cX12_pack 80 = .ok (.iload 5, 2) := by decide +kernel
theorem dX12_pack_82 : decode cX12_pack 82 = .ok (.ifCond .ne 8, 3) := by decide +kernel
theorem dX12_pack_85 : decode cX12_pack 85 = .ok (.lload 6, 2) := by decide +kernel
theorem dX12_pack_87 : decode cX12_pack 87 = .ok (.goto 17, 3) := by decide +kernel
theorem dX12_pack_90 : decode cX12_pack 90 = .ok (.lload 6, 2) := by decide +kernel
theorem dX12_pack_92 : decode cX12_pack 92 = .ok (.ldc2_w 479, 3) := by decide +kernel
theorem dX12_pack_95 : decode cX12_pack 95 = .ok (.lmul, 1) := by decide +kernel
theorem dX12_pack_96 : decode cX12_pack 96 = .ok (.iload 5, 2) := by decide +kernel
theorem dX12_pack_98 : decode cX12_pack 98 = .ok (.i2l, 1) := by decide +kernel
theorem dX12_pack_99 : decode cX12_pack 99 = .ok (.ladd, 1) := by decide +kernel
theorem dX12_pack_100 : decode cX12_pack 100 = .ok (.ldc2_w 481, 3) := by decide +kernel
theorem dX12_pack_103 : decode cX12_pack 103 = .ok (.lsub, 1) := by decide +kernel
theorem dX12_pack_104 : decode cX12_pack 104 = .ok (.lreturn, 1) := by decide +kernel

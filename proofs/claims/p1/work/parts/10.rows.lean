set_option maxRecDepth 20000 in
theorem ggX1_support_X10_copyFrom : GoodIn wsX1_support wsX10_copyFrom := goodIn_ca (goodIn_r _ [8, 9, 10, 11, 12, 7, 13, 14, 15, 16, 17, 18, 19, 20, 21, 22, 23, 24, 31, 32, 33, 34] (by decide +kernel) (by decide +kernel)) (goodIn_sub (fun _ h => List.mem_cons_of_mem _ (List.mem_append_right _ h)) (by decide +kernel))
set_option maxRecDepth 20000 in
theorem gX1_support_X10_copyFrom : GoodIn wsX1_support (wsV RX1 53 RX10 yX10_copyFrom wsX10_copyFrom) := goodIn_app (goodIn_of _ (by decide +kernel)) ggX1_support_X10_copyFrom
theorem dX1_support_0 : decode cX1_support 0 = .ok (.aload_n 0, 1) := by decide +kernel
theorem dX1_support_1 : decode cX1_support 1 = .ok (.iload_n 1, 1) := by decide +kernel
theorem dX1_support_2 : decode cX1_support 2 = .ok (.putfield 31, 3) := by decide +kernel
theorem dX1_support_5 : decode cX1_support 5 = .ok (.iconst 0, 1) := by decide +kernel
theorem dX1_support_6 : decode cX1_support 6 = .ok (.istore_n 2, 1) := by decide +kernel
theorem dX1_support_7 : decode cX1_support 7 = .ok (.iload_n 2, 1) := by decide +kernel
theorem dX1_support_8 : decode cX1_support 8 = .ok (.iconst 4, 1) := by decide +kernel
theorem dX1_support_9 : decode cX1_support 9 = .ok (.if_icmp .ge 25, 3) := by decide +kernel
theorem dX1_support_12 : decode cX1_support 12 = .ok (.aload_n 0, 1) := by decide +kernel
theorem dX1_support_13 : decode cX1_support 13 = .ok (.getfield 24, 3) := by decide +kernel
theorem dX1_support_16 : decode cX1_support 16 = .ok (.iload_n 2, 1) := by decide +kernel
theorem dX1_support_17 : decode cX1_support 17 = .ok (.aaload, 1) := by decide +kernel
theorem dX1_support_18 : decode cX1_support 18 = .ok (.aload_n 0, 1) := by decide +kernel
theorem dX1_support_19 : decode cX1_support 19 = .ok (.getfield 20, 3) := by decide +kernel
theorem dX1_support_22 : decode cX1_support 22 = .ok (.iload_n 2, 1) := by decide +kernel
theorem dX1_support_23 : decode cX1_support 23 = .ok (.aaload, 1) := by decide +kernel
theorem dX1_support_24 : decode cX1_support 24 = .ok (.iload_n 1, 1) := by decide +kernel
theorem dX1_support_25 : decode cX1_support 25 = .ok (.invokevirtual 53, 3) := by decide +kernel
theorem dX1_support_28 : decode cX1_support 28 = .ok (.iinc 2 1, 3) := by decide +kernel
theorem dX1_support_31 : decode cX1_support 31 = .ok (.goto (-24), 3) := by decide +kernel
theorem dX1_support_34 : decode cX1_support 34 = .ok (.return_, 1) := by decide +kernel

set_option maxRecDepth 20000 in
theorem ggX0_clear_J7_fill_d0a16 : GoodIn wsX0_clear wsJ7_fill_d0a16 := goodIn_r _ [5] (by decide +kernel) (by decide +kernel)
set_option maxRecDepth 20000 in
theorem gX0_clear_J7_fill_d0a16 : GoodIn wsX0_clear (va_wsS RX0 57 yJ7_fill_d0a16 wsJ7_fill_d0a16) := goodIn_app (goodIn_of _ (by decide +kernel)) ggX0_clear_J7_fill_d0a16
set_option maxRecDepth 20000 in
theorem ggX0_clear_X0_restart : GoodIn wsX0_clear wsX0_restart := goodIn_r _ [10, 11, 12, 13, 14, 15, 16, 17, 18, 19, 20, 21, 22, 23, 24, 25, 26, 27, 28, 29, 30, 31, 32, 33, 34, 35, 36, 37] (by decide +kernel) (by decide +kernel)
set_option maxRecDepth 20000 in
theorem gX0_clear_X0_restart : GoodIn wsX0_clear (wsV RX0 63 RX0 yX0_restart wsX0_restart) := goodIn_app (goodIn_of _ (by decide +kernel)) ggX0_clear_X0_restart
theorem dX0_clear_0 : decode cX0_clear 0 = .ok (.aload_n 0, 1) := by decide +kernel
theorem dX0_clear_1 : decode cX0_clear 1 = .ok (.getfield 32, 3) := by decide +kernel
theorem dX0_clear_4 : decode cX0_clear 4 = .ok (.lconst 0, 1) := by decide +kernel
theorem dX0_clear_5 : decode cX0_clear 5 = .ok (.invokestatic 57, 3) := by decide +kernel
theorem dX0_clear_8 : decode cX0_clear 8 = .ok (.aload_n 0, 1) := by decide +kernel
theorem dX0_clear_9 : decode cX0_clear 9 = .ok (.invokevirtual 63, 3) := by decide +kernel
theorem dX0_clear_12 : decode cX0_clear 12 = .ok (.pop, 1) := by decide +kernel
theorem dX0_clear_13 : decode cX0_clear 13 = .ok (.return_, 1) := by decide +kernel
set_option maxRecDepth 20000 in
theorem ggX0_restart_X10_clear : GoodIn wsX0_restart wsX10_clear := goodIn_r _ [8, 9, 10, 11, 24, 25, 26, 27] (by decide +kernel) (by decide +kernel)
set_option maxRecDepth 20000 in
theorem gX0_restart_X10_clear : GoodIn wsX0_restart (wsV RX0 70 RX10 yX10_clear wsX10_clear) := goodIn_app (goodIn_of _ (by decide +kernel)) ggX0_restart_X10_clear
theorem dX0_restart_0 : decode cX0_restart 0 = .ok (.iconst 0, 1) := by decide +kernel
theorem dX0_restart_1 : decode cX0_restart 1 = .ok (.istore_n 1, 1) := by decide +kernel
theorem dX0_restart_2 : decode cX0_restart 2 = .ok (.iconst 0, 1) := by decide +kernel
theorem dX0_restart_3 : decode cX0_restart 3 = .ok (.istore_n 2, 1) := by decide +kernel
theorem dX0_restart_4 : decode cX0_restart 4 = .ok (.iload_n 2, 1) := by decide +kernel
theorem dX0_restart_5 : decode cX0_restart 5 = .ok (.iconst 4, 1) := by decide +kernel
theorem dX0_restart_6 : decode cX0_restart 6 = .ok (.if_icmp .ge 33, 3) := by decide +kernel
theorem dX0_restart_9 : decode cX0_restart 9 = .ok (.aload_n 0, 1) := by decide +kernel
theorem dX0_restart_10 : decode cX0_restart 10 = .ok (.getfield 11, 3) := by decide +kernel
theorem dX0_restart_13 : decode cX0_restart 13 = .ok (.iload_n 2, 1) := by decide +kernel
theorem dX0_restart_14 : decode cX0_restart 14 = .ok (.aaload, 1) := by decide +kernel
theorem dX0_restart_15 : decode cX0_restart 15 = .ok (.getfield 67, 3) := by decide +kernel
theorem dX0_restart_18 : decode cX0_restart 18 = .ok (.ifCond .le 6, 3) := by decide +kernel
theorem dX0_restart_24 : decode cX0_restart 24 = .ok (.aload_n 0, 1) := by decide +kernel
theorem dX0_restart_25 : decode cX0_restart 25 = .ok (.getfield 11, 3) := by decide +kernel
theorem dX0_restart_28 : decode cX0_restart 28 = .ok (.iload_n 2, 1) := by decide +kernel
theorem dX0_restart_29 : decode cX0_restart 29 = .ok (.aaload, 1) := by decide +kernel
theorem dX0_restart_30 : decode cX0_restart 30 = .ok (.invokevirtual 70, 3) := by decide +kernel
theorem dX0_restart_33 : decode cX0_restart 33 = .ok (.iinc 2 1, 3) := by decide +kernel
theorem dX0_restart_36 : decode cX0_restart 36 = .ok (.goto (-32), 3) := by decide +kernel
theorem dX0_restart_39 : decode cX0_restart 39 = .ok (.aload_n 0, 1) := by decide +kernel
theorem dX0_restart_40 : decode cX0_restart 40 = .ok (.iconst 0, 1) := by decide +kernel
theorem dX0_restart_41 : decode cX0_restart 41 = .ok (.putfield 39, 3) := by decide +kernel
theorem dX0_restart_44 : decode cX0_restart 44 = .ok (.iload_n 1, 1) := by decide +kernel
theorem dX0_restart_45 : decode cX0_restart 45 = .ok (.ireturn, 1) := by decide +kernel

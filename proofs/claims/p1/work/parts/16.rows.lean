set_option maxRecDepth 20000 in
theorem ggX6_readText_X1_clear : GoodIn wsX6_readText wsX1_clear := goodIn_r _ [11, 12, 13, 14, 15, 16, 17, 18, 19, 20, 21, 22, 23, 24, 25, 26, 27, 28, 29, 30, 31, 32, 176, 177, 178, 179, 180, 181, 182, 183, 184, 185] (by decide +kernel) (by decide +kernel)
set_option maxRecDepth 20000 in
theorem gX6_readText_X1_clear : GoodIn wsX6_readText (wsV RX6 41 RX1 yX1_clear wsX1_clear) := goodIn_app (goodIn_of _ (by decide +kernel)) ggX6_readText_X1_clear
set_option maxRecDepth 20000 in
theorem ggX6_readText_X6_nextToken : GoodIn wsX6_readText wsX6_nextToken := goodIn_ca (goodIn_r _ [37, 4, 38, 39, 40, 5, 41, 42, 43, 44, 45, 46, 47, 48, 49, 36, 50, 168, 169, 170, 171, 172, 173, 174, 175, 186, 187] (by decide +kernel) (by decide +kernel)) (goodIn_sub (fun _ h => List.mem_cons_of_mem _ (List.mem_append_right _ h)) (by decide +kernel))
set_option maxRecDepth 20000 in
theorem gX6_readText_X6_nextToken : GoodIn wsX6_readText (wsV RX6 44 RX6 yX6_nextToken wsX6_nextToken) := goodIn_app (goodIn_of _ (by decide +kernel)) ggX6_readText_X6_nextToken
set_option maxRecDepth 20000 in
theorem ggX6_readText_X1_addUsualTemplate : GoodIn wsX6_readText wsX1_addUsualTemplate := goodIn_ca (goodIn_r _ [54, 19, 18, 55, 56, 57, 28, 58, 30, 31, 59, 32, 176, 177, 178, 179, 180, 181, 182, 183, 184, 185] (by decide +kernel) (by decide +kernel)) (goodIn_sub (fun _ h => List.mem_cons_of_mem _ (List.mem_append_right _ h)) (by decide +kernel))
set_option maxRecDepth 20000 in
theorem gX6_readText_X1_addUsualTemplate : GoodIn wsX6_readText (wsV RX6 50 RX1 yX1_addUsualTemplate wsX1_addUsualTemplate) := goodIn_app (goodIn_of _ (by decide +kernel)) ggX6_readText_X1_addUsualTemplate
theorem dX6_readText_0 : decode cX6_readText 0 = .ok (.aload_n 0, 1) := by decide +kernel
theorem dX6_readText_1 : decode cX6_readText 1 = .ok (.getfield 12, 3) := by decide +kernel
theorem dX6_readText_4 : decode cX6_readText 4 = .ok (.invokevirtual 41, 3) := by decide +kernel
theorem dX6_readText_7 : decode cX6_readText 7 = .ok (.aload_n 0, 1) := by decide +kernel
theorem dX6_readText_8 : decode cX6_readText 8 = .ok (.iconst 0, 1) := by decide +kernel
theorem dX6_readText_9 : decode cX6_readText 9 = .ok (.putfield 18, 3) := by decide +kernel
theorem dX6_readText_12 : decode cX6_readText 12 = .ok (.aload_n 0, 1) := by decide +kernel
theorem dX6_readText_13 : decode cX6_readText 13 = .ok (.iconst (-1), 1) := by decide +kernel
theorem dX6_readText_14 : decode cX6_readText 14 = .ok (.putfield 22, 3) := by decide +kernel
theorem dX6_readText_17 : decode cX6_readText 17 = .ok (.aload_n 0, 1) := by decide +kernel
theorem dX6_readText_18 : decode cX6_readText 18 = .ok (.iconst 0, 1) := by decide +kernel
theorem dX6_readText_19 : decode cX6_readText 19 = .ok (.putfield 25, 3) := by decide +kernel
theorem dX6_readText_22 : decode cX6_readText 22 = .ok (.iconst 0, 1) := by decide +kernel
theorem dX6_readText_23 : decode cX6_readText 23 = .ok (.istore_n 1, 1) := by decide +kernel
theorem dX6_readText_24 : decode cX6_readText 24 = .ok (.iload_n 1, 1) := by decide +kernel
theorem dX6_readText_25 : decode cX6_readText 25 = .ok (.sipush 700, 3) := by decide +kernel
theorem dX6_readText_28 : decode cX6_readText 28 = .ok (.if_icmp .gt 49, 3) := by decide +kernel
theorem dX6_readText_31 : decode cX6_readText 31 = .ok (.aload_n 0, 1) := by decide +kernel
theorem dX6_readText_32 : decode cX6_readText 32 = .ok (.invokevirtual 44, 3) := by decide +kernel
theorem dX6_readText_35 : decode cX6_readText 35 = .ok (.aload_n 0, 1) := by decide +kernel
theorem dX6_readText_36 : decode cX6_readText 36 = .ok (.getfield 28, 3) := by decide +kernel
theorem dX6_readText_39 : decode cX6_readText 39 = .ok (.ifCond .ne 22, 3) := by decide +kernel
theorem dX6_readText_42 : decode cX6_readText 42 = .ok (.aload_n 0, 1) := by decide +kernel
theorem dX6_readText_43 : decode cX6_readText 43 = .ok (.getfield 12, 3) := by decide +kernel
theorem dX6_readText_46 : decode cX6_readText 46 = .ok (.getfield 47, 3) := by decide +kernel
theorem dX6_readText_49 : decode cX6_readText 49 = .ok (.ifCond .ne 10, 3) := by decide +kernel
theorem dX6_readText_52 : decode cX6_readText 52 = .ok (.aload_n 0, 1) := by decide +kernel
theorem dX6_readText_53 : decode cX6_readText 53 = .ok (.getfield 12, 3) := by decide +kernel
theorem dX6_readText_56 : decode cX6_readText 56 = .ok (.invokevirtual 50, 3) := by decide +kernel
theorem dX6_readText_59 : decode cX6_readText 59 = .ok (.iload_n 1, 1) := by decide +kernel
theorem dX6_readText_60 : decode cX6_readText 60 = .ok (.ireturn, 1) := by decide +kernel

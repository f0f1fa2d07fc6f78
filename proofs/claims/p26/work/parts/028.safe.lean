set_option maxRecDepth 20000 in
theorem ggX6_readNumber_X6_nextToken : GoodIn wsX6_readNumber wsX6_nextToken := goodIn_ca ((goodIn_ca (goodIn_ca (goodIn_r _ [10, 4, 5, 11, 3, 1, 12, 13, 14, 15, 16, 17, 18, 19, 20, 9, 21] rfl (by decide +kernel)) (goodIn_sub (fun _ h => List.mem_cons_of_mem _ (List.mem_append_left _ (List.mem_append_left _ (List.mem_append_right _ h)))) gw_wsX60)) (goodIn_sub (fun _ h => List.mem_cons_of_mem _ (List.mem_append_left _ (List.mem_append_right _ h))) gw_wsX50))) (goodIn_sub (fun _ h => List.mem_cons_of_mem _ (List.mem_append_right _ h)) (all_fg _))
set_option maxRecDepth 20000 in
theorem gX6_readNumber_X6_nextToken : GoodIn wsX6_readNumber (wsV RX6 44 RX6 yX6_nextToken wsX6_nextToken) := goodIn_app (goodIn_m (mem_cA (List.mem_cons_of_mem _ (List.mem_append_left _ (List.mem_append_left _ (List.mem_append_left _ (List.mem_append_left _ (List.mem_of_getElem? (i := 5) rfl)))))) (mem_cA (List.mem_cons_of_mem _ (List.mem_append_left _ (List.mem_append_left _ (List.mem_append_left _ (List.mem_append_left _ (List.mem_of_getElem? (i := 6) rfl)))))) (mem_cA (List.mem_cons_of_mem _ (List.mem_append_left _ (List.mem_append_left _ (List.mem_append_left _ (List.mem_append_left _ (List.mem_of_getElem? (i := 7) rfl)))))) (mem_cA (List.mem_cons_of_mem _ (List.mem_append_left _ (List.mem_append_left _ (List.mem_append_left _ (List.mem_append_left _ (List.mem_of_getElem? (i := 8) rfl)))))) mem_cZ)))) (by decide +kernel)) ggX6_readNumber_X6_nextToken
set_option maxRecDepth 20000 in
theorem ggX6_readNumber_X6_fail : GoodIn wsX6_readNumber wsX6_fail := (goodIn_ca (goodIn_r _ [25, 26, 3, 27] rfl (by decide +kernel)) (goodIn_sub (fun _ h => List.mem_cons_of_mem _ (List.mem_append_left _ (List.mem_append_left _ (List.mem_append_right _ h)))) gw_wsX60))
set_option maxRecDepth 20000 in
theorem gX6_readNumber_X6_fail : GoodIn wsX6_readNumber (wsV RX6 63 RX6 yX6_fail wsX6_fail) := goodIn_app (goodIn_m (mem_cA (List.mem_cons_of_mem _ (List.mem_append_left _ (List.mem_append_left _ (List.mem_append_left _ (List.mem_append_left _ (List.mem_of_getElem? (i := 21) rfl)))))) (mem_cA (List.mem_cons_of_mem _ (List.mem_append_left _ (List.mem_append_left _ (List.mem_append_left _ (List.mem_append_left _ (List.mem_of_getElem? (i := 22) rfl)))))) (mem_cA (List.mem_cons_of_mem _ (List.mem_append_left _ (List.mem_append_left _ (List.mem_append_left _ (List.mem_append_left _ (List.mem_of_getElem? (i := 23) rfl)))))) (mem_cA (List.mem_cons_of_mem _ (List.mem_append_left _ (List.mem_append_left _ (List.mem_append_left _ (List.mem_append_left _ (List.mem_of_getElem? (i := 8) rfl)))))) mem_cZ)))) (by decide +kernel)) ggX6_readNumber_X6_fail
set_option maxRecDepth 20000 in
theorem ggX6_readNumber_X5_byteAt : GoodIn wsX6_readNumber wsX5_byteAt := goodIn_ca ((goodIn_ca (goodIn_r _ [16, 17, 18] rfl (by decide +kernel)) (goodIn_sub (fun _ h => List.mem_cons_of_mem _ (List.mem_append_left _ (List.mem_append_right _ h))) gw_wsX50))) (goodIn_sub (fun _ h => List.mem_cons_of_mem _ (List.mem_append_right _ h)) (all_fg _))
set_option maxRecDepth 20000 in
theorem gX6_readNumber_X5_byteAt : GoodIn wsX6_readNumber (wsV RX6 118 RX5 yX5_byteAt wsX5_byteAt) := goodIn_app (goodIn_m (mem_cA (List.mem_cons_of_mem _ (List.mem_append_left _ (List.mem_append_left _ (List.mem_append_left _ (List.mem_append_left _ (List.mem_of_getElem? (i := 11) rfl)))))) (mem_cA (List.mem_cons_of_mem _ (List.mem_append_left _ (List.mem_append_left _ (List.mem_append_left _ (List.mem_append_left _ (List.mem_of_getElem? (i := 12) rfl)))))) (mem_cA (List.mem_cons_of_mem _ (List.mem_append_left _ (List.mem_append_left _ (List.mem_append_left _ (List.mem_append_left _ (List.mem_of_getElem? (i := 13) rfl)))))) (mem_cA (List.mem_cons_of_mem _ (List.mem_append_left _ (List.mem_append_left _ (List.mem_append_left _ (List.mem_append_left _ (List.mem_of_getElem? (i := 14) rfl)))))) mem_cZ)))) (by decide +kernel)) ggX6_readNumber_X5_byteAt
theorem dX6_readNumber_0 : decode cX6_readNumber 0 = .ok (.aload_n 0, 1) := by decide +kernel
theorem dX6_readNumber_1 : decode cX6_readNumber 1 = .ok (.invokevirtual 44, 3) := by decide +kernel
theorem dX6_readNumber_4 : decode cX6_readNumber 4 = .ok (.aload_n 0, 1) := by decide +kernel
theorem dX6_readNumber_5 : decode cX6_readNumber 5 = .ok (.getfield 28, 3) := by decide +kernel
theorem dX6_readNumber_8 : decode cX6_readNumber 8 = .ok (.iconst 3, 1) := by decide +kernel
theorem dX6_readNumber_9 : decode cX6_readNumber 9 = .ok (.if_icmp .eq 9, 3) := by decide +kernel
theorem dX6_readNumber_12 : decode cX6_readNumber 12 = .ok (.aload_n 0, 1) := by decide +kernel
theorem dX6_readNumber_13 : decode cX6_readNumber 13 = .ok (.iconst 1, 1) := by decide +kernel
theorem dX6_readNumber_14 : decode cX6_readNumber 14 = .ok (.invokevirtual 63, 3) := by decide +kernel
theorem dX6_readNumber_17 : decode cX6_readNumber 17 = .ok (.ireturn, 1) := by decide +kernel
theorem dX6_readNumber_18 : decode cX6_readNumber 18 = .ok (.aload_n 0, 1) := by decide +kernel
theorem dX6_readNumber_19 : decode cX6_readNumber 19 = .ok (.iconst 0, 1) := by decide +kernel
theorem dX6_readNumber_20 : decode cX6_readNumber 20 = .ok (.putfield 34, 3) := by decide +kernel
theorem dX6_readNumber_23 : decode cX6_readNumber 23 = .ok (.aload_n 0, 1) := by decide +kernel
theorem dX6_readNumber_24 : decode cX6_readNumber 24 = .ok (.getfield 31, 3) := by decide +kernel
theorem dX6_readNumber_27 : decode cX6_readNumber 27 = .ok (.istore_n 3, 1) := by decide +kernel
theorem dX6_readNumber_28 : decode cX6_readNumber 28 = .ok (.iload_n 3, 1) := by decide +kernel
theorem dX6_readNumber_29 : decode cX6_readNumber 29 = .ok (.aload_n 0, 1) := by decide +kernel
theorem dX6_readNumber_30 : decode cX6_readNumber 30 = .ok (.getfield 25, 3) := by decide +kernel
theorem dX6_readNumber_33 : decode cX6_readNumber 33 = .ok (.if_icmp .ge 32, 3) := by decide +kernel
theorem dX6_readNumber_36 : decode cX6_readNumber 36 = .ok (.aload_n 0, 1) := by decide +kernel
theorem dX6_readNumber_37 : decode cX6_readNumber 37 = .ok (.bipush 10, 2) := by decide +kernel
theorem dX6_readNumber_39 : decode cX6_readNumber 39 = .ok (.aload_n 0, 1) := by decide +kernel
theorem dX6_readNumber_40 : decode cX6_readNumber 40 = .ok (.getfield 34, 3) := by decide +kernel
theorem dX6_readNumber_43 : decode cX6_readNumber 43 = .ok (.imul, 1) := by decide +kernel
theorem dX6_readNumber_44 : decode cX6_readNumber 44 = .ok (.aload_n 0, 1) := by decide +kernel
theorem dX6_readNumber_45 : decode cX6_readNumber 45 = .ok (.getfield 37, 3) := by decide +kernel
theorem dX6_readNumber_48 : decode cX6_readNumber 48 = .ok (.iload_n 3, 1) := by decide +kernel
theorem dX6_readNumber_49 : decode cX6_readNumber 49 = .ok (.invokevirtual 118, 3) := by decide +kernel
theorem dX6_readNumber_52 : decode cX6_readNumber 52 = .ok (.iadd, 1) := by decide +kernel
theorem dX6_readNumber_53 : decode cX6_readNumber 53 = .ok (.bipush 48, 2) := by decide +kernel
theorem dX6_readNumber_55 : decode cX6_readNumber 55 = .ok (.isub, 1) := by decide +kernel
theorem dX6_readNumber_56 : decode cX6_readNumber 56 = .ok (.putfield 34, 3) := by decide +kernel
theorem dX6_readNumber_59 : decode cX6_readNumber 59 = .ok (.iinc 3 1, 3) := by decide +kernel
theorem dX6_readNumber_62 : decode cX6_readNumber 62 = .ok (.goto (-34), 3) := by decide +kernel
theorem dX6_readNumber_65 : decode cX6_readNumber 65 = .ok (.aload_n 0, 1) := by decide +kernel
theorem dX6_readNumber_66 : decode cX6_readNumber 66 = .ok (.getfield 34, 3) := by decide +kernel
theorem dX6_readNumber_69 : decode cX6_readNumber 69 = .ok (.iload_n 1, 1) := by decide +kernel
theorem dX6_readNumber_70 : decode cX6_readNumber 70 = .ok (.if_icmp .lt 11, 3) := by decide +kernel
theorem dX6_readNumber_73 : decode cX6_readNumber 73 = .ok (.aload_n 0, 1) := by decide +kernel
theorem dX6_readNumber_74 : decode cX6_readNumber 74 = .ok (.getfield 34, 3) := by decide +kernel
theorem dX6_readNumber_77 : decode cX6_readNumber 77 = .ok (.iload_n 2, 1) := by decide +kernel
theorem dX6_readNumber_78 : decode cX6_readNumber 78 = .ok (.if_icmp .le 11, 3) := by decide +kernel
theorem dX6_readNumber_81 : decode cX6_readNumber 81 = .ok (.aload_n 0, 1) := by decide +kernel
theorem dX6_readNumber_82 : decode cX6_readNumber 82 = .ok (.iconst 2, 1) := by decide +kernel
theorem dX6_readNumber_83 : decode cX6_readNumber 83 = .ok (.invokevirtual 63, 3) := by decide +kernel
theorem dX6_readNumber_86 : decode cX6_readNumber 86 = .ok (.ifCond .eq 7, 3) := by decide +kernel
theorem dX6_readNumber_89 : decode cX6_readNumber 89 = .ok (.iconst 1, 1) := by decide +kernel
theorem dX6_readNumber_90 : decode cX6_readNumber 90 = .ok (.goto 4, 3) := by decide +kernel
theorem dX6_readNumber_93 : decode cX6_readNumber 93 = .ok (.iconst 0, 1) := by decide +kernel
theorem dX6_readNumber_94 : decode cX6_readNumber 94 = .ok (.ireturn, 1) := by decide +kernel
set_option maxRecDepth 20000 in
theorem ggX6_readSemicolon_X6_nextToken : GoodIn wsX6_readSemicolon wsX6_nextToken := goodIn_ca ((goodIn_ca (goodIn_ca (goodIn_r _ [6, 7, 8, 9, 10, 1, 11, 12, 13, 14, 15, 16, 17, 18, 19, 5, 20] rfl (by decide +kernel)) (goodIn_sub (fun _ h => List.mem_cons_of_mem _ (List.mem_append_left _ (List.mem_append_left _ (List.mem_append_right _ h)))) gw_wsX60)) (goodIn_sub (fun _ h => List.mem_cons_of_mem _ (List.mem_append_left _ (List.mem_append_right _ h))) gw_wsX50))) (goodIn_sub (fun _ h => List.mem_cons_of_mem _ (List.mem_append_right _ h)) (all_fg _))
set_option maxRecDepth 20000 in
theorem gX6_readSemicolon_X6_nextToken : GoodIn wsX6_readSemicolon (wsV RX6 44 RX6 yX6_nextToken wsX6_nextToken) := goodIn_app (goodIn_m (mem_cA (List.mem_cons_of_mem _ (List.mem_append_left _ (List.mem_append_left _ (List.mem_append_left _ (List.mem_append_left _ (List.mem_of_getElem? (i := 1) rfl)))))) (mem_cA (List.mem_cons_of_mem _ (List.mem_append_left _ (List.mem_append_left _ (List.mem_append_left _ (List.mem_append_left _ (List.mem_of_getElem? (i := 2) rfl)))))) (mem_cA (List.mem_cons_of_mem _ (List.mem_append_left _ (List.mem_append_left _ (List.mem_append_left _ (List.mem_append_left _ (List.mem_of_getElem? (i := 3) rfl)))))) (mem_cA (List.mem_cons_of_mem _ (List.mem_append_left _ (List.mem_append_left _ (List.mem_append_left _ (List.mem_append_left _ (List.mem_of_getElem? (i := 4) rfl)))))) mem_cZ)))) (by decide +kernel)) ggX6_readSemicolon_X6_nextToken
set_option maxRecDepth 20000 in
theorem ggX6_readSemicolon_X6_fail : GoodIn wsX6_readSemicolon wsX6_fail := (goodIn_ca (goodIn_r _ [24, 25, 10, 26] rfl (by decide +kernel)) (goodIn_sub (fun _ h => List.mem_cons_of_mem _ (List.mem_append_left _ (List.mem_append_left _ (List.mem_append_right _ h)))) gw_wsX60))
set_option maxRecDepth 20000 in
theorem gX6_readSemicolon_X6_fail : GoodIn wsX6_readSemicolon (wsV RX6 63 RX6 yX6_fail wsX6_fail) := goodIn_app (goodIn_m (mem_cA (List.mem_cons_of_mem _ (List.mem_append_left _ (List.mem_append_left _ (List.mem_append_left _ (List.mem_append_left _ (List.mem_of_getElem? (i := 20) rfl)))))) (mem_cA (List.mem_cons_of_mem _ (List.mem_append_left _ (List.mem_append_left _ (List.mem_append_left _ (List.mem_append_left _ (List.mem_of_getElem? (i := 21) rfl)))))) (mem_cA (List.mem_cons_of_mem _ (List.mem_append_left _ (List.mem_append_left _ (List.mem_append_left _ (List.mem_append_left _ (List.mem_of_getElem? (i := 22) rfl)))))) (mem_cA (List.mem_cons_of_mem _ (List.mem_append_left _ (List.mem_append_left _ (List.mem_append_left _ (List.mem_append_left _ (List.mem_of_getElem? (i := 4) rfl)))))) mem_cZ)))) (by decide +kernel)) ggX6_readSemicolon_X6_fail
theorem dX6_readSemicolon_0 : decode cX6_readSemicolon 0 = .ok (.aload_n 0, 1) := by decide +kernel
theorem dX6_readSemicolon_1 : decode cX6_readSemicolon 1 = .ok (.invokevirtual 44, 3) := by decide +kernel
theorem dX6_readSemicolon_4 : decode cX6_readSemicolon 4 = .ok (.aload_n 0, 1) := by decide +kernel
theorem dX6_readSemicolon_5 : decode cX6_readSemicolon 5 = .ok (.getfield 28, 3) := by decide +kernel
theorem dX6_readSemicolon_8 : decode cX6_readSemicolon 8 = .ok (.iconst 4, 1) := by decide +kernel
theorem dX6_readSemicolon_9 : decode cX6_readSemicolon 9 = .ok (.if_icmp .eq 11, 3) := by decide +kernel
theorem dX6_readSemicolon_12 : decode cX6_readSemicolon 12 = .ok (.aload_n 0, 1) := by decide +kernel
theorem dX6_readSemicolon_13 : decode cX6_readSemicolon 13 = .ok (.iconst 1, 1) := by decide +kernel
theorem dX6_readSemicolon_14 : decode cX6_readSemicolon 14 = .ok (.invokevirtual 63, 3) := by decide +kernel
theorem dX6_readSemicolon_17 : decode cX6_readSemicolon 17 = .ok (.ifCond .eq 7, 3) := by decide +kernel
theorem dX6_readSemicolon_20 : decode cX6_readSemicolon 20 = .ok (.iconst 1, 1) := by decide +kernel
theorem dX6_readSemicolon_21 : decode cX6_readSemicolon 21 = .ok (.goto 4, 3) := by decide +kernel
theorem dX6_readSemicolon_24 : decode cX6_readSemicolon 24 = .ok (.iconst 0, 1) := by decide +kernel
theorem dX6_readSemicolon_25 : decode cX6_readSemicolon 25 = .ok (.ireturn, 1) := by decide +kernel
set_option maxRecDepth 20000 in
theorem ggX6_wordIn_J0_length_8abf5 : GoodIn wsX6_wordIn wsJ0_length_8abf5 := (goodIn_ca (goodIn_r _ [6, 7, 8, 9, 10, 5, 11, 12, 13] rfl (by decide +kernel)) (goodIn_sub (fun _ h => List.mem_cons_of_mem _ (List.mem_append_left _ (List.mem_append_left _ (List.mem_append_right _ h)))) gw_wsJ00))
set_option maxRecDepth 20000 in
theorem gX6_wordIn_J0_length_8abf5 : GoodIn wsX6_wordIn (wsV RX6 124 RJ0 yJ0_length_8abf5 wsJ0_length_8abf5) := goodIn_app (goodIn_m (mem_cA (List.mem_cons_of_mem _ (List.mem_append_left _ (List.mem_append_left _ (List.mem_append_left _ (List.mem_append_left _ (List.mem_append_left _ (List.mem_of_getElem? (i := 1) rfl))))))) (mem_cA (List.mem_cons_of_mem _ (List.mem_append_left _ (List.mem_append_left _ (List.mem_append_left _ (List.mem_append_left _ (List.mem_append_left _ (List.mem_of_getElem? (i := 2) rfl))))))) (mem_cA (List.mem_cons_of_mem _ (List.mem_append_left _ (List.mem_append_left _ (List.mem_append_left _ (List.mem_append_left _ (List.mem_append_left _ (List.mem_of_getElem? (i := 3) rfl))))))) (mem_cA (List.mem_cons_of_mem _ (List.mem_append_left _ (List.mem_append_left _ (List.mem_append_left _ (List.mem_append_left _ (List.mem_append_left _ (List.mem_of_getElem? (i := 4) rfl))))))) mem_cZ)))) (by decide +kernel)) ggX6_wordIn_J0_length_8abf5
set_option maxRecDepth 20000 in
theorem ggX6_wordIn_J0_charAt_5068e : GoodIn wsX6_wordIn wsJ0_charAt_5068e := (goodIn_ca (goodIn_r _ [17, 7, 18, 19, 20, 5, 21, 12, 13, 22, 23, 24, 25, 26, 27, 28, 29, 30, 31, 32, 33, 34, 35, 36, 37, 38, 39, 40, 41, 42, 43, 44, 45, 46, 47, 48, 49, 50] rfl (by decide +kernel)) (goodIn_sub (fun _ h => List.mem_cons_of_mem _ (List.mem_append_left _ (List.mem_append_left _ (List.mem_append_right _ h)))) gw_wsJ00))
set_option maxRecDepth 20000 in
theorem gX6_wordIn_J0_charAt_5068e : GoodIn wsX6_wordIn (wsV RX6 130 RJ0 yJ0_charAt_5068e wsJ0_charAt_5068e) := goodIn_app (goodIn_m (mem_cA (List.mem_cons_of_mem _ (List.mem_append_left _ (List.mem_append_left _ (List.mem_append_left _ (List.mem_append_left _ (List.mem_append_left _ (List.mem_of_getElem? (i := 13) rfl))))))) (mem_cA (List.mem_cons_of_mem _ (List.mem_append_left _ (List.mem_append_left _ (List.mem_append_left _ (List.mem_append_left _ (List.mem_append_left _ (List.mem_of_getElem? (i := 14) rfl))))))) (mem_cA (List.mem_cons_of_mem _ (List.mem_append_left _ (List.mem_append_left _ (List.mem_append_left _ (List.mem_append_left _ (List.mem_append_left _ (List.mem_of_getElem? (i := 15) rfl))))))) (mem_cA (List.mem_cons_of_mem _ (List.mem_append_left _ (List.mem_append_left _ (List.mem_append_left _ (List.mem_append_left _ (List.mem_append_left _ (List.mem_of_getElem? (i := 4) rfl))))))) mem_cZ)))) (by decide +kernel)) ggX6_wordIn_J0_charAt_5068e
set_option maxRecDepth 20000 in
theorem ggX6_wordIn_X6_isToken : GoodIn wsX6_wordIn wsX6_isToken := goodIn_ca ((goodIn_ca (goodIn_ca (goodIn_ca (goodIn_r _ [55, 56, 57, 58, 2, 3, 4, 5, 6, 7, 8, 9, 10, 11, 12, 13, 14, 15, 16, 17, 18, 19, 20, 21, 22, 23, 24, 25, 26, 27, 28, 29, 30, 31, 32, 33, 34, 35, 36, 37, 38, 39, 40, 41, 42, 43, 44, 45, 46, 47, 48, 49, 50, 59, 60, 61, 62, 63, 64, 65] rfl (by decide +kernel)) (goodIn_sub (fun _ h => List.mem_cons_of_mem _ (List.mem_append_left _ (List.mem_append_left _ (List.mem_append_left _ (List.mem_append_right _ h))))) gw_wsX60)) (goodIn_sub (fun _ h => List.mem_cons_of_mem _ (List.mem_append_left _ (List.mem_append_left _ (List.mem_append_right _ h)))) gw_wsJ00)) (goodIn_sub (fun _ h => List.mem_cons_of_mem _ (List.mem_append_left _ (List.mem_append_right _ h))) gw_wsX50))) (goodIn_sub (fun _ h => List.mem_cons_of_mem _ (List.mem_append_right _ h)) (all_fg _))
set_option maxRecDepth 20000 in
theorem gX6_wordIn_X6_isToken : GoodIn wsX6_wordIn (wsV RX6 134 RX6 yX6_isToken wsX6_isToken) := goodIn_app (goodIn_m (mem_cA (List.mem_cons_of_mem _ (List.mem_append_left _ (List.mem_append_left _ (List.mem_append_left _ (List.mem_append_left _ (List.mem_append_right _ (List.mem_append_right _ (List.mem_of_getElem? (i := 2) rfl)))))))) (mem_cA (List.mem_cons_of_mem _ (List.mem_append_left _ (List.mem_append_left _ (List.mem_append_left _ (List.mem_append_left _ (List.mem_append_right _ (List.mem_append_right _ (List.mem_of_getElem? (i := 3) rfl)))))))) (mem_cA (List.mem_cons_of_mem _ (List.mem_append_left _ (List.mem_append_left _ (List.mem_append_left _ (List.mem_append_left _ (List.mem_append_right _ (List.mem_append_right _ (List.mem_of_getElem? (i := 4) rfl)))))))) (mem_cA (List.mem_cons_of_mem _ (List.mem_append_left _ (List.mem_append_left _ (List.mem_append_left _ (List.mem_append_left _ (List.mem_append_right _ (List.mem_append_right _ (List.mem_of_getElem? (i := 5) rfl)))))))) mem_cZ)))) (by decide +kernel)) ggX6_wordIn_X6_isToken
theorem dX6_wordIn_0 : decode cX6_wordIn 0 = .ok (.aload_n 0, 1) := by decide +kernel
theorem dX6_wordIn_1 : decode cX6_wordIn 1 = .ok (.getfield 28, 3) := by decide +kernel
theorem dX6_wordIn_4 : decode cX6_wordIn 4 = .ok (.iconst 2, 1) := by decide +kernel
theorem dX6_wordIn_5 : decode cX6_wordIn 5 = .ok (.if_icmp .eq 5, 3) := by decide +kernel
theorem dX6_wordIn_8 : decode cX6_wordIn 8 = .ok (.iconst (-1), 1) := by decide +kernel
theorem dX6_wordIn_9 : decode cX6_wordIn 9 = .ok (.ireturn, 1) := by decide +kernel
theorem dX6_wordIn_10 : decode cX6_wordIn 10 = .ok (.iconst 0, 1) := by decide +kernel
theorem dX6_wordIn_11 : decode cX6_wordIn 11 = .ok (.istore_n 2, 1) := by decide +kernel
theorem dX6_wordIn_12 : decode cX6_wordIn 12 = .ok (.iconst 0, 1) := by decide +kernel
theorem dX6_wordIn_13 : decode cX6_wordIn 13 = .ok (.istore_n 3, 1) := by decide +kernel
theorem dX6_wordIn_14 : decode cX6_wordIn 14 = .ok (.iconst 0, 1) := by decide +kernel
theorem dX6_wordIn_15 : decode cX6_wordIn 15 = .ok (.istore 4, 2) := by decide +kernel
theorem dX6_wordIn_17 : decode cX6_wordIn 17 = .ok (.iload 4, 2) := by decide +kernel
theorem dX6_wordIn_19 : decode cX6_wordIn 19 = .ok (.aload_n 1, 1) := by decide +kernel
theorem dX6_wordIn_20 : decode cX6_wordIn 20 = .ok (.invokevirtual 124, 3) := by decide +kernel
theorem dX6_wordIn_23 : decode cX6_wordIn 23 = .ok (.if_icmp .gt 50, 3) := by decide +kernel
theorem dX6_wordIn_26 : decode cX6_wordIn 26 = .ok (.iload 4, 2) := by decide +kernel
theorem dX6_wordIn_28 : decode cX6_wordIn 28 = .ok (.aload_n 1, 1) := by decide +kernel
theorem dX6_wordIn_29 : decode cX6_wordIn 29 = .ok (.invokevirtual 124, 3) := by decide +kernel
theorem dX6_wordIn_32 : decode cX6_wordIn 32 = .ok (.if_icmp .eq 14, 3) := by decide +kernel
theorem dX6_wordIn_35 : decode cX6_wordIn 35 = .ok (.aload_n 1, 1) := by decide +kernel
theorem dX6_wordIn_36 : decode cX6_wordIn 36 = .ok (.iload 4, 2) := by decide +kernel
theorem dX6_wordIn_38 : decode cX6_wordIn 38 = .ok (.invokevirtual 130, 3) := by decide +kernel
theorem dX6_wordIn_41 : decode cX6_wordIn 41 = .ok (.bipush 32, 2) := by decide +kernel
theorem dX6_wordIn_43 : decode cX6_wordIn 43 = .ok (.if_icmp .ne 24, 3) := by decide +kernel
theorem dX6_wordIn_46 : decode cX6_wordIn 46 = .ok (.aload_n 0, 1) := by decide +kernel
theorem dX6_wordIn_47 : decode cX6_wordIn 47 = .ok (.aload_n 1, 1) := by decide +kernel
theorem dX6_wordIn_48 : decode cX6_wordIn 48 = .ok (.iload_n 3, 1) := by decide +kernel
theorem dX6_wordIn_49 : decode cX6_wordIn 49 = .ok (.iload 4, 2) := by decide +kernel
theorem dX6_wordIn_51 : decode cX6_wordIn 51 = .ok (.invokevirtual 134, 3) := by decide +kernel
theorem dX6_wordIn_54 : decode cX6_wordIn 54 = .ok (.ifCond .eq 5, 3) := by decide +kernel
theorem dX6_wordIn_57 : decode cX6_wordIn 57 = .ok (.iload_n 2, 1) := by decide +kernel
theorem dX6_wordIn_58 : decode cX6_wordIn 58 = .ok (.ireturn, 1) := by decide +kernel
theorem dX6_wordIn_59 : decode cX6_wordIn 59 = .ok (.iinc 2 1, 3) := by decide +kernel
theorem dX6_wordIn_62 : decode cX6_wordIn 62 = .ok (.iload 4, 2) := by decide +kernel
theorem dX6_wordIn_64 : decode cX6_wordIn 64 = .ok (.iconst 1, 1) := by decide +kernel
theorem dX6_wordIn_65 : decode cX6_wordIn 65 = .ok (.iadd, 1) := by decide +kernel
theorem dX6_wordIn_66 : decode cX6_wordIn 66 = .ok (.istore_n 3, 1) := by decide +kernel
theorem dX6_wordIn_67 : decode cX6_wordIn 67 = .ok (.iinc 4 1, 3) := by decide +kernel
theorem dX6_wordIn_70 : decode cX6_wordIn 70 = .ok (.goto (-53), 3) := by decide +kernel
theorem dX6_wordIn_73 : decode cX6_wordIn 73 = .ok (.iconst (-1), 1) := by decide +kernel
theorem dX6_wordIn_74 : decode cX6_wordIn 74 = .ok (.ireturn, 1) := by decide +kernel
set_option maxRecDepth 20000 in
theorem ggX6_isToken_J0_length_8abf5 : GoodIn wsX6_isToken wsJ0_length_8abf5 := (goodIn_ca (goodIn_r _ [8, 9, 10, 11, 12, 7, 13, 14, 15] rfl (by decide +kernel)) (goodIn_sub (fun _ h => List.mem_cons_of_mem _ (List.mem_append_left _ (List.mem_append_left _ (List.mem_append_right _ h)))) gw_wsJ00))
set_option maxRecDepth 20000 in
theorem gX6_isToken_J0_length_8abf5 : GoodIn wsX6_isToken (wsV RX6 124 RJ0 yJ0_length_8abf5 wsJ0_length_8abf5) := goodIn_app (goodIn_m (mem_cA (List.mem_cons_of_mem _ (List.mem_append_left _ (List.mem_append_left _ (List.mem_append_left _ (List.mem_append_left _ (List.mem_append_left _ (List.mem_of_getElem? (i := 3) rfl))))))) (mem_cA (List.mem_cons_of_mem _ (List.mem_append_left _ (List.mem_append_left _ (List.mem_append_left _ (List.mem_append_left _ (List.mem_append_left _ (List.mem_of_getElem? (i := 4) rfl))))))) (mem_cA (List.mem_cons_of_mem _ (List.mem_append_left _ (List.mem_append_left _ (List.mem_append_left _ (List.mem_append_left _ (List.mem_append_left _ (List.mem_of_getElem? (i := 5) rfl))))))) (mem_cA (List.mem_cons_of_mem _ (List.mem_append_left _ (List.mem_append_left _ (List.mem_append_left _ (List.mem_append_left _ (List.mem_append_left _ (List.mem_of_getElem? (i := 6) rfl))))))) mem_cZ)))) (by decide +kernel)) ggX6_isToken_J0_length_8abf5
set_option maxRecDepth 20000 in
theorem ggX6_isToken_J0_charAt_5068e : GoodIn wsX6_isToken wsJ0_charAt_5068e := (goodIn_ca (goodIn_r _ [19, 9, 20, 21, 22, 7, 23, 14, 15, 24, 25, 26, 27, 28, 29, 30, 31, 32, 33, 34, 35, 36, 37, 38, 39, 40, 41, 42, 43, 44, 45, 46, 47, 48, 49, 50, 51, 52] rfl (by decide +kernel)) (goodIn_sub (fun _ h => List.mem_cons_of_mem _ (List.mem_append_left _ (List.mem_append_left _ (List.mem_append_right _ h)))) gw_wsJ00))
set_option maxRecDepth 20000 in
theorem gX6_isToken_J0_charAt_5068e : GoodIn wsX6_isToken (wsV RX6 130 RJ0 yJ0_charAt_5068e wsJ0_charAt_5068e) := goodIn_app (goodIn_m (mem_cA (List.mem_cons_of_mem _ (List.mem_append_left _ (List.mem_append_left _ (List.mem_append_left _ (List.mem_append_left _ (List.mem_append_left _ (List.mem_of_getElem? (i := 15) rfl))))))) (mem_cA (List.mem_cons_of_mem _ (List.mem_append_left _ (List.mem_append_left _ (List.mem_append_left _ (List.mem_append_left _ (List.mem_append_left _ (List.mem_of_getElem? (i := 16) rfl))))))) (mem_cA (List.mem_cons_of_mem _ (List.mem_append_left _ (List.mem_append_left _ (List.mem_append_left _ (List.mem_append_left _ (List.mem_append_left _ (List.mem_of_getElem? (i := 17) rfl))))))) (mem_cA (List.mem_cons_of_mem _ (List.mem_append_left _ (List.mem_append_left _ (List.mem_append_left _ (List.mem_append_left _ (List.mem_append_left _ (List.mem_of_getElem? (i := 6) rfl))))))) mem_cZ)))) (by decide +kernel)) ggX6_isToken_J0_charAt_5068e
set_option maxRecDepth 20000 in
theorem ggX6_isToken_X5_byteAt : GoodIn wsX6_isToken wsX5_byteAt := goodIn_ca ((goodIn_ca (goodIn_r _ [57, 58, 59] rfl (by decide +kernel)) (goodIn_sub (fun _ h => List.mem_cons_of_mem _ (List.mem_append_left _ (List.mem_append_right _ h))) gw_wsX50))) (goodIn_sub (fun _ h => List.mem_cons_of_mem _ (List.mem_append_right _ h)) (all_fg _))
set_option maxRecDepth 20000 in
theorem gX6_isToken_X5_byteAt : GoodIn wsX6_isToken (wsV RX6 118 RX5 yX5_byteAt wsX5_byteAt) := goodIn_app (goodIn_m (mem_cA (List.mem_cons_of_mem _ (List.mem_append_left _ (List.mem_append_left _ (List.mem_append_left _ (List.mem_append_left _ (List.mem_append_right _ (List.mem_append_right _ (List.mem_of_getElem? (i := 4) rfl)))))))) (mem_cA (List.mem_cons_of_mem _ (List.mem_append_left _ (List.mem_append_left _ (List.mem_append_left _ (List.mem_append_left _ (List.mem_append_right _ (List.mem_append_right _ (List.mem_of_getElem? (i := 5) rfl)))))))) (mem_cA (List.mem_cons_of_mem _ (List.mem_append_left _ (List.mem_append_left _ (List.mem_append_left _ (List.mem_append_left _ (List.mem_append_right _ (List.mem_append_right _ (List.mem_of_getElem? (i := 6) rfl)))))))) (mem_cA (List.mem_cons_of_mem _ (List.mem_append_left _ (List.mem_append_left _ (List.mem_append_left _ (List.mem_append_left _ (List.mem_append_right _ (List.mem_append_right _ (List.mem_of_getElem? (i := 7) rfl)))))))) mem_cZ)))) (by decide +kernel)) ggX6_isToken_X5_byteAt
theorem dX6_isToken_0 : decode cX6_isToken 0 = .ok (.iload_n 3, 1) := by decide +kernel
theorem dX6_isToken_1 : decode cX6_isToken 1 = .ok (.iload_n 2, 1) := by decide +kernel
theorem dX6_isToken_2 : decode cX6_isToken 2 = .ok (.isub, 1) := by decide +kernel
theorem dX6_isToken_3 : decode cX6_isToken 3 = .ok (.aload_n 0, 1) := by decide +kernel
theorem dX6_isToken_4 : decode cX6_isToken 4 = .ok (.getfield 25, 3) := by decide +kernel
theorem dX6_isToken_7 : decode cX6_isToken 7 = .ok (.aload_n 0, 1) := by decide +kernel
theorem dX6_isToken_8 : decode cX6_isToken 8 = .ok (.getfield 31, 3) := by decide +kernel
theorem dX6_isToken_11 : decode cX6_isToken 11 = .ok (.isub, 1) := by decide +kernel
theorem dX6_isToken_12 : decode cX6_isToken 12 = .ok (.if_icmp .eq 5, 3) := by decide +kernel
theorem dX6_isToken_15 : decode cX6_isToken 15 = .ok (.iconst 0, 1) := by decide +kernel
theorem dX6_isToken_16 : decode cX6_isToken 16 = .ok (.ireturn, 1) := by decide +kernel
theorem dX6_isToken_17 : decode cX6_isToken 17 = .ok (.iload_n 2, 1) := by decide +kernel
theorem dX6_isToken_18 : decode cX6_isToken 18 = .ok (.istore 4, 2) := by decide +kernel
theorem dX6_isToken_20 : decode cX6_isToken 20 = .ok (.iload 4, 2) := by decide +kernel
theorem dX6_isToken_22 : decode cX6_isToken 22 = .ok (.iload_n 3, 1) := by decide +kernel
theorem dX6_isToken_23 : decode cX6_isToken 23 = .ok (.if_icmp .ge 45, 3) := by decide +kernel
theorem dX6_isToken_26 : decode cX6_isToken 26 = .ok (.iload 4, 2) := by decide +kernel
theorem dX6_isToken_28 : decode cX6_isToken 28 = .ok (.aload_n 1, 1) := by decide +kernel
theorem dX6_isToken_29 : decode cX6_isToken 29 = .ok (.invokevirtual 124, 3) := by decide +kernel
theorem dX6_isToken_32 : decode cX6_isToken 32 = .ok (.if_icmp .ge 36, 3) := by decide +kernel
theorem dX6_isToken_35 : decode cX6_isToken 35 = .ok (.aload_n 1, 1) := by decide +kernel
theorem dX6_isToken_36 : decode cX6_isToken 36 = .ok (.iload 4, 2) := by decide +kernel
theorem dX6_isToken_38 : decode cX6_isToken 38 = .ok (.invokevirtual 130, 3) := by decide +kernel
theorem dX6_isToken_41 : decode cX6_isToken 41 = .ok (.aload_n 0, 1) := by decide +kernel
theorem dX6_isToken_42 : decode cX6_isToken 42 = .ok (.getfield 37, 3) := by decide +kernel
theorem dX6_isToken_45 : decode cX6_isToken 45 = .ok (.aload_n 0, 1) := by decide +kernel
theorem dX6_isToken_46 : decode cX6_isToken 46 = .ok (.getfield 31, 3) := by decide +kernel
theorem dX6_isToken_49 : decode cX6_isToken 49 = .ok (.iload 4, 2) := by decide +kernel
theorem dX6_isToken_51 : decode cX6_isToken 51 = .ok (.iadd, 1) := by decide +kernel
theorem dX6_isToken_52 : decode cX6_isToken 52 = .ok (.iload_n 2, 1) := by decide +kernel
theorem dX6_isToken_53 : decode cX6_isToken 53 = .ok (.isub, 1) := by decide +kernel
theorem dX6_isToken_54 : decode cX6_isToken 54 = .ok (.invokevirtual 118, 3) := by decide +kernel
theorem dX6_isToken_57 : decode cX6_isToken 57 = .ok (.if_icmp .eq 5, 3) := by decide +kernel
theorem dX6_isToken_60 : decode cX6_isToken 60 = .ok (.iconst 0, 1) := by decide +kernel
theorem dX6_isToken_61 : decode cX6_isToken 61 = .ok (.ireturn, 1) := by decide +kernel
theorem dX6_isToken_62 : decode cX6_isToken 62 = .ok (.iinc 4 1, 3) := by decide +kernel
theorem dX6_isToken_65 : decode cX6_isToken 65 = .ok (.goto (-45), 3) := by decide +kernel
theorem dX6_isToken_68 : decode cX6_isToken 68 = .ok (.iconst 1, 1) := by decide +kernel
theorem dX6_isToken_69 : decode cX6_isToken 69 = .ok (.ireturn, 1) := by decide +kernel
theorem nv_stepj {f : Nat → Int32} {n s e j : Nat} (hd : ∀ i, i < e - s → kO (bA f n (s + i)) = 3) (hl : e - s ≤ 6) (h1 : s ≤ j) (h2 : j < e) : 10 * nI (nv (bA f n) s (j - s)) + bA f n j - 48 = nI (nv (bA f n) s (j + 1 - s)) := by
  have h3 := nv_lt (bA f n) s (j - s) (fun i hi => hd i (by omega))
  have h4 : 10 ^ (j - s) ≤ 10 ^ 6 := Nat.pow_le_pow_right (by decide) (by omega)
  have h5 := nv_step (f := f) (n := n) (s := s) (m := j - s) (hd (j - s) (by omega)) (by omega)
  rw [show s + (j - s) = j by omega, show j - s + 1 = j + 1 - s by omega] at h5
  exact h5
theorem nv_big {f : Nat → Int32} {n s e : Nat} (hd : ∀ i, i < e - s → kO (bA f n (s + i)) = 3) (hl : e - s ≤ 6) {j : Nat} (hj : j ≤ e) : nv (bA f n) s (j - s) < 1000000 := by
  have h3 := nv_lt (bA f n) s (j - s) (fun i hi => hd i (by omega))
  have h4 : 10 ^ (j - s) ≤ 10 ^ 6 := Nat.pow_le_pow_right (by decide) (by omega)
  omega
theorem ge_toInt {w : Nat} {a : Int32} (hw : w < 1000000) (h : ¬ nI w < a) : a.toInt ≤ (w : Int) := by
  rw [Int32.lt_iff_toInt_lt, nI_toInt (by omega)] at h
  omega
theorem lt_toInt {w : Nat} {a : Int32} (hw : w < 1000000) (h : nI w < a) : (w : Int) < a.toInt := by
  rw [Int32.lt_iff_toInt_lt, nI_toInt (by omega)] at h
  omega
theorem le_toInt {w : Nat} {b : Int32} (hw : w < 1000000) (h : nI w ≤ b) : (w : Int) ≤ b.toInt := by
  rw [Int32.le_iff_toInt_le, nI_toInt (by omega)] at h
  exact h
theorem gt_toInt {w : Nat} {b : Int32} (hw : w < 1000000) (h : ¬ nI w ≤ b) : b.toInt < (w : Int) := by
  rw [Int32.le_iff_toInt_le, nI_toInt (by omega)] at h
  omega
theorem nv_00 {b : Nat → Int32} {s : Nat} : 0 = nv b s (s - s) := by
  rw [Nat.sub_self]
  rfl

theorem hu_X6_readNumber_X6 : ∀ w ∈ u_ws RX6 TX6 8, w ∈ wsX6_readNumber := fun _ h => List.mem_cons_of_mem _ (List.mem_append_left _ (List.mem_append_left _ (List.mem_append_right _ (h))))

theorem hv_X6_readNumber_28 : Cond.fieldLink RX6 28 "FlowExporter$Parser" (TX6 5).2.1 (TX6 5).2.2.1 ∈ wsX6_readNumber := List.mem_cons_of_mem _ (List.mem_append_left _ (List.mem_append_left _ (List.mem_append_left _ (List.mem_append_left _ (List.mem_of_getElem? (i := 0) rfl)))))

theorem hv_X6_readNumber_34 : Cond.fieldLink RX6 34 "FlowExporter$Parser" (TX6 7).2.1 (TX6 7).2.2.1 ∈ wsX6_readNumber := List.mem_cons_of_mem _ (List.mem_append_left _ (List.mem_append_left _ (List.mem_append_left _ (List.mem_append_left _ (List.mem_of_getElem? (i := 1) rfl)))))

theorem hv_X6_readNumber_31 : Cond.fieldLink RX6 31 "FlowExporter$Parser" (TX6 6).2.1 (TX6 6).2.2.1 ∈ wsX6_readNumber := List.mem_cons_of_mem _ (List.mem_append_left _ (List.mem_append_left _ (List.mem_append_left _ (List.mem_append_left _ (List.mem_of_getElem? (i := 2) rfl)))))

theorem hv_X6_readNumber_25 : Cond.fieldLink RX6 25 "FlowExporter$Parser" (TX6 4).2.1 (TX6 4).2.2.1 ∈ wsX6_readNumber := List.mem_cons_of_mem _ (List.mem_append_left _ (List.mem_append_left _ (List.mem_append_left _ (List.mem_append_left _ (List.mem_of_getElem? (i := 3) rfl)))))

theorem hv_X6_readNumber_37 : Cond.fieldLink RX6 37 "FlowExporter$Parser" (TX6 3).2.1 (TX6 3).2.2.1 ∈ wsX6_readNumber := List.mem_cons_of_mem _ (List.mem_append_left _ (List.mem_append_left _ (List.mem_append_left _ (List.mem_append_left _ (List.mem_of_getElem? (i := 4) rfl)))))

set_option maxHeartbeats 4000000 in
set_option maxRecDepth 100000 in
theorem s_X6_readNumber (G : EnvG) (l : Launch) (Φ : Hm) (sz x ca : Nat) (n : Nat) (f : Nat → Int32) (co : Int32) (po : Int32) (nx : Nat) (ki : Nat) (sa : Nat) (nu : Nat) (a : Int32) (b : Int32) (hx : G.2.2.2 ≤ x) (hI : In G x ca Φ) (hc0 : Φ (x + 1) = some (o_ 7 [.ref (x + 2), .int (nI n)])) (hc1 : Φ (x + 2) = some (ab_ G 700 f)) (hc2 : Φ (x + 24) = some (o_ 8 [.ref (x + 25), .int co, .int po, .ref (x + 1), .int (nI nx), .int (nI ki), .int (nI sa), .int (nI nu)])) (hn : n ≤ 700) (hnx : nx ≤ n) : Ct G l yX6_readNumber wsX6_readNumber ({ frames := 2, cells := 0, slots := 0, locals := 42 }) 0 0 [.ref (x + 24), .int a, .int b] Φ sz (fun v Φ1 sz1 => ((∃ s8 e8 w8 : Nat, v = some (.int 1) ∧ numAt (bA f n) nx a.toInt b.toInt = (0, e8, w8) ∧ Φ1 (x + 24) = some (o_ 8 [.ref (x + 25), .int co, .int po, .ref (x + 1), .int (nI e8), .int (nI 3), .int (nI s8), .int (nI w8)]) ∧ nx < e8 ∧ s8 ≤ e8 ∧ e8 ≤ n ∧ w8 < 1000000) ∨ (∃ er8 s8 e8 k8 u8 : Nat, v = some (.int 0) ∧ numAt (bA f n) nx a.toInt b.toInt = (er8, s8, 0) ∧ ¬ er8 = 0 ∧ Φ1 (x + 24) = some (o_ 8 [.ref (x + 25), .int (nI er8), .int (nI s8), .ref (x + 1), .int (nI e8), .int (nI k8), .int (nI s8), .int (nI u8)]))) ∧ sz1 = sz ∧ In G x (ca) Φ1 ∧ Fr x (fun j9 => j9 = 24) Φ Φ1) := by
  refine Ct.of (cc := cX6_readNumber) (maxL := 4) (ret := (some .boolean)) (by decide) rfl (Nat.le_of_ble_eq_true rfl) ?_
  intro p9 e9 s9 m9 w9 t9 k9 B
  show Z p9 l e9 _ s9 m9 _ w9 t9 k9 _ G 4 0 [(0, .ref (x + 24)), (1, .int a), (2, .int b)] [] Φ sz 0 0
  refine z_aload_n B dX6_readNumber_0 rfl 0 rfl ?_
  refine z_callV (As := []) (rest := []) B (s_X6_nextToken G l Φ sz x (ca) n f co po nx ki sa nu hx hI hc0 hc1 hc2 (show n ≤ 700 by omega) (show nx ≤ n by omega)) (cwV 0 B.1.2.2.2.2 gX6_readNumber_X6_nextToken rfl rfl rfl (by decide +kernel) ⟨Nat.le_of_ble_eq_true rfl, Nat.le_of_ble_eq_true rfl⟩) hc2 rfl rfl rfl rfl (Nat.le_of_ble_eq_true rfl) dX6_readNumber_1 ⟨Nat.le_of_ble_eq_true rfl, Nat.le_of_ble_eq_true rfl⟩ (fun r_1 Φ1 sz1 st1 hp1 hs1 => ?_)
  obtain ⟨⟨rfl, k_1, s_1, e_1, h_1, hT1⟩, hq1, hI1, hF1⟩ := hp1
  subst sz1
  replace hs1 : st1 = [] := hs1
  subst st1
  replace hI1 : In G x (ca) Φ1 := hI1
  replace hT1 : Tk (bA f n) nx k_1 s_1 e_1 := hT1
  have b_1 : nx ≤ s_1 := (Tk_ok hT1 (by omega)).1
  have b_2 : s_1 ≤ e_1 := (Tk_ok hT1 (by omega)).2.1
  have b_3 : e_1 ≤ n := (Tk_ok hT1 (by omega)).2.2.1
  have b_4 : k_1 ≤ 5 := (Tk_ok hT1 (by omega)).2.2.2.1
  refine z_aload_n B dX6_readNumber_4 rfl 0 rfl ?_
  refine z_get (ref := "FlowExporter$Parser") (C := RX6) (T := TX6) (N := 8) (ci := 8) (v := .int (nI k_1)) B hu_X6_readNumber_X6 rfl 5 (Nat.le_of_ble_eq_true rfl) hv_X6_readNumber_28 rfl h_1 rfl dX6_readNumber_5 ?_
  refine z_iconst (v := 3) B dX6_readNumber_8 rfl ?_
  refine z_icmp_eq (tgt := 18) B dX6_readNumber_9 rfl (fun c_1 => ?_) (fun c_1 => ?_)
  · have e_2 : k_1 = 3 := (nI_eq (a := k_1) (b := 3) (by omega) (by omega)).mp c_1
    have e_3 : k_1 = 3 := by omega
    obtain ⟨b_5, b_6, hd1⟩ := (Tk_ok hT1 (by omega)).2.2.2.2.1 e_3
    have hT2 := e_3 ▸ hT1
    refine z_aload_n B dX6_readNumber_18 rfl 0 rfl ?_
    refine z_iconst (v := 0) B dX6_readNumber_19 rfl ?_
    refine z_put (ref := "FlowExporter$Parser") (C := RX6) (T := TX6) (N := 8) (ci := 8) (v := .int 0) B hu_X6_readNumber_X6 tyX6 tyX6_ok nmX6 rfl 7 (Nat.le_of_ble_eq_true rfl) hv_X6_readNumber_34 rfl (Or.inl rfl) h_1 (Nat.le_trans hx (Nat.le_add_right x 24)) rfl rfl (Nat.le_of_ble_eq_true rfl) dX6_readNumber_20 (fun Φ2 hΦ1 => ?_)
    have h_2 : Φ2 (x + 24) = some (o_ 8 [.ref (x + 25), .int co, .int po, .ref (x + 1), .int (nI e_1), .int (nI k_1), .int (nI s_1), .int 0]) := fset_at hΦ1
    have hI2 : In G x (ca) Φ2 := In.put (k := 24) hI1 hΦ1 (ok10 (k := 24) rfl ⟨co, po, nI e_1, nI k_1, nI s_1, 0, rfl⟩)
    refine z_aload_n B dX6_readNumber_23 rfl 0 rfl ?_
    refine z_get (ref := "FlowExporter$Parser") (C := RX6) (T := TX6) (N := 8) (ci := 8) (v := .int (nI s_1)) B hu_X6_readNumber_X6 rfl 6 (Nat.le_of_ble_eq_true rfl) hv_X6_readNumber_31 rfl h_2 rfl dX6_readNumber_24 ?_
    refine z_istore_n (lv' := [(3, .int (nI s_1)), (0, .ref (x + 24)), (1, .int a), (2, .int b)]) B dX6_readNumber_27 rfl (Nat.le_of_ble_eq_true rfl) rfl ?_
    refine z_lv [0, 1, 2, 3] rfl ?_
    refine z_loop (α := Nat) (fun (a9 : Nat) Φi => In G x (ca) Φi ∧ Fr x (fun j9 => j9 = 24) Φ2 Φi ∧ (s_1 ≤ a9) ∧ (a9 ≤ e_1) ∧ (Φi (x + 24) = some (o_ 8 [.ref (x + 25), .int co, .int po, .ref (x + 1), .int (nI e_1), .int (nI k_1), .int (nI s_1), .int (nI (nv (bA f n) s_1 (a9 - s_1)))])) ∧ True) (fun a9 => [(3, .int (nI a9)), (0, .ref (x + 24)), (1, .int a), (2, .int b)]) (fun a9 => e_1 - a9) ?_ (s_1) ⟨hI2, fun _ _ => rfl, (show s_1 ≤ s_1 by omega), (show s_1 ≤ e_1 by omega), (h_2.trans (congrArg (fun w9 : Nat => some (o_ 8 [.ref (x + 25), .int co, .int po, .ref (x + 1), .int (nI e_1), .int (nI k_1), .int (nI s_1), .int (nI w9)])) (show 0 = nv (bA f n) s_1 (s_1 - s_1) from nv_00))), trivial⟩
    rintro i_1 Φl1 ⟨hI3, hF2, b_7, b_8, b_9, -⟩ ih1
    replace hI3 : In G x (ca) Φl1 := hI3
    replace b_7 : s_1 ≤ i_1 := b_7
    replace b_8 : i_1 ≤ e_1 := b_8
    replace b_9 : Φl1 (x + 24) = some (o_ 8 [.ref (x + 25), .int co, .int po, .ref (x + 1), .int (nI e_1), .int (nI k_1), .int (nI s_1), .int (nI (nv (bA f n) s_1 (i_1 - s_1)))]) := b_9
    show Z p9 l e9 _ s9 m9 _ w9 t9 k9 _ G 4 28 [(3, .int (nI i_1)), (0, .ref (x + 24)), (1, .int a), (2, .int b)] [] Φl1 _ _ _
    refine z_iload_n B dX6_readNumber_28 rfl 0 rfl ?_
    refine z_aload_n B dX6_readNumber_29 rfl 1 rfl ?_
    refine z_get (ref := "FlowExporter$Parser") (C := RX6) (T := TX6) (N := 8) (ci := 8) (v := .int (nI e_1)) B hu_X6_readNumber_X6 rfl 4 (Nat.le_of_ble_eq_true rfl) hv_X6_readNumber_25 rfl b_9 rfl dX6_readNumber_30 ?_
    refine z_icmp_ge (tgt := 65) B dX6_readNumber_33 rfl (fun c_2 => ?_) (fun c_2 => ?_)
    · have e_4 : e_1 ≤ i_1 := (nI_leI (a := e_1) (b := i_1) (by omega) (by omega)).mp c_2
      obtain rfl : e_1 = i_1 := by omega
      refine z_aload_n B dX6_readNumber_65 rfl 1 rfl ?_
      refine z_get (ref := "FlowExporter$Parser") (C := RX6) (T := TX6) (N := 8) (ci := 8) (v := .int (nI (nv (bA f n) s_1 (e_1 - s_1)))) B hu_X6_readNumber_X6 rfl 7 (Nat.le_of_ble_eq_true rfl) hv_X6_readNumber_34 rfl b_9 rfl dX6_readNumber_66 ?_
      refine z_iload_n B dX6_readNumber_69 rfl 2 rfl ?_
      refine z_icmp_lt (tgt := 81) B dX6_readNumber_70 rfl (fun c_3 => ?_) (fun c_3 => ?_)
      · refine z_aload_n B dX6_readNumber_81 rfl 1 rfl ?_
        refine z_iconst (v := 2) B dX6_readNumber_82 rfl ?_
        refine z_callV (As := [.int 2]) (rest := []) B (s_X6_fail G l Φl1 sz x (ca) co po e_1 k_1 s_1 (nv (bA f n) s_1 (e_1 - s_1)) 2 hx hI3 b_9) (cwV 1 B.1.2.2.2.2 gX6_readNumber_X6_fail rfl rfl rfl (by decide +kernel) ⟨Nat.le_of_ble_eq_true rfl, Nat.le_of_ble_eq_true rfl⟩) b_9 rfl rfl rfl rfl (Nat.le_of_ble_eq_true rfl) dX6_readNumber_83 ⟨Nat.le_of_ble_eq_true rfl, Nat.le_of_ble_eq_true rfl⟩ (fun r_2 Φ3 sz2 st2 hp2 hs2 => ?_)
        obtain ⟨⟨rfl, h_3⟩, hq2, hI4, hF3⟩ := hp2
        subst sz2
        replace hs2 : st2 = [.int 0] := hs2
        subst st2
        replace hI4 : In G x (ca) Φ3 := hI4
        refine z_if_eq (tgt := 93) B dX6_readNumber_86 rfl (fun c_4 => ?_) (fun h9 => absurd (by decide) h9)
        refine z_iconst (v := 0) B dX6_readNumber_93 rfl ?_
        have hw9 := nv_big hd1 (by omega) (Nat.le_refl e_1)
        exact z_ret_z B dX6_readNumber_94 (by decide) ⟨(Or.inr ⟨2, s_1, e_1, k_1, nv (bA f n) s_1 (e_1 - s_1), rfl, numAt_2 hT2 (fun h9 => absurd h9.1 (Int.not_le.mpr (lt_toInt hw9 c_3))), by decide, h_3⟩), rfl, hI4, (fun b9 h9 => ((hF3 b9 h9).trans ((hF2 b9 h9).trans ((fset_fr hΦ1 (fun h8 => h9 (24) h8 (show 24 = 24 by decide))).trans ((hF1 b9 h9).trans rfl)))))⟩
      · refine z_aload_n B dX6_readNumber_73 rfl 1 rfl ?_
        refine z_get (ref := "FlowExporter$Parser") (C := RX6) (T := TX6) (N := 8) (ci := 8) (v := .int (nI (nv (bA f n) s_1 (e_1 - s_1)))) B hu_X6_readNumber_X6 rfl 7 (Nat.le_of_ble_eq_true rfl) hv_X6_readNumber_34 rfl b_9 rfl dX6_readNumber_74 ?_
        refine z_iload_n B dX6_readNumber_77 rfl 3 rfl ?_
        refine z_icmp_le (tgt := 89) B dX6_readNumber_78 rfl (fun c_5 => ?_) (fun c_5 => ?_)
        · refine z_iconst (v := 1) B dX6_readNumber_89 rfl ?_
          refine z_goto (tgt := 94) B dX6_readNumber_90 rfl ?_
          have hw9 := nv_big hd1 (by omega) (Nat.le_refl e_1)
          exact z_ret_z B dX6_readNumber_94 (by decide) ⟨(Or.inl ⟨s_1, e_1, nv (bA f n) s_1 (e_1 - s_1), rfl, numAt_0 hT2 (ge_toInt hw9 c_3) (le_toInt hw9 c_5), (b_9.trans (congrArg (fun w9 : Nat => some (o_ 8 [.ref (x + 25), .int co, .int po, .ref (x + 1), .int (nI e_1), .int (nI w9), .int (nI s_1), .int (nI (nv (bA f n) s_1 (e_1 - s_1)))])) (show k_1 = 3 by omega))), by omega, by omega, by omega, hw9⟩), rfl, hI3, (fun b9 h9 => ((hF2 b9 h9).trans ((fset_fr hΦ1 (fun h8 => h9 (24) h8 (show 24 = 24 by decide))).trans ((hF1 b9 h9).trans rfl))))⟩
        · refine z_aload_n B dX6_readNumber_81 rfl 1 rfl ?_
          refine z_iconst (v := 2) B dX6_readNumber_82 rfl ?_
          refine z_callV (As := [.int 2]) (rest := []) B (s_X6_fail G l Φl1 sz x (ca) co po e_1 k_1 s_1 (nv (bA f n) s_1 (e_1 - s_1)) 2 hx hI3 b_9) (cwV 1 B.1.2.2.2.2 gX6_readNumber_X6_fail rfl rfl rfl (by decide +kernel) ⟨Nat.le_of_ble_eq_true rfl, Nat.le_of_ble_eq_true rfl⟩) b_9 rfl rfl rfl rfl (Nat.le_of_ble_eq_true rfl) dX6_readNumber_83 ⟨Nat.le_of_ble_eq_true rfl, Nat.le_of_ble_eq_true rfl⟩ (fun r_3 Φ4 sz3 st3 hp3 hs3 => ?_)
          obtain ⟨⟨rfl, h_4⟩, hq3, hI5, hF4⟩ := hp3
          subst sz3
          replace hs3 : st3 = [.int 0] := hs3
          subst st3
          replace hI5 : In G x (ca) Φ4 := hI5
          refine z_if_eq (tgt := 93) B dX6_readNumber_86 rfl (fun c_6 => ?_) (fun h9 => absurd (by decide) h9)
          refine z_iconst (v := 0) B dX6_readNumber_93 rfl ?_
          have hw9 := nv_big hd1 (by omega) (Nat.le_refl e_1)
          exact z_ret_z B dX6_readNumber_94 (by decide) ⟨(Or.inr ⟨2, s_1, e_1, k_1, nv (bA f n) s_1 (e_1 - s_1), rfl, numAt_2 hT2 (fun h9 => absurd h9.2 (Int.not_le.mpr (gt_toInt hw9 c_5))), by decide, h_4⟩), rfl, hI5, (fun b9 h9 => ((hF4 b9 h9).trans ((hF2 b9 h9).trans ((fset_fr hΦ1 (fun h8 => h9 (24) h8 (show 24 = 24 by decide))).trans ((hF1 b9 h9).trans rfl)))))⟩
    · have e_5 : ¬ (e_1 ≤ i_1) := fun h9 => c_2 ((nI_leI (a := e_1) (b := i_1) (by omega) (by omega)).mpr h9)
      refine z_aload_n B dX6_readNumber_36 rfl 1 rfl ?_
      refine z_bipush (v := 10) B dX6_readNumber_37 rfl ?_
      refine z_aload_n B dX6_readNumber_39 rfl 1 rfl ?_
      refine z_get (ref := "FlowExporter$Parser") (C := RX6) (T := TX6) (N := 8) (ci := 8) (v := .int (nI (nv (bA f n) s_1 (i_1 - s_1)))) B hu_X6_readNumber_X6 rfl 7 (Nat.le_of_ble_eq_true rfl) hv_X6_readNumber_34 rfl b_9 rfl dX6_readNumber_40 ?_
      refine z_imul B dX6_readNumber_43 ?_
      refine z_aload_n B dX6_readNumber_44 rfl 1 rfl ?_
      refine z_get (ref := "FlowExporter$Parser") (C := RX6) (T := TX6) (N := 8) (ci := 8) (v := .ref (x + 1)) B hu_X6_readNumber_X6 rfl 3 (Nat.le_of_ble_eq_true rfl) hv_X6_readNumber_37 rfl b_9 rfl dX6_readNumber_45 ?_
      refine z_iload_n B dX6_readNumber_48 rfl 0 rfl ?_
      have h_5 : Φl1 (x + 1) = some (o_ 7 [.ref (x + 2), .int (nI n)]) := ((hF2 (x + 1) fq_545).trans ((fset_fr hΦ1 (ne_off (x := x) (i := 1) (j := 24) rfl)).trans ((hF1 (x + 1) fq_545).trans hc0)))
      have h_6 : Φl1 (x + 2) = some (ab_ G 700 f) := ((hF2 (x + 2) fq_549).trans ((fset_fr hΦ1 (ne_off (x := x) (i := 2) (j := 24) rfl)).trans ((hF1 (x + 2) fq_549).trans hc1)))
      refine z_callV (As := [.int (nI i_1)]) (rest := [.int (10 * (nI (nv (bA f n) s_1 (i_1 - s_1)))), .ref (x + 24)]) B (s_X5_byteAt1 G l Φl1 sz x (ca) n f i_1 hx hI3 h_5 h_6 (show i_1 < 2 ^ 31 by omega) (show n ≤ 700 by omega)) (cwV 1 B.1.2.2.2.2 gX6_readNumber_X5_byteAt rfl rfl rfl (by decide +kernel) ⟨Nat.le_of_ble_eq_true rfl, Nat.le_of_ble_eq_true rfl⟩) h_5 rfl rfl rfl rfl (Nat.le_of_ble_eq_true rfl) dX6_readNumber_49 ⟨Nat.le_of_ble_eq_true rfl, Nat.le_of_ble_eq_true rfl⟩ (fun r_4 Φ5 sz4 st4 hp4 hs4 => ?_)
      obtain ⟨rfl, hq4, hI6, hF5⟩ := hp4
      subst sz4
      replace hs4 : st4 = [.int (bA f n i_1), .int (10 * (nI (nv (bA f n) s_1 (i_1 - s_1)))), .ref (x + 24)] := hs4
      subst st4
      replace hI6 : In G x (ca) Φ5 := hI6
      refine z_iadd B dX6_readNumber_52 ?_
      refine z_bipush (v := 48) B dX6_readNumber_53 rfl ?_
      refine z_isub B dX6_readNumber_55 ?_
      refine z_top (st1 := [.int (nI (nv (bA f n) s_1 (i_1 + 1 - s_1))), .ref (x + 24)]) (congrArg (fun w9 : Int32 => ([.int w9, .ref (x + 24)] : List Value)) (nv_stepj hd1 (by omega) (by omega) (by omega))) ?_
      have h_7 : Φ5 (x + 24) = some (o_ 8 [.ref (x + 25), .int co, .int po, .ref (x + 1), .int (nI e_1), .int (nI k_1), .int (nI s_1), .int (nI (nv (bA f n) s_1 (i_1 - s_1)))]) := ((hF5 (x + 24) (fun j9 h8 h7 => (show False from h7).elim)).trans b_9)
      refine z_put (ref := "FlowExporter$Parser") (C := RX6) (T := TX6) (N := 8) (ci := 8) (v := .int (nI (nv (bA f n) s_1 (i_1 + 1 - s_1)))) B hu_X6_readNumber_X6 tyX6 tyX6_ok nmX6 rfl 7 (Nat.le_of_ble_eq_true rfl) hv_X6_readNumber_34 rfl (Or.inl rfl) h_7 (Nat.le_trans hx (Nat.le_add_right x 24)) rfl rfl (Nat.le_of_ble_eq_true rfl) dX6_readNumber_56 (fun Φ6 hΦ2 => ?_)
      have h_8 : Φ6 (x + 24) = some (o_ 8 [.ref (x + 25), .int co, .int po, .ref (x + 1), .int (nI e_1), .int (nI k_1), .int (nI s_1), .int (nI (nv (bA f n) s_1 (i_1 + 1 - s_1)))]) := fset_at hΦ2
      have hI7 : In G x (ca) Φ6 := In.put (k := 24) hI6 hΦ2 (ok10 (k := 24) rfl ⟨co, po, nI e_1, nI k_1, nI s_1, nI (nv (bA f n) s_1 (i_1 + 1 - s_1)), rfl⟩)
      refine z_iinc (k := 0) (v := nI (i_1 + 1)) (lv' := [(3, .int (nI (i_1 + 1))), (0, .ref (x + 24)), (1, .int a), (2, .int b)]) B dX6_readNumber_59 rfl (nI_add i_1 1) (Nat.le_of_ble_eq_true rfl) rfl ?_
      refine z_goto (tgt := 28) B dX6_readNumber_62 rfl ?_
      refine z_lv [0, 1, 2, 3] rfl ?_
      exact ih1 (i_1 + 1) Φ6 (show e_1 - (i_1 + 1) < e_1 - i_1 by omega) ⟨hI7, (fun b9 h9 => ((fset_fr hΦ2 (fun h8 => h9 (24) h8 (show 24 = 24 by decide))).trans ((hF5 b9 (fun j9 h8 h7 => (show False from h7).elim)).trans ((hF2 b9 h9).trans rfl)))), (show s_1 ≤ (i_1 + 1) by omega), (show (i_1 + 1) ≤ e_1 by omega), (h_8.trans (congrArg (fun w9 : Nat => some (o_ 8 [.ref (x + 25), .int co, .int po, .ref (x + 1), .int (nI e_1), .int (nI k_1), .int (nI s_1), .int (nI w9)])) (show nv (bA f n) s_1 (i_1 + 1 - s_1) = nv (bA f n) s_1 ((i_1 + 1) - s_1) by omega))), trivial⟩
  · have e_6 : ¬ (k_1 = 3) := fun h9 => c_1 ((nI_eq (a := k_1) (b := 3) (by omega) (by omega)).mpr h9)
    refine z_aload_n B dX6_readNumber_12 rfl 0 rfl ?_
    refine z_iconst (v := 1) B dX6_readNumber_13 rfl ?_
    refine z_callV (As := [.int 1]) (rest := []) B (s_X6_fail G l Φ1 sz x (ca) co po e_1 k_1 s_1 nu 1 hx hI1 h_1) (cwV 1 B.1.2.2.2.2 gX6_readNumber_X6_fail rfl rfl rfl (by decide +kernel) ⟨Nat.le_of_ble_eq_true rfl, Nat.le_of_ble_eq_true rfl⟩) h_1 rfl rfl rfl rfl (Nat.le_of_ble_eq_true rfl) dX6_readNumber_14 ⟨Nat.le_of_ble_eq_true rfl, Nat.le_of_ble_eq_true rfl⟩ (fun r_5 Φ7 sz5 st5 hp5 hs5 => ?_)
    obtain ⟨⟨rfl, h_9⟩, hq5, hI8, hF6⟩ := hp5
    subst sz5
    replace hs5 : st5 = [.int 0] := hs5
    subst st5
    replace hI8 : In G x (ca) Φ7 := hI8
    exact z_ret_z B dX6_readNumber_17 (by decide) ⟨(Or.inr ⟨1, s_1, e_1, k_1, nu, rfl, numAt_1 hT1 (by omega), by decide, h_9⟩), rfl, hI8, (fun b9 h9 => ((hF6 b9 h9).trans ((hF1 b9 h9).trans rfl)))⟩

theorem hu_X6_readSemicolon_X6 : ∀ w ∈ u_ws RX6 TX6 8, w ∈ wsX6_readSemicolon := fun _ h => List.mem_cons_of_mem _ (List.mem_append_left _ (List.mem_append_left _ (List.mem_append_right _ (h))))

theorem hv_X6_readSemicolon_28 : Cond.fieldLink RX6 28 "FlowExporter$Parser" (TX6 5).2.1 (TX6 5).2.2.1 ∈ wsX6_readSemicolon := List.mem_cons_of_mem _ (List.mem_append_left _ (List.mem_append_left _ (List.mem_append_left _ (List.mem_append_left _ (List.mem_of_getElem? (i := 0) rfl)))))

set_option maxHeartbeats 4000000 in
set_option maxRecDepth 100000 in
theorem s_X6_readSemicolon (G : EnvG) (l : Launch) (Φ : Hm) (sz x ca : Nat) (n : Nat) (f : Nat → Int32) (co : Int32) (po : Int32) (nx : Nat) (ki : Nat) (sa : Nat) (nu : Nat) (hx : G.2.2.2 ≤ x) (hI : In G x ca Φ) (hc0 : Φ (x + 1) = some (o_ 7 [.ref (x + 2), .int (nI n)])) (hc1 : Φ (x + 2) = some (ab_ G 700 f)) (hc2 : Φ (x + 24) = some (o_ 8 [.ref (x + 25), .int co, .int po, .ref (x + 1), .int (nI nx), .int (nI ki), .int (nI sa), .int (nI nu)])) (hn : n ≤ 700) (hnx : nx ≤ n) : Ct G l yX6_readSemicolon wsX6_readSemicolon ({ frames := 2, cells := 0, slots := 0, locals := 42 }) 0 0 [.ref (x + 24)] Φ sz (fun v Φ1 sz1 => ((∃ s8 e8 : Nat, v = some (.int 1) ∧ semi (bA f n) nx = (0, e8) ∧ Φ1 (x + 24) = some (o_ 8 [.ref (x + 25), .int co, .int po, .ref (x + 1), .int (nI e8), .int (nI 4), .int (nI s8), .int (nI nu)]) ∧ nx < e8 ∧ e8 ≤ n ∧ s8 ≤ e8) ∨ (∃ s8 e8 k8 : Nat, v = some (.int 0) ∧ semi (bA f n) nx = (1, s8) ∧ Φ1 (x + 24) = some (o_ 8 [.ref (x + 25), .int 1, .int (nI s8), .ref (x + 1), .int (nI e8), .int (nI k8), .int (nI s8), .int (nI nu)]))) ∧ sz1 = sz ∧ In G x (ca) Φ1 ∧ Fr x (fun j9 => j9 = 24) Φ Φ1) := by
  refine Ct.of (cc := cX6_readSemicolon) (maxL := 1) (ret := (some .boolean)) (by decide) rfl (Nat.le_of_ble_eq_true rfl) ?_
  intro p9 e9 s9 m9 w9 t9 k9 B
  show Z p9 l e9 _ s9 m9 _ w9 t9 k9 _ G 1 0 [(0, .ref (x + 24))] [] Φ sz 0 0
  refine z_aload_n B dX6_readSemicolon_0 rfl 0 rfl ?_
  refine z_callV (As := []) (rest := []) B (s_X6_nextToken G l Φ sz x (ca) n f co po nx ki sa nu hx hI hc0 hc1 hc2 (show n ≤ 700 by omega) (show nx ≤ n by omega)) (cwV 0 B.1.2.2.2.2 gX6_readSemicolon_X6_nextToken rfl rfl rfl (by decide +kernel) ⟨Nat.le_of_ble_eq_true rfl, Nat.le_of_ble_eq_true rfl⟩) hc2 rfl rfl rfl rfl (Nat.le_of_ble_eq_true rfl) dX6_readSemicolon_1 ⟨Nat.le_of_ble_eq_true rfl, Nat.le_of_ble_eq_true rfl⟩ (fun r_1 Φ1 sz1 st1 hp1 hs1 => ?_)
  obtain ⟨⟨rfl, k_1, s_1, e_1, h_1, hT1⟩, hq1, hI1, hF1⟩ := hp1
  subst sz1
  replace hs1 : st1 = [] := hs1
  subst st1
  replace hI1 : In G x (ca) Φ1 := hI1
  replace hT1 : Tk (bA f n) nx k_1 s_1 e_1 := hT1
  have b_1 : nx ≤ s_1 := (Tk_ok hT1 (by omega)).1
  have b_2 : s_1 ≤ e_1 := (Tk_ok hT1 (by omega)).2.1
  have b_3 : e_1 ≤ n := (Tk_ok hT1 (by omega)).2.2.1
  have b_4 : k_1 ≤ 5 := (Tk_ok hT1 (by omega)).2.2.2.1
  refine z_aload_n B dX6_readSemicolon_4 rfl 0 rfl ?_
  refine z_get (ref := "FlowExporter$Parser") (C := RX6) (T := TX6) (N := 8) (ci := 8) (v := .int (nI k_1)) B hu_X6_readSemicolon_X6 rfl 5 (Nat.le_of_ble_eq_true rfl) hv_X6_readSemicolon_28 rfl h_1 rfl dX6_readSemicolon_5 ?_
  refine z_iconst (v := 4) B dX6_readSemicolon_8 rfl ?_
  refine z_icmp_eq (tgt := 20) B dX6_readSemicolon_9 rfl (fun c_1 => ?_) (fun c_1 => ?_)
  · have e_2 : k_1 = 4 := (nI_eq (a := k_1) (b := 4) (by omega) (by omega)).mp c_1
    refine z_iconst (v := 1) B dX6_readSemicolon_20 rfl ?_
    refine z_goto (tgt := 25) B dX6_readSemicolon_21 rfl ?_
    have ek9 : k_1 = 4 := by omega
    have hT9 := ek9 ▸ hT1
    have hl9 := (Tk_ok hT1 (by omega)).2.2.2.2.2.2 (by omega)
    exact z_ret_z B dX6_readSemicolon_25 (by decide) ⟨(Or.inl ⟨s_1, e_1, rfl, semi_0 hT9, (h_1.trans (congrArg (fun w9 : Nat => some (o_ 8 [.ref (x + 25), .int co, .int po, .ref (x + 1), .int (nI e_1), .int (nI w9), .int (nI s_1), .int (nI nu)])) (show k_1 = 4 by omega))), by omega, by omega, by omega⟩), rfl, hI1, (fun b9 h9 => ((hF1 b9 h9).trans rfl))⟩
  · have e_3 : ¬ (k_1 = 4) := fun h9 => c_1 ((nI_eq (a := k_1) (b := 4) (by omega) (by omega)).mpr h9)
    refine z_aload_n B dX6_readSemicolon_12 rfl 0 rfl ?_
    refine z_iconst (v := 1) B dX6_readSemicolon_13 rfl ?_
    refine z_callV (As := [.int 1]) (rest := []) B (s_X6_fail G l Φ1 sz x (ca) co po e_1 k_1 s_1 nu 1 hx hI1 h_1) (cwV 1 B.1.2.2.2.2 gX6_readSemicolon_X6_fail rfl rfl rfl (by decide +kernel) ⟨Nat.le_of_ble_eq_true rfl, Nat.le_of_ble_eq_true rfl⟩) h_1 rfl rfl rfl rfl (Nat.le_of_ble_eq_true rfl) dX6_readSemicolon_14 ⟨Nat.le_of_ble_eq_true rfl, Nat.le_of_ble_eq_true rfl⟩ (fun r_2 Φ2 sz2 st2 hp2 hs2 => ?_)
    obtain ⟨⟨rfl, h_2⟩, hq2, hI2, hF2⟩ := hp2
    subst sz2
    replace hs2 : st2 = [.int 0] := hs2
    subst st2
    replace hI2 : In G x (ca) Φ2 := hI2
    refine z_if_eq (tgt := 24) B dX6_readSemicolon_17 rfl (fun c_2 => ?_) (fun h9 => absurd (by decide) h9)
    refine z_iconst (v := 0) B dX6_readSemicolon_24 rfl ?_
    exact z_ret_z B dX6_readSemicolon_25 (by decide) ⟨(Or.inr ⟨s_1, e_1, k_1, rfl, semi_1 hT1 (by omega), h_2⟩), rfl, hI2, (fun b9 h9 => ((hF2 b9 h9).trans ((hF1 b9 h9).trans rfl)))⟩

theorem hu_X6_isToken_X6 : ∀ w ∈ u_ws RX6 TX6 8, w ∈ wsX6_isToken := fun _ h => List.mem_cons_of_mem _ (List.mem_append_left _ (List.mem_append_left _ (List.mem_append_left _ (List.mem_append_right _ (h)))))

theorem hv_X6_isToken_25 : Cond.fieldLink RX6 25 "FlowExporter$Parser" (TX6 4).2.1 (TX6 4).2.2.1 ∈ wsX6_isToken := List.mem_cons_of_mem _ (List.mem_append_left _ (List.mem_append_left _ (List.mem_append_left _ (List.mem_append_left _ (List.mem_append_left _ (List.mem_of_getElem? (i := 0) rfl))))))

theorem hv_X6_isToken_31 : Cond.fieldLink RX6 31 "FlowExporter$Parser" (TX6 6).2.1 (TX6 6).2.2.1 ∈ wsX6_isToken := List.mem_cons_of_mem _ (List.mem_append_left _ (List.mem_append_left _ (List.mem_append_left _ (List.mem_append_left _ (List.mem_append_left _ (List.mem_of_getElem? (i := 1) rfl))))))

theorem hv_X6_isToken_37 : Cond.fieldLink RX6 37 "FlowExporter$Parser" (TX6 3).2.1 (TX6 3).2.2.1 ∈ wsX6_isToken := List.mem_cons_of_mem _ (List.mem_append_left _ (List.mem_append_left _ (List.mem_append_left _ (List.mem_append_left _ (List.mem_append_left _ (List.mem_of_getElem? (i := 2) rfl))))))

set_option maxHeartbeats 4000000 in
set_option maxRecDepth 100000 in
theorem s_X6_isToken (G : EnvG) (l : Launch) (Φ : Hm) (sz x ca : Nat) (n : Nat) (f : Nat → Int32) (co : Int32) (po : Int32) (nx : Nat) (ki : Nat) (sa : Nat) (nu : Nat) (i : Nat) (a : Nat) (t : Nat) (hx : G.2.2.2 ≤ x) (hI : In G x ca Φ) (hc0 : Φ (x + 1) = some (o_ 7 [.ref (x + 2), .int (nI n)])) (hc1 : Φ (x + 2) = some (ab_ G 700 f)) (hc2 : Φ (x + 24) = some (o_ 8 [.ref (x + 25), .int co, .int po, .ref (x + 1), .int (nI nx), .int (nI ki), .int (nI sa), .int (nI nu)])) (hi : i < 2) (hat : a ≤ t) (ht : t ≤ lenS.getD i 0) (hsx : sa ≤ nx) (hxn : nx ≤ n) (hn : n ≤ 700) : Ct G l yX6_isToken wsX6_isToken ({ frames := 4, cells := 0, slots := 0, locals := 85 }) 0 0 [.ref (x + 24), .ref (G.2.2.1 (6 + i)), .int (nI a), .int (nI t)] Φ sz (fun v Φ1 sz1 => ((v = some (.int 1) ∧ t - a = nx - sa ∧ EqS (bA f n) sa i a (t - a)) ∨ (v = some (.int 0) ∧ ¬ (t - a = nx - sa ∧ EqS (bA f n) sa i a (t - a)))) ∧ sz1 = sz ∧ In G x (ca) Φ1 ∧ Fr x (fun j9 => False) Φ Φ1) := by
  refine Ct.of (cc := cX6_isToken) (maxL := 5) (ret := (some .boolean)) (by decide) rfl (Nat.le_of_ble_eq_true rfl) ?_
  intro p9 e9 s9 m9 w9 t9 k9 B
  show Z p9 l e9 _ s9 m9 _ w9 t9 k9 _ G 5 0 [(0, .ref (x + 24)), (1, .ref (G.2.2.1 (6 + i))), (2, .int (nI a)), (3, .int (nI t))] [] Φ sz 0 0
  have hl8 := lenS_le i
  refine z_iload_n B dX6_isToken_0 rfl 3 rfl ?_
  refine z_iload_n B dX6_isToken_1 rfl 2 rfl ?_
  refine z_isub B dX6_isToken_2 ?_
  refine z_top (st1 := [.int (nI (t - a))]) (congrArg (fun w9 : Int32 => ([.int w9] : List Value)) (nI_sub (show a ≤ t by omega))) ?_
  refine z_aload_n B dX6_isToken_3 rfl 0 rfl ?_
  refine z_get (ref := "FlowExporter$Parser") (C := RX6) (T := TX6) (N := 8) (ci := 8) (v := .int (nI nx)) B hu_X6_isToken_X6 rfl 4 (Nat.le_of_ble_eq_true rfl) hv_X6_isToken_25 rfl hc2 rfl dX6_isToken_4 ?_
  refine z_aload_n B dX6_isToken_7 rfl 0 rfl ?_
  refine z_get (ref := "FlowExporter$Parser") (C := RX6) (T := TX6) (N := 8) (ci := 8) (v := .int (nI sa)) B hu_X6_isToken_X6 rfl 6 (Nat.le_of_ble_eq_true rfl) hv_X6_isToken_31 rfl hc2 rfl dX6_isToken_8 ?_
  refine z_isub B dX6_isToken_11 ?_
  refine z_top (st1 := [.int (nI (nx - sa)), .int (nI (t - a))]) (congrArg (fun w9 : Int32 => ([.int w9, .int (nI (t - a))] : List Value)) (nI_sub (show sa ≤ nx by omega))) ?_
  refine z_icmp_eq (tgt := 17) B dX6_isToken_12 rfl (fun c_1 => ?_) (fun c_1 => ?_)
  · have e_1 : t - a = nx - sa := (nI_eq (a := t - a) (b := nx - sa) (by omega) (by omega)).mp c_1
    refine z_iload_n B dX6_isToken_17 rfl 2 rfl ?_
    refine z_istore (lv' := [(4, .int (nI a)), (0, .ref (x + 24)), (1, .ref (G.2.2.1 (6 + i))), (2, .int (nI a)), (3, .int (nI t))]) B dX6_isToken_18 (Nat.le_of_ble_eq_true rfl) rfl ?_
    refine z_lv [0, 1, 2, 3, 4] rfl ?_
    refine z_loop (α := Nat) (fun (a9 : Nat) Φi => In G x (ca) Φi ∧ Fr x (fun j9 => False) Φ Φi ∧ (a9 ≤ t) ∧ (a ≤ a9) ∧ (EqS (bA f n) sa i a (a9 - a)) ∧ True) (fun a9 => [(4, .int (nI a9)), (0, .ref (x + 24)), (1, .ref (G.2.2.1 (6 + i))), (2, .int (nI a)), (3, .int (nI t))]) (fun a9 => t - a9) ?_ (a) ⟨hI, fun _ _ => rfl, (show a ≤ t by omega), (show a ≤ a by omega), (EqS_0 (by omega)), trivial⟩
    rintro i_1 Φl1 ⟨hI1, hF1, b_1, b_2, b_3, -⟩ ih1
    replace hI1 : In G x (ca) Φl1 := hI1
    replace b_1 : i_1 ≤ t := b_1
    replace b_2 : a ≤ i_1 := b_2
    replace b_3 : EqS (bA f n) sa i a (i_1 - a) := b_3
    show Z p9 l e9 _ s9 m9 _ w9 t9 k9 _ G 5 20 [(4, .int (nI i_1)), (0, .ref (x + 24)), (1, .ref (G.2.2.1 (6 + i))), (2, .int (nI a)), (3, .int (nI t))] [] Φl1 _ _ _
    refine z_iload B dX6_isToken_20 0 rfl ?_
    refine z_iload_n B dX6_isToken_22 rfl 4 rfl ?_
    refine z_icmp_ge (tgt := 68) B dX6_isToken_23 rfl (fun c_2 => ?_) (fun c_2 => ?_)
    · have e_2 : t ≤ i_1 := (nI_leI (a := t) (b := i_1) (by omega) (by omega)).mp c_2
      refine z_iconst (v := 1) B dX6_isToken_68 rfl ?_
      exact z_ret_z B dX6_isToken_69 (by decide) ⟨(Or.inl ⟨rfl, by omega, (show i_1 - a = t - a by omega) ▸ b_3⟩), rfl, hI1, (fun b9 h9 => ((hF1 b9 (fun j9 h8 h7 => (show False from h7).elim)).trans rfl))⟩
    · have e_3 : ¬ (t ≤ i_1) := fun h9 => c_2 ((nI_leI (a := t) (b := i_1) (by omega) (by omega)).mpr h9)
      refine z_iload B dX6_isToken_26 0 rfl ?_
      refine z_aload_n B dX6_isToken_28 rfl 2 rfl ?_
      have b_4 := lenS_le i
      refine z_callVS (i := i) (As := []) (rest := [.int (nI i_1)]) B (show i < 2 by omega) (c_J0_length G l Φl1 sz i (show i < 2 by omega) (fun v8 Φ8 sz8 => v8 = some (.int (nI (lenS.getD i 0))) ∧ sz8 = sz ∧ In G x (ca) Φ8 ∧ Fr x (fun j9 => False) Φl1 Φ8) ⟨rfl, rfl, hI1, fun _ _ => rfl⟩) (cwV 0 B.1.2.2.2.2 gX6_isToken_J0_length_8abf5 rfl rfl rfl (by decide +kernel) ⟨Nat.le_of_ble_eq_true rfl, Nat.le_of_ble_eq_true rfl⟩) rfl rfl (Nat.le_of_ble_eq_true rfl) dX6_isToken_29 ⟨Nat.le_of_ble_eq_true rfl, Nat.le_of_ble_eq_true rfl⟩ (fun r_1 Φ1 sz1 st1 hp1 hs1 => ?_)
      obtain ⟨rfl, hq1, hI2, hF2⟩ := hp1
      subst sz1
      replace hs1 : st1 = [.int (nI (lenS.getD i 0)), .int (nI i_1)] := hs1
      subst st1
      refine z_icmp_ge (tgt := 68) B dX6_isToken_32 rfl (fun c_3 => ?_) (fun c_3 => ?_)
      · have e_4 : lenS.getD i 0 ≤ i_1 := (nI_leI (a := lenS.getD i 0) (b := i_1) (by omega) (by omega)).mp c_3
        refine z_iconst (v := 1) B dX6_isToken_68 rfl ?_
        exact z_ret_z B dX6_isToken_69 (by decide) ⟨(Or.inl ⟨rfl, by omega, (show i_1 - a = t - a by omega) ▸ b_3⟩), rfl, hI2, (fun b9 h9 => ((hF2 b9 (fun j9 h8 h7 => (show False from h7).elim)).trans ((hF1 b9 (fun j9 h8 h7 => (show False from h7).elim)).trans rfl)))⟩
      · have e_5 : ¬ (lenS.getD i 0 ≤ i_1) := fun h9 => c_3 ((nI_leI (a := lenS.getD i 0) (b := i_1) (by omega) (by omega)).mpr h9)
        refine z_aload_n B dX6_isToken_35 rfl 2 rfl ?_
        refine z_iload B dX6_isToken_36 0 rfl ?_
        have b_5 := lenS_le i
        refine z_callVS (i := i) (As := [.int (nI i_1)]) (rest := []) B (show i < 2 by omega) (c_J0_charAt G l Φ1 sz i i_1 (show i < 2 by omega) (show i_1 < lenS.getD i 0 by omega) (fun v8 Φ8 sz8 => v8 = some (.int ((bytS.getD i []).getD i_1 0)) ∧ sz8 = sz ∧ In G x (ca) Φ8 ∧ Fr x (fun j9 => False) Φ1 Φ8) ⟨rfl, rfl, hI2, fun _ _ => rfl⟩) (cwV 1 B.1.2.2.2.2 gX6_isToken_J0_charAt_5068e rfl rfl rfl (by decide +kernel) ⟨Nat.le_of_ble_eq_true rfl, Nat.le_of_ble_eq_true rfl⟩) rfl rfl (Nat.le_of_ble_eq_true rfl) dX6_isToken_38 ⟨Nat.le_of_ble_eq_true rfl, Nat.le_of_ble_eq_true rfl⟩ (fun r_2 Φ2 sz2 st2 hp2 hs2 => ?_)
        obtain ⟨rfl, hq2, hI3, hF3⟩ := hp2
        subst sz2
        replace hs2 : st2 = [.int ((bytS.getD i []).getD i_1 0)] := hs2
        subst st2
        show Z p9 l e9 _ s9 m9 _ w9 t9 k9 _ G _ _ _ [.int (byS i i_1)] _ _ _ _
        refine z_aload_n B dX6_isToken_41 rfl 1 rfl ?_
        have h_1 : Φ2 (x + 24) = some (o_ 8 [.ref (x + 25), .int co, .int po, .ref (x + 1), .int (nI nx), .int (nI ki), .int (nI sa), .int (nI nu)]) := ((hF3 (x + 24) (fun j9 h8 h7 => (show False from h7).elim)).trans ((hF2 (x + 24) (fun j9 h8 h7 => (show False from h7).elim)).trans ((hF1 (x + 24) (fun j9 h8 h7 => (show False from h7).elim)).trans hc2)))
        refine z_get (ref := "FlowExporter$Parser") (C := RX6) (T := TX6) (N := 8) (ci := 8) (v := .ref (x + 1)) B hu_X6_isToken_X6 rfl 3 (Nat.le_of_ble_eq_true rfl) hv_X6_isToken_37 rfl h_1 rfl dX6_isToken_42 ?_
        refine z_aload_n B dX6_isToken_45 rfl 1 rfl ?_
        refine z_get (ref := "FlowExporter$Parser") (C := RX6) (T := TX6) (N := 8) (ci := 8) (v := .int (nI sa)) B hu_X6_isToken_X6 rfl 6 (Nat.le_of_ble_eq_true rfl) hv_X6_isToken_31 rfl h_1 rfl dX6_isToken_46 ?_
        refine z_iload B dX6_isToken_49 0 rfl ?_
        refine z_iadd B dX6_isToken_51 ?_
        refine z_top (st1 := [.int (nI (sa + i_1)), .ref (x + 1), .int (byS i i_1)]) (congrArg (fun w9 : Int32 => ([.int w9, .ref (x + 1), .int (byS i i_1)] : List Value)) (nI_add sa i_1)) ?_
        refine z_iload_n B dX6_isToken_52 rfl 3 rfl ?_
        refine z_isub B dX6_isToken_53 ?_
        refine z_top (st1 := [.int (nI ((sa + i_1) - a)), .ref (x + 1), .int (byS i i_1)]) (congrArg (fun w9 : Int32 => ([.int w9, .ref (x + 1), .int (byS i i_1)] : List Value)) (nI_sub (show a ≤ sa + i_1 by omega))) ?_
        have h_2 : Φ2 (x + 1) = some (o_ 7 [.ref (x + 2), .int (nI n)]) := ((hF3 (x + 1) (fun j9 h8 h7 => (show False from h7).elim)).trans ((hF2 (x + 1) (fun j9 h8 h7 => (show False from h7).elim)).trans ((hF1 (x + 1) (fun j9 h8 h7 => (show False from h7).elim)).trans hc0)))
        have h_3 : Φ2 (x + 2) = some (ab_ G 700 f) := ((hF3 (x + 2) (fun j9 h8 h7 => (show False from h7).elim)).trans ((hF2 (x + 2) (fun j9 h8 h7 => (show False from h7).elim)).trans ((hF1 (x + 2) (fun j9 h8 h7 => (show False from h7).elim)).trans hc1)))
        refine z_callV (As := [.int (nI ((sa + i_1) - a))]) (rest := [.int (byS i i_1)]) B (s_X5_byteAt1 G l Φ2 sz x (ca) n f ((sa + i_1) - a) hx hI3 h_2 h_3 (show ((sa + i_1) - a) < 2 ^ 31 by omega) (show n ≤ 700 by omega)) (cwV 1 B.1.2.2.2.2 gX6_isToken_X5_byteAt rfl rfl rfl (by decide +kernel) ⟨Nat.le_of_ble_eq_true rfl, Nat.le_of_ble_eq_true rfl⟩) h_2 rfl rfl rfl rfl (Nat.le_of_ble_eq_true rfl) dX6_isToken_54 ⟨Nat.le_of_ble_eq_true rfl, Nat.le_of_ble_eq_true rfl⟩ (fun r_3 Φ3 sz3 st3 hp3 hs3 => ?_)
        obtain ⟨rfl, hq3, hI4, hF4⟩ := hp3
        subst sz3
        replace hs3 : st3 = [.int (bA f n ((sa + i_1) - a)), .int (byS i i_1)] := hs3
        subst st3
        replace hI4 : In G x (ca) Φ3 := hI4
        refine z_icmp_eq (tgt := 62) B dX6_isToken_57 rfl (fun c_4 => ?_) (fun c_4 => ?_)
        · refine z_iinc (k := 0) (v := nI (i_1 + 1)) (lv' := [(4, .int (nI (i_1 + 1))), (0, .ref (x + 24)), (1, .ref (G.2.2.1 (6 + i))), (2, .int (nI a)), (3, .int (nI t))]) B dX6_isToken_62 rfl (nI_add i_1 1) (Nat.le_of_ble_eq_true rfl) rfl ?_
          refine z_goto (tgt := 20) B dX6_isToken_65 rfl ?_
          refine z_lv [0, 1, 2, 3, 4] rfl ?_
          exact ih1 (i_1 + 1) Φ3 (show t - (i_1 + 1) < t - i_1 by omega) ⟨hI4, (fun b9 h9 => ((hF4 b9 (fun j9 h8 h7 => (show False from h7).elim)).trans ((hF3 b9 (fun j9 h8 h7 => (show False from h7).elim)).trans ((hF2 b9 (fun j9 h8 h7 => (show False from h7).elim)).trans ((hF1 b9 (fun j9 h8 h7 => (show False from h7).elim)).trans rfl))))), (show (i_1 + 1) ≤ t by omega), (show a ≤ (i_1 + 1) by omega), (EqS_s b_3 (by omega) rfl c_4 (by omega)), trivial⟩
        · refine z_iconst (v := 0) B dX6_isToken_60 rfl ?_
          exact z_ret_z B dX6_isToken_61 (by decide) ⟨(Or.inr ⟨rfl, fun h9 => EqS_n (k := i_1) (by omega) (by omega) rfl c_4 h9.2⟩), rfl, hI4, (fun b9 h9 => ((hF4 b9 (fun j9 h8 h7 => (show False from h7).elim)).trans ((hF3 b9 (fun j9 h8 h7 => (show False from h7).elim)).trans ((hF2 b9 (fun j9 h8 h7 => (show False from h7).elim)).trans ((hF1 b9 (fun j9 h8 h7 => (show False from h7).elim)).trans rfl)))))⟩
  · have e_6 : ¬ (t - a = nx - sa) := fun h9 => c_1 ((nI_eq (a := t - a) (b := nx - sa) (by omega) (by omega)).mpr h9)
    refine z_iconst (v := 0) B dX6_isToken_15 rfl ?_
    exact z_ret_z B dX6_isToken_16 (by decide) ⟨(Or.inr ⟨rfl, fun h9 => absurd h9.1 (by omega)⟩), rfl, hI, (fun b9 h9 => rfl)⟩

theorem hu_X6_wordIn_X6 : ∀ w ∈ u_ws RX6 TX6 8, w ∈ wsX6_wordIn := fun _ h => List.mem_cons_of_mem _ (List.mem_append_left _ (List.mem_append_left _ (List.mem_append_left _ (List.mem_append_right _ (h)))))

theorem hv_X6_wordIn_28 : Cond.fieldLink RX6 28 "FlowExporter$Parser" (TX6 5).2.1 (TX6 5).2.2.1 ∈ wsX6_wordIn := List.mem_cons_of_mem _ (List.mem_append_left _ (List.mem_append_left _ (List.mem_append_left _ (List.mem_append_left _ (List.mem_append_left _ (List.mem_of_getElem? (i := 0) rfl))))))

set_option maxHeartbeats 4000000 in
set_option maxRecDepth 100000 in
theorem s_X6_wordIn (G : EnvG) (l : Launch) (Φ : Hm) (sz x ca : Nat) (n : Nat) (f : Nat → Int32) (co : Int32) (po : Int32) (nx : Nat) (ki : Nat) (sa : Nat) (nu : Nat) (i : Nat) (hx : G.2.2.2 ≤ x) (hI : In G x ca Φ) (hc0 : Φ (x + 1) = some (o_ 7 [.ref (x + 2), .int (nI n)])) (hc1 : Φ (x + 2) = some (ab_ G 700 f)) (hc2 : Φ (x + 24) = some (o_ 8 [.ref (x + 25), .int co, .int po, .ref (x + 1), .int (nI nx), .int (nI ki), .int (nI sa), .int (nI nu)])) (hi : i < 2) (hki : ki ≤ 5) (hsx : sa ≤ nx) (hxn : nx ≤ n) (hn : n ≤ 700) : Ct G l yX6_wordIn wsX6_wordIn ({ frames := 5, cells := 0, slots := 0, locals := 109 }) 0 0 [.ref (x + 24), .ref (G.2.2.1 (6 + i))] Φ sz (fun v Φ1 sz1 => (v = some (.int (wd (Lw i) (bA f n) ki sa nx))) ∧ sz1 = sz ∧ In G x (ca) Φ1 ∧ Fr x (fun j9 => False) Φ Φ1) := by
  refine Ct.of (cc := cX6_wordIn) (maxL := 5) (ret := (some .int)) (by decide) rfl (Nat.le_of_ble_eq_true rfl) ?_
  intro p9 e9 s9 m9 w9 t9 k9 B
  show Z p9 l e9 _ s9 m9 _ w9 t9 k9 _ G 5 0 [(0, .ref (x + 24)), (1, .ref (G.2.2.1 (6 + i)))] [] Φ sz 0 0
  have hl8 := lenS_le i
  refine z_aload_n B dX6_wordIn_0 rfl 0 rfl ?_
  refine z_get (ref := "FlowExporter$Parser") (C := RX6) (T := TX6) (N := 8) (ci := 8) (v := .int (nI ki)) B hu_X6_wordIn_X6 rfl 5 (Nat.le_of_ble_eq_true rfl) hv_X6_wordIn_28 rfl hc2 rfl dX6_wordIn_1 ?_
  refine z_iconst (v := 2) B dX6_wordIn_4 rfl ?_
  refine z_icmp_eq (tgt := 10) B dX6_wordIn_5 rfl (fun c_1 => ?_) (fun c_1 => ?_)
  · have e_1 : ki = 2 := (nI_eq (a := ki) (b := 2) (by omega) (by omega)).mp c_1
    refine z_iconst (v := 0) B dX6_wordIn_10 rfl ?_
    refine z_istore_n (lv' := [(2, .int 0), (0, .ref (x + 24)), (1, .ref (G.2.2.1 (6 + i)))]) B dX6_wordIn_11 rfl (Nat.le_of_ble_eq_true rfl) rfl ?_
    refine z_iconst (v := 0) B dX6_wordIn_12 rfl ?_
    refine z_istore_n (lv' := [(3, .int 0), (2, .int 0), (0, .ref (x + 24)), (1, .ref (G.2.2.1 (6 + i)))]) B dX6_wordIn_13 rfl (Nat.le_of_ble_eq_true rfl) rfl ?_
    refine z_iconst (v := 0) B dX6_wordIn_14 rfl ?_
    refine z_istore (lv' := [(4, .int 0), (3, .int 0), (2, .int 0), (0, .ref (x + 24)), (1, .ref (G.2.2.1 (6 + i)))]) B dX6_wordIn_15 (Nat.le_of_ble_eq_true rfl) rfl ?_
    refine z_lv [0, 1, 2, 3, 4] rfl ?_
    refine z_loop (α := Nat × Nat × Nat) (fun (a9 : Nat × Nat × Nat) Φi => In G x (ca) Φi ∧ Fr x (fun j9 => False) Φ Φi ∧ (a9.1 ≤ lenS.getD i 0 + 1) ∧ (a9.2.2 = plS i a9.1) ∧ (a9.2.1 = frS i a9.1) ∧ (∀ j9, j9 < plS i a9.1 → ¬ IsW (bA f n) sa (nx - sa) ((Lw i).getD j9 [])) ∧ True) (fun a9 => [(4, .int (nI (a9.1))), (3, .int (nI (a9.2.1))), (2, .int (nI (a9.2.2))), (0, .ref (x + 24)), (1, .ref (G.2.2.1 (6 + i)))]) (fun a9 => 102 - a9.1) ?_ (0, 0, 0) ⟨hI, fun _ _ => rfl, (show 0 ≤ lenS.getD i 0 + 1 by omega), rfl, rfl, (fun j9 h9 => absurd h9 (Nat.not_lt_zero _)), trivial⟩
    rintro ⟨i_1, i_2, i_3⟩ Φl1 ⟨hI1, hF1, b_1, b_2, b_3, b_4, -⟩ ih1
    replace hI1 : In G x (ca) Φl1 := hI1
    replace b_1 : i_1 ≤ lenS.getD i 0 + 1 := b_1
    replace b_2 : i_3 = plS i i_1 := b_2
    replace b_3 : i_2 = frS i i_1 := b_3
    replace b_4 : ∀ j9, j9 < plS i i_1 → ¬ IsW (bA f n) sa (nx - sa) ((Lw i).getD j9 []) := b_4
    show Z p9 l e9 _ s9 m9 _ w9 t9 k9 _ G 5 17 [(4, .int (nI i_1)), (3, .int (nI i_2)), (2, .int (nI i_3)), (0, .ref (x + 24)), (1, .ref (G.2.2.1 (6 + i)))] [] Φl1 _ _ _
    obtain rfl := b_2
    have b_5 := plS_le i i_1
    obtain rfl := b_3
    have b_6 := frS_le i i_1
    refine z_iload B dX6_wordIn_17 0 rfl ?_
    refine z_aload_n B dX6_wordIn_19 rfl 4 rfl ?_
    have b_7 := lenS_le i
    refine z_callVS (i := i) (As := []) (rest := [.int (nI i_1)]) B (show i < 2 by omega) (c_J0_length G l Φl1 sz i (show i < 2 by omega) (fun v8 Φ8 sz8 => v8 = some (.int (nI (lenS.getD i 0))) ∧ sz8 = sz ∧ In G x (ca) Φ8 ∧ Fr x (fun j9 => False) Φl1 Φ8) ⟨rfl, rfl, hI1, fun _ _ => rfl⟩) (cwV 0 B.1.2.2.2.2 gX6_wordIn_J0_length_8abf5 rfl rfl rfl (by decide +kernel) ⟨Nat.le_of_ble_eq_true rfl, Nat.le_of_ble_eq_true rfl⟩) rfl rfl (Nat.le_of_ble_eq_true rfl) dX6_wordIn_20 ⟨Nat.le_of_ble_eq_true rfl, Nat.le_of_ble_eq_true rfl⟩ (fun r_1 Φ1 sz1 st1 hp1 hs1 => ?_)
    obtain ⟨rfl, hq1, hI2, hF2⟩ := hp1
    subst sz1
    replace hs1 : st1 = [.int (nI (lenS.getD i 0)), .int (nI i_1)] := hs1
    subst st1
    refine z_icmp_gt (tgt := 73) B dX6_wordIn_23 rfl (fun c_2 => ?_) (fun c_2 => ?_)
    · have e_2 : lenS.getD i 0 < i_1 := (nI_ltI (a := lenS.getD i 0) (b := i_1) (by omega) (by omega)).mp c_2
      refine z_iconst (v := (-1)) B dX6_wordIn_73 rfl ?_
      exact z_ret_i B dX6_wordIn_74 ⟨(congrArg (fun w9 : Int32 => some (Value.int w9)) (wd_of (by omega) (WI_mis (k := i_1) (by omega) (by omega) b_4)).symm), rfl, hI2, (fun b9 h9 => ((hF2 b9 (fun j9 h8 h7 => (show False from h7).elim)).trans ((hF1 b9 (fun j9 h8 h7 => (show False from h7).elim)).trans rfl)))⟩
    · have e_3 : ¬ (lenS.getD i 0 < i_1) := fun h9 => c_2 ((nI_ltI (a := lenS.getD i 0) (b := i_1) (by omega) (by omega)).mpr h9)
      refine z_iload B dX6_wordIn_26 0 rfl ?_
      refine z_aload_n B dX6_wordIn_28 rfl 4 rfl ?_
      have b_8 := lenS_le i
      refine z_callVS (i := i) (As := []) (rest := [.int (nI i_1)]) B (show i < 2 by omega) (c_J0_length G l Φ1 sz i (show i < 2 by omega) (fun v8 Φ8 sz8 => v8 = some (.int (nI (lenS.getD i 0))) ∧ sz8 = sz ∧ In G x (ca) Φ8 ∧ Fr x (fun j9 => False) Φ1 Φ8) ⟨rfl, rfl, hI2, fun _ _ => rfl⟩) (cwV 0 B.1.2.2.2.2 gX6_wordIn_J0_length_8abf5 rfl rfl rfl (by decide +kernel) ⟨Nat.le_of_ble_eq_true rfl, Nat.le_of_ble_eq_true rfl⟩) rfl rfl (Nat.le_of_ble_eq_true rfl) dX6_wordIn_29 ⟨Nat.le_of_ble_eq_true rfl, Nat.le_of_ble_eq_true rfl⟩ (fun r_2 Φ2 sz2 st2 hp2 hs2 => ?_)
      obtain ⟨rfl, hq2, hI3, hF3⟩ := hp2
      subst sz2
      replace hs2 : st2 = [.int (nI (lenS.getD i 0)), .int (nI i_1)] := hs2
      subst st2
      refine z_icmp_eq (tgt := 46) B dX6_wordIn_32 rfl (fun c_3 => ?_) (fun c_3 => ?_)
      · have e_4 : i_1 = lenS.getD i 0 := (nI_eq (a := i_1) (b := lenS.getD i 0) (by omega) (by omega)).mp c_3
        refine z_aload_n B dX6_wordIn_46 rfl 3 rfl ?_
        refine z_aload_n B dX6_wordIn_47 rfl 4 rfl ?_
        refine z_iload_n B dX6_wordIn_48 rfl 1 rfl ?_
        refine z_iload B dX6_wordIn_49 0 rfl ?_
        have h_1 : Φ2 (x + 1) = some (o_ 7 [.ref (x + 2), .int (nI n)]) := ((hF3 (x + 1) (fun j9 h8 h7 => (show False from h7).elim)).trans ((hF2 (x + 1) (fun j9 h8 h7 => (show False from h7).elim)).trans ((hF1 (x + 1) (fun j9 h8 h7 => (show False from h7).elim)).trans hc0)))
        have h_2 : Φ2 (x + 2) = some (ab_ G 700 f) := ((hF3 (x + 2) (fun j9 h8 h7 => (show False from h7).elim)).trans ((hF2 (x + 2) (fun j9 h8 h7 => (show False from h7).elim)).trans ((hF1 (x + 2) (fun j9 h8 h7 => (show False from h7).elim)).trans hc1)))
        have h_3 : Φ2 (x + 24) = some (o_ 8 [.ref (x + 25), .int co, .int po, .ref (x + 1), .int (nI nx), .int (nI ki), .int (nI sa), .int (nI nu)]) := ((hF3 (x + 24) (fun j9 h8 h7 => (show False from h7).elim)).trans ((hF2 (x + 24) (fun j9 h8 h7 => (show False from h7).elim)).trans ((hF1 (x + 24) (fun j9 h8 h7 => (show False from h7).elim)).trans hc2)))
        refine z_callV (As := [.ref (G.2.2.1 (6 + i)), .int (nI (frS i i_1)), .int (nI i_1)]) (rest := []) B (s_X6_isToken G l Φ2 sz x (ca) n f co po nx ki sa nu i (frS i i_1) i_1 hx hI3 h_1 h_2 h_3 (show i < 2 by omega) (show (frS i i_1) ≤ i_1 by omega) (show i_1 ≤ lenS.getD i 0 by omega) (show sa ≤ nx by omega) (show nx ≤ n by omega) (show n ≤ 700 by omega)) (cwV 3 B.1.2.2.2.2 gX6_wordIn_X6_isToken rfl rfl rfl (by decide +kernel) ⟨Nat.le_of_ble_eq_true rfl, Nat.le_of_ble_eq_true rfl⟩) h_3 rfl rfl rfl rfl (Nat.le_of_ble_eq_true rfl) dX6_wordIn_51 ⟨Nat.le_of_ble_eq_true rfl, Nat.le_of_ble_eq_true rfl⟩ (fun r_3 Φ3 sz3 st3 hp3 hs3 => ?_)
        obtain ⟨ha1, hq3, hI4, hF4⟩ := hp3
        subst sz3
        replace hI4 : In G x (ca) Φ3 := hI4
        rcases ha1 with ⟨rfl, hQ1⟩ | ⟨rfl, hQ2⟩
        · replace hQ1 : i_1 - (frS i i_1) = nx - sa ∧ EqS (bA f n) sa i (frS i i_1) (i_1 - (frS i i_1)) := hQ1
          replace hs3 : st3 = [.int 1] := hs3
          subst st3
          refine z_if_eq (tgt := 59) B dX6_wordIn_54 rfl (fun h9 => absurd h9 (by decide)) (fun c_4 => ?_)
          refine z_iload_n B dX6_wordIn_57 rfl 2 rfl ?_
          exact z_ret_i B dX6_wordIn_58 ⟨(congrArg (fun w9 : Int32 => some (Value.int w9)) (wd_of (by omega) (WI_hit (by omega) (by omega) (Or.inl (by omega)) hQ1 b_4)).symm), rfl, hI4, (fun b9 h9 => ((hF4 b9 (fun j9 h8 h7 => (show False from h7).elim)).trans ((hF3 b9 (fun j9 h8 h7 => (show False from h7).elim)).trans ((hF2 b9 (fun j9 h8 h7 => (show False from h7).elim)).trans ((hF1 b9 (fun j9 h8 h7 => (show False from h7).elim)).trans rfl)))))⟩
        · replace hQ2 : ¬ (i_1 - (frS i i_1) = nx - sa ∧ EqS (bA f n) sa i (frS i i_1) (i_1 - (frS i i_1))) := hQ2
          replace hs3 : st3 = [.int 0] := hs3
          subst st3
          refine z_if_eq (tgt := 59) B dX6_wordIn_54 rfl (fun c_5 => ?_) (fun h9 => absurd (by decide) h9)
          refine z_iinc (k := 2) (v := nI (plS i i_1 + 1)) (lv' := [(2, .int (nI (plS i i_1 + 1))), (4, .int (nI i_1)), (3, .int (nI (frS i i_1))), (0, .ref (x + 24)), (1, .ref (G.2.2.1 (6 + i)))]) B dX6_wordIn_59 rfl (nI_add (plS i i_1) 1) (Nat.le_of_ble_eq_true rfl) rfl ?_
          refine z_iload B dX6_wordIn_62 1 rfl ?_
          refine z_iconst (v := 1) B dX6_wordIn_64 rfl ?_
          refine z_iadd B dX6_wordIn_65 ?_
          refine z_top (st1 := [.int (nI (i_1 + 1))]) (congrArg (fun w9 : Int32 => ([.int w9] : List Value)) (nI_add i_1 1)) ?_
          refine z_istore_n (lv' := [(3, .int (nI (i_1 + 1))), (2, .int (nI (plS i i_1 + 1))), (4, .int (nI i_1)), (0, .ref (x + 24)), (1, .ref (G.2.2.1 (6 + i)))]) B dX6_wordIn_66 rfl (Nat.le_of_ble_eq_true rfl) rfl ?_
          have b_9 := plS_y (i := i) (Or.inl (by omega))
          have b_10 := frS_y (i := i) (Or.inl (by omega))
          refine z_iinc (k := 2) (v := nI (i_1 + 1)) (lv' := [(4, .int (nI (i_1 + 1))), (3, .int (nI (i_1 + 1))), (2, .int (nI (plS i i_1 + 1))), (0, .ref (x + 24)), (1, .ref (G.2.2.1 (6 + i)))]) B dX6_wordIn_67 rfl (nI_add i_1 1) (Nat.le_of_ble_eq_true rfl) rfl ?_
          refine z_goto (tgt := 17) B dX6_wordIn_70 rfl ?_
          refine z_lv [0, 1, 2, 3, 4] rfl ?_
          exact ih1 (i_1 + 1, i_1 + 1, plS i i_1 + 1) Φ3 (show 102 - (i_1 + 1) < 102 - i_1 by omega) ⟨hI4, (fun b9 h9 => ((hF4 b9 (fun j9 h8 h7 => (show False from h7).elim)).trans ((hF3 b9 (fun j9 h8 h7 => (show False from h7).elim)).trans ((hF2 b9 (fun j9 h8 h7 => (show False from h7).elim)).trans ((hF1 b9 (fun j9 h8 h7 => (show False from h7).elim)).trans rfl))))), (show (i_1 + 1) ≤ lenS.getD i 0 + 1 by omega), (show (plS i i_1 + 1) = plS i (i_1 + 1) by omega), (show (i_1 + 1) = frS i (i_1 + 1) by omega), (WI_y (by omega) (by omega) (Or.inl (by omega)) hQ2 b_4), trivial⟩
      · have e_5 : ¬ (i_1 = lenS.getD i 0) := fun h9 => c_3 ((nI_eq (a := i_1) (b := lenS.getD i 0) (by omega) (by omega)).mpr h9)
        refine z_aload_n B dX6_wordIn_35 rfl 4 rfl ?_
        refine z_iload B dX6_wordIn_36 0 rfl ?_
        have b_11 := lenS_le i
        refine z_callVS (i := i) (As := [.int (nI i_1)]) (rest := []) B (show i < 2 by omega) (c_J0_charAt G l Φ2 sz i i_1 (show i < 2 by omega) (show i_1 < lenS.getD i 0 by omega) (fun v8 Φ8 sz8 => v8 = some (.int ((bytS.getD i []).getD i_1 0)) ∧ sz8 = sz ∧ In G x (ca) Φ8 ∧ Fr x (fun j9 => False) Φ2 Φ8) ⟨rfl, rfl, hI3, fun _ _ => rfl⟩) (cwV 1 B.1.2.2.2.2 gX6_wordIn_J0_charAt_5068e rfl rfl rfl (by decide +kernel) ⟨Nat.le_of_ble_eq_true rfl, Nat.le_of_ble_eq_true rfl⟩) rfl rfl (Nat.le_of_ble_eq_true rfl) dX6_wordIn_38 ⟨Nat.le_of_ble_eq_true rfl, Nat.le_of_ble_eq_true rfl⟩ (fun r_4 Φ4 sz4 st4 hp4 hs4 => ?_)
        obtain ⟨rfl, hq4, hI5, hF5⟩ := hp4
        subst sz4
        replace hs4 : st4 = [.int ((bytS.getD i []).getD i_1 0)] := hs4
        subst st4
        show Z p9 l e9 _ s9 m9 _ w9 t9 k9 _ G _ _ _ [.int (byS i i_1)] _ _ _ _
        refine z_bipush (v := 32) B dX6_wordIn_41 rfl ?_
        refine z_icmp_ne (tgt := 67) B dX6_wordIn_43 rfl (fun c_6 => ?_) (fun c_6 => ?_)
        · have b_12 := plS_n (i := i) (k := i_1) (by omega) c_6
          have b_13 := frS_n (i := i) (k := i_1) (by omega) c_6
          refine z_iinc (k := 0) (v := nI (i_1 + 1)) (lv' := [(4, .int (nI (i_1 + 1))), (3, .int (nI (frS i i_1))), (2, .int (nI (plS i i_1))), (0, .ref (x + 24)), (1, .ref (G.2.2.1 (6 + i)))]) B dX6_wordIn_67 rfl (nI_add i_1 1) (Nat.le_of_ble_eq_true rfl) rfl ?_
          refine z_goto (tgt := 17) B dX6_wordIn_70 rfl ?_
          refine z_lv [0, 1, 2, 3, 4] rfl ?_
          exact ih1 (i_1 + 1, frS i i_1, plS i i_1) Φ4 (show 102 - (i_1 + 1) < 102 - i_1 by omega) ⟨hI5, (fun b9 h9 => ((hF5 b9 (fun j9 h8 h7 => (show False from h7).elim)).trans ((hF3 b9 (fun j9 h8 h7 => (show False from h7).elim)).trans ((hF2 b9 (fun j9 h8 h7 => (show False from h7).elim)).trans ((hF1 b9 (fun j9 h8 h7 => (show False from h7).elim)).trans rfl))))), (show (i_1 + 1) ≤ lenS.getD i 0 + 1 by omega), (show (plS i i_1) = plS i (i_1 + 1) by omega), (show (frS i i_1) = frS i (i_1 + 1) by omega), ((plS_n (i := i) (k := i_1) (by omega) c_6).symm ▸ b_4), trivial⟩
        · refine z_aload_n B dX6_wordIn_46 rfl 3 rfl ?_
          refine z_aload_n B dX6_wordIn_47 rfl 4 rfl ?_
          refine z_iload_n B dX6_wordIn_48 rfl 1 rfl ?_
          refine z_iload B dX6_wordIn_49 0 rfl ?_
          have h_4 : Φ4 (x + 1) = some (o_ 7 [.ref (x + 2), .int (nI n)]) := ((hF5 (x + 1) (fun j9 h8 h7 => (show False from h7).elim)).trans ((hF3 (x + 1) (fun j9 h8 h7 => (show False from h7).elim)).trans ((hF2 (x + 1) (fun j9 h8 h7 => (show False from h7).elim)).trans ((hF1 (x + 1) (fun j9 h8 h7 => (show False from h7).elim)).trans hc0))))
          have h_5 : Φ4 (x + 2) = some (ab_ G 700 f) := ((hF5 (x + 2) (fun j9 h8 h7 => (show False from h7).elim)).trans ((hF3 (x + 2) (fun j9 h8 h7 => (show False from h7).elim)).trans ((hF2 (x + 2) (fun j9 h8 h7 => (show False from h7).elim)).trans ((hF1 (x + 2) (fun j9 h8 h7 => (show False from h7).elim)).trans hc1))))
          have h_6 : Φ4 (x + 24) = some (o_ 8 [.ref (x + 25), .int co, .int po, .ref (x + 1), .int (nI nx), .int (nI ki), .int (nI sa), .int (nI nu)]) := ((hF5 (x + 24) (fun j9 h8 h7 => (show False from h7).elim)).trans ((hF3 (x + 24) (fun j9 h8 h7 => (show False from h7).elim)).trans ((hF2 (x + 24) (fun j9 h8 h7 => (show False from h7).elim)).trans ((hF1 (x + 24) (fun j9 h8 h7 => (show False from h7).elim)).trans hc2))))
          refine z_callV (As := [.ref (G.2.2.1 (6 + i)), .int (nI (frS i i_1)), .int (nI i_1)]) (rest := []) B (s_X6_isToken G l Φ4 sz x (ca) n f co po nx ki sa nu i (frS i i_1) i_1 hx hI5 h_4 h_5 h_6 (show i < 2 by omega) (show (frS i i_1) ≤ i_1 by omega) (show i_1 ≤ lenS.getD i 0 by omega) (show sa ≤ nx by omega) (show nx ≤ n by omega) (show n ≤ 700 by omega)) (cwV 3 B.1.2.2.2.2 gX6_wordIn_X6_isToken rfl rfl rfl (by decide +kernel) ⟨Nat.le_of_ble_eq_true rfl, Nat.le_of_ble_eq_true rfl⟩) h_6 rfl rfl rfl rfl (Nat.le_of_ble_eq_true rfl) dX6_wordIn_51 ⟨Nat.le_of_ble_eq_true rfl, Nat.le_of_ble_eq_true rfl⟩ (fun r_5 Φ5 sz5 st5 hp5 hs5 => ?_)
          obtain ⟨ha2, hq5, hI6, hF6⟩ := hp5
          subst sz5
          replace hI6 : In G x (ca) Φ5 := hI6
          rcases ha2 with ⟨rfl, hQ3⟩ | ⟨rfl, hQ4⟩
          · replace hQ3 : i_1 - (frS i i_1) = nx - sa ∧ EqS (bA f n) sa i (frS i i_1) (i_1 - (frS i i_1)) := hQ3
            replace hs5 : st5 = [.int 1] := hs5
            subst st5
            refine z_if_eq (tgt := 59) B dX6_wordIn_54 rfl (fun h9 => absurd h9 (by decide)) (fun c_7 => ?_)
            refine z_iload_n B dX6_wordIn_57 rfl 2 rfl ?_
            exact z_ret_i B dX6_wordIn_58 ⟨(congrArg (fun w9 : Int32 => some (Value.int w9)) (wd_of (by omega) (WI_hit (by omega) (by omega) (Or.inr c_6) hQ3 b_4)).symm), rfl, hI6, (fun b9 h9 => ((hF6 b9 (fun j9 h8 h7 => (show False from h7).elim)).trans ((hF5 b9 (fun j9 h8 h7 => (show False from h7).elim)).trans ((hF3 b9 (fun j9 h8 h7 => (show False from h7).elim)).trans ((hF2 b9 (fun j9 h8 h7 => (show False from h7).elim)).trans ((hF1 b9 (fun j9 h8 h7 => (show False from h7).elim)).trans rfl))))))⟩
          · replace hQ4 : ¬ (i_1 - (frS i i_1) = nx - sa ∧ EqS (bA f n) sa i (frS i i_1) (i_1 - (frS i i_1))) := hQ4
            replace hs5 : st5 = [.int 0] := hs5
            subst st5
            refine z_if_eq (tgt := 59) B dX6_wordIn_54 rfl (fun c_8 => ?_) (fun h9 => absurd (by decide) h9)
            refine z_iinc (k := 2) (v := nI (plS i i_1 + 1)) (lv' := [(2, .int (nI (plS i i_1 + 1))), (4, .int (nI i_1)), (3, .int (nI (frS i i_1))), (0, .ref (x + 24)), (1, .ref (G.2.2.1 (6 + i)))]) B dX6_wordIn_59 rfl (nI_add (plS i i_1) 1) (Nat.le_of_ble_eq_true rfl) rfl ?_
            refine z_iload B dX6_wordIn_62 1 rfl ?_
            refine z_iconst (v := 1) B dX6_wordIn_64 rfl ?_
            refine z_iadd B dX6_wordIn_65 ?_
            refine z_top (st1 := [.int (nI (i_1 + 1))]) (congrArg (fun w9 : Int32 => ([.int w9] : List Value)) (nI_add i_1 1)) ?_
            refine z_istore_n (lv' := [(3, .int (nI (i_1 + 1))), (2, .int (nI (plS i i_1 + 1))), (4, .int (nI i_1)), (0, .ref (x + 24)), (1, .ref (G.2.2.1 (6 + i)))]) B dX6_wordIn_66 rfl (Nat.le_of_ble_eq_true rfl) rfl ?_
            have b_14 := plS_y (i := i) (Or.inr c_6)
            have b_15 := frS_y (i := i) (Or.inr c_6)
            refine z_iinc (k := 2) (v := nI (i_1 + 1)) (lv' := [(4, .int (nI (i_1 + 1))), (3, .int (nI (i_1 + 1))), (2, .int (nI (plS i i_1 + 1))), (0, .ref (x + 24)), (1, .ref (G.2.2.1 (6 + i)))]) B dX6_wordIn_67 rfl (nI_add i_1 1) (Nat.le_of_ble_eq_true rfl) rfl ?_
            refine z_goto (tgt := 17) B dX6_wordIn_70 rfl ?_
            refine z_lv [0, 1, 2, 3, 4] rfl ?_
            exact ih1 (i_1 + 1, i_1 + 1, plS i i_1 + 1) Φ5 (show 102 - (i_1 + 1) < 102 - i_1 by omega) ⟨hI6, (fun b9 h9 => ((hF6 b9 (fun j9 h8 h7 => (show False from h7).elim)).trans ((hF5 b9 (fun j9 h8 h7 => (show False from h7).elim)).trans ((hF3 b9 (fun j9 h8 h7 => (show False from h7).elim)).trans ((hF2 b9 (fun j9 h8 h7 => (show False from h7).elim)).trans ((hF1 b9 (fun j9 h8 h7 => (show False from h7).elim)).trans rfl)))))), (show (i_1 + 1) ≤ lenS.getD i 0 + 1 by omega), (show (plS i i_1 + 1) = plS i (i_1 + 1) by omega), (show (i_1 + 1) = frS i (i_1 + 1) by omega), (WI_y (by omega) (by omega) (Or.inr c_6) hQ4 b_4), trivial⟩
  · have e_6 : ¬ (ki = 2) := fun h9 => c_1 ((nI_eq (a := ki) (b := 2) (by omega) (by omega)).mpr h9)
    refine z_iconst (v := (-1)) B dX6_wordIn_8 rfl ?_
    exact z_ret_i B dX6_wordIn_9 ⟨(congrArg (fun w9 : Int32 => some (Value.int w9)) (wd_no (by omega)).symm), rfl, hI, (fun b9 h9 => rfl)⟩

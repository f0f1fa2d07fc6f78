theorem dX6_fail_0 : decode cX6_fail 0 = .ok (.aload_n 0, 1) := by decide +kernel
theorem dX6_fail_1 : decode cX6_fail 1 = .ok (.iload_n 1, 1) := by decide +kernel
theorem dX6_fail_2 : decode cX6_fail 2 = .ok (.putfield 18, 3) := by decide +kernel
theorem dX6_fail_5 : decode cX6_fail 5 = .ok (.aload_n 0, 1) := by decide +kernel
theorem dX6_fail_6 : decode cX6_fail 6 = .ok (.aload_n 0, 1) := by decide +kernel
theorem dX6_fail_7 : decode cX6_fail 7 = .ok (.getfield 31, 3) := by decide +kernel
theorem dX6_fail_10 : decode cX6_fail 10 = .ok (.putfield 22, 3) := by decide +kernel
theorem dX6_fail_13 : decode cX6_fail 13 = .ok (.iconst 0, 1) := by decide +kernel
theorem dX6_fail_14 : decode cX6_fail 14 = .ok (.ireturn, 1) := by decide +kernel
set_option maxRecDepth 20000 in
theorem ggX6_readNumber_X6_nextToken : GoodIn wsX6_readNumber wsX6_nextToken := goodIn_ca (goodIn_r _ [10, 4, 5, 11, 3, 1, 12, 13, 14, 15, 16, 17, 18, 19, 20, 9, 21, 28, 29, 30, 31, 32, 33, 34, 35, 36, 37] rfl (by decide +kernel)) (goodIn_sub (fun _ h => List.mem_cons_of_mem _ (List.mem_append_right _ h)) (by decide +kernel))
set_option maxRecDepth 20000 in
theorem gX6_readNumber_X6_nextToken : GoodIn wsX6_readNumber (wsV RX6 44 RX6 yX6_nextToken wsX6_nextToken) := goodIn_app (goodIn_of _ (by decide +kernel)) ggX6_readNumber_X6_nextToken
set_option maxRecDepth 20000 in
theorem ggX6_readNumber_X6_fail : GoodIn wsX6_readNumber wsX6_fail := goodIn_r _ [25, 26, 3, 27, 28, 29, 30, 31, 32, 33, 34, 35] rfl (by decide +kernel)
set_option maxRecDepth 20000 in
theorem gX6_readNumber_X6_fail : GoodIn wsX6_readNumber (wsV RX6 63 RX6 yX6_fail wsX6_fail) := goodIn_app (goodIn_of _ (by decide +kernel)) ggX6_readNumber_X6_fail
set_option maxRecDepth 20000 in
theorem ggX6_readNumber_X5_byteAt : GoodIn wsX6_readNumber wsX5_byteAt := goodIn_ca (goodIn_r _ [16, 17, 18, 36, 37] rfl (by decide +kernel)) (goodIn_sub (fun _ h => List.mem_cons_of_mem _ (List.mem_append_right _ h)) (by decide +kernel))
set_option maxRecDepth 20000 in
theorem gX6_readNumber_X5_byteAt : GoodIn wsX6_readNumber (wsV RX6 118 RX5 yX5_byteAt wsX5_byteAt) := goodIn_app (goodIn_of _ (by decide +kernel)) ggX6_readNumber_X5_byteAt
theorem dX6_readNumber_0 : decode cX6_readNumber 0 = .ok (.aload_n 0, 1) := by decide +kernel
theorem dX6_readNumber_1 : decode cX6_readNumber 1 = .ok (.invokevirtual 44, 3) := by decide +kernel
theorem dX6_readNumber_4 : decode cX6_readNumber 4 = .ok (.aload_n 0, 1) := by decide +kernel
theorem dX6_readNumber_5 : decode cX6_readNumber 5 = .ok (.getfield 28, 3) := by decide +kernel
theorem dX6_readNumber_8 : decode cX6_readNumber 8 = .ok (.iconst 3, 1) := by decide +kernel
theorem dX6_readNumber_9 : decode cX6_readNumber 9 = .ok (.if_icmp .eq 9, 3) := by decide +kernel
theorem dX6_readNumber_12 : decode cX6_readNumber 12 = .ok (.aload_n 0, 1) := by decide +kernel
theorem dX6_readNumber_13 : decode cX6_readNumber 13 = .ok (.iconst 1, 1) := by decide +kernel
theorem dX6_readNumber_14 : decode cX6_readNumber 14 = .ok (.invokevirtual 63, 3) := by decide +kernel
theorem dX6_readNumber_17 : decode cX6_readNumber 17 = .ok (.ireturn, 1) := by decide +kernel
theorem dX6_readNumber_18 : decode cX6_readNumber 18 = .ok (.aload_n 0, 1) := by decide +kernel
theorem dX6_readNumber_19 : decode cX6_readNumber 19 = .ok (.iconst 0, 1) := by decide +kernel
theorem dX6_readNumber_20 : decode cX6_readNumber 20 = .ok (.putfield 34, 3) := by decide +kernel
theorem dX6_readNumber_23 : decode cX6_readNumber 23 = .ok (.aload_n 0, 1) := by decide +kernel
theorem dX6_readNumber_24 : decode cX6_readNumber 24 = .ok (.getfield 31, 3) := by decide +kernel
theorem dX6_readNumber_27 : decode cX6_readNumber 27 = .ok (.istore_n 3, 1) := by decide +kernel
theorem dX6_readNumber_28 : decode cX6_readNumber 28 = .ok (.iload_n 3, 1) := by decide +kernel
theorem dX6_readNumber_29 : decode cX6_readNumber 29 = .ok (.aload_n 0, 1) := by decide +kernel
theorem dX6_readNumber_30 : decode cX6_readNumber 30 = .ok (.getfield 25, 3) := by decide +kernel
theorem dX6_readNumber_33 : decode cX6_readNumber 33 = .ok (.if_icmp .ge 32, 3) := by decide +kernel
theorem dX6_readNumber_36 : decode cX6_readNumber 36 = .ok (.aload_n 0, 1) := by decide +kernel
theorem dX6_readNumber_37 : decode cX6_readNumber 37 = .ok (.bipush 10, 2) := by decide +kernel
theorem dX6_readNumber_39 : decode cX6_readNumber 39 = .ok (.aload_n 0, 1) := by decide +kernel
theorem dX6_readNumber_40 : decode cX6_readNumber 40 = .ok (.getfield 34, 3) := by decide +kernel
theorem dX6_readNumber_43 : decode cX6_readNumber 43 = .ok (.imul, 1) := by decide +kernel
theorem dX6_readNumber_44 : decode cX6_readNumber 44 = .ok (.aload_n 0, 1) := by decide +kernel
theorem dX6_readNumber_45 : decode cX6_readNumber 45 = .ok (.getfield 37, 3) := by decide +kernel
theorem dX6_readNumber_48 : decode cX6_readNumber 48 = .ok (.iload_n 3, 1) := by decide +kernel
theorem dX6_readNumber_49 : decode cX6_readNumber 49 = .ok (.invokevirtual 118, 3) := by decide +kernel
theorem dX6_readNumber_52 : decode cX6_readNumber 52 = .ok (.iadd, 1) := by decide +kernel
theorem dX6_readNumber_53 : decode cX6_readNumber 53 = .ok (.bipush 48, 2) := by decide +kernel
theorem dX6_readNumber_55 : decode cX6_readNumber 55 = .ok (.isub, 1) := by decide +kernel
theorem dX6_readNumber_56 : decode cX6_readNumber 56 = .ok (.putfield 34, 3) := by decide +kernel
theorem dX6_readNumber_59 : decode cX6_readNumber 59 = .ok (.iinc 3 1, 3) := by decide +kernel
theorem dX6_readNumber_62 : decode cX6_readNumber 62 = .ok (.goto (-34), 3) := by decide +kernel
theorem dX6_readNumber_65 : decode cX6_readNumber 65 = .ok (.aload_n 0, 1) := by decide +kernel
theorem dX6_readNumber_66 : decode cX6_readNumber 66 = .ok (.getfield 34, 3) := by decide +kernel
theorem dX6_readNumber_69 : decode cX6_readNumber 69 = .ok (.iload_n 1, 1) := by decide +kernel
theorem dX6_readNumber_70 : decode cX6_readNumber 70 = .ok (.if_icmp .lt 11, 3) := by decide +kernel
theorem dX6_readNumber_73 : decode cX6_readNumber 73 = .ok (.aload_n 0, 1) := by decide +kernel
theorem dX6_readNumber_74 : decode cX6_readNumber 74 = .ok (.getfield 34, 3) := by decide +kernel
theorem dX6_readNumber_77 : decode cX6_readNumber 77 = .ok (.iload_n 2, 1) := by decide +kernel
theorem dX6_readNumber_78 : decode cX6_readNumber 78 = .ok (.if_icmp .le 11, 3) := by decide +kernel
theorem dX6_readNumber_81 : decode cX6_readNumber 81 = .ok (.aload_n 0, 1) := by decide +kernel
theorem dX6_readNumber_82 : decode cX6_readNumber 82 = .ok (.iconst 2, 1) := by decide +kernel
theorem dX6_readNumber_83 : decode cX6_readNumber 83 = .ok (.invokevirtual 63, 3) := by decide +kernel
theorem dX6_readNumber_86 : decode cX6_readNumber 86 = .ok (.ifCond .eq 7, 3) := by decide +kernel
theorem dX6_readNumber_89 : decode cX6_readNumber 89 = .ok (.iconst 1, 1) := by decide +kernel
theorem dX6_readNumber_90 : decode cX6_readNumber 90 = .ok (.goto 4, 3) := by decide +kernel
theorem dX6_readNumber_93 : decode cX6_readNumber 93 = .ok (.iconst 0, 1) := by decide +kernel
theorem dX6_readNumber_94 : decode cX6_readNumber 94 = .ok (.ireturn, 1) := by decide +kernel
set_option maxRecDepth 20000 in
theorem ggX6_readSemicolon_X6_nextToken : GoodIn wsX6_readSemicolon wsX6_nextToken := goodIn_ca (goodIn_r _ [6, 7, 8, 9, 10, 1, 11, 12, 13, 14, 15, 16, 17, 18, 19, 5, 20, 27, 28, 29, 30, 31, 32, 33, 34, 35, 36] rfl (by decide +kernel)) (goodIn_sub (fun _ h => List.mem_cons_of_mem _ (List.mem_append_right _ h)) (by decide +kernel))
set_option maxRecDepth 20000 in
theorem gX6_readSemicolon_X6_nextToken : GoodIn wsX6_readSemicolon (wsV RX6 44 RX6 yX6_nextToken wsX6_nextToken) := goodIn_app (goodIn_of _ (by decide +kernel)) ggX6_readSemicolon_X6_nextToken
set_option maxRecDepth 20000 in
theorem ggX6_readSemicolon_X6_fail : GoodIn wsX6_readSemicolon wsX6_fail := goodIn_r _ [24, 25, 10, 26, 27, 28, 29, 30, 31, 32, 33, 34] rfl (by decide +kernel)
set_option maxRecDepth 20000 in
theorem gX6_readSemicolon_X6_fail : GoodIn wsX6_readSemicolon (wsV RX6 63 RX6 yX6_fail wsX6_fail) := goodIn_app (goodIn_of _ (by decide +kernel)) ggX6_readSemicolon_X6_fail
theorem dX6_readSemicolon_0 : decode cX6_readSemicolon 0 = .ok (.aload_n 0, 1) := by decide +kernel
theorem dX6_readSemicolon_1 : decode cX6_readSemicolon 1 = .ok (.invokevirtual 44, 3) := by decide +kernel
theorem dX6_readSemicolon_4 : decode cX6_readSemicolon 4 = .ok (.aload_n 0, 1) := by decide +kernel
theorem dX6_readSemicolon_5 : decode cX6_readSemicolon 5 = .ok (.getfield 28, 3) := by decide +kernel
theorem dX6_readSemicolon_8 : decode cX6_readSemicolon 8 = .ok (.iconst 4, 1) := by decide +kernel
theorem dX6_readSemicolon_9 : decode cX6_readSemicolon 9 = .ok (.if_icmp .eq 11, 3) := by decide +kernel
theorem dX6_readSemicolon_12 : decode cX6_readSemicolon 12 = .ok (.aload_n 0, 1) := by decide +kernel
theorem dX6_readSemicolon_13 : decode cX6_readSemicolon 13 = .ok (.iconst 1, 1) := by decide +kernel
theorem dX6_readSemicolon_14 : decode cX6_readSemicolon 14 = .ok (.invokevirtual 63, 3) := by decide +kernel
theorem dX6_readSemicolon_17 : decode cX6_readSemicolon 17 = .ok (.ifCond .eq 7, 3) := by decide +kernel
theorem dX6_readSemicolon_20 : decode cX6_readSemicolon 20 = .ok (.iconst 1, 1) := by decide +kernel
theorem dX6_readSemicolon_21 : decode cX6_readSemicolon 21 = .ok (.goto 4, 3) := by decide +kernel
theorem dX6_readSemicolon_24 : decode cX6_readSemicolon 24 = .ok (.iconst 0, 1) := by decide +kernel
theorem dX6_readSemicolon_25 : decode cX6_readSemicolon 25 = .ok (.ireturn, 1) := by decide +kernel
set_option maxRecDepth 20000 in
theorem ggX6_isToken_J0_length_8abf5 : GoodIn wsX6_isToken wsJ0_length_8abf5 := goodIn_r _ [8, 9, 10, 11, 12, 7, 13, 14, 15, 68, 69] rfl (by decide +kernel)
set_option maxRecDepth 20000 in
theorem gX6_isToken_J0_length_8abf5 : GoodIn wsX6_isToken (wsV RX6 124 RJ0 yJ0_length_8abf5 wsJ0_length_8abf5) := goodIn_app (goodIn_of _ (by decide +kernel)) ggX6_isToken_J0_length_8abf5
set_option maxRecDepth 20000 in
theorem ggX6_isToken_J0_charAt_5068e : GoodIn wsX6_isToken wsJ0_charAt_5068e := goodIn_r _ [19, 9, 20, 21, 22, 7, 23, 14, 15, 24, 25, 26, 27, 28, 29, 30, 31, 32, 33, 34, 35, 36, 37, 38, 39, 40, 41, 42, 43, 44, 45, 46, 47, 48, 49, 50, 51, 52, 68, 69] rfl (by decide +kernel)
set_option maxRecDepth 20000 in
theorem gX6_isToken_J0_charAt_5068e : GoodIn wsX6_isToken (wsV RX6 130 RJ0 yJ0_charAt_5068e wsJ0_charAt_5068e) := goodIn_app (goodIn_of _ (by decide +kernel)) ggX6_isToken_J0_charAt_5068e
set_option maxRecDepth 20000 in
theorem ggX6_isToken_X5_byteAt : GoodIn wsX6_isToken wsX5_byteAt := goodIn_ca (goodIn_r _ [57, 58, 59, 70, 71] rfl (by decide +kernel)) (goodIn_sub (fun _ h => List.mem_cons_of_mem _ (List.mem_append_right _ h)) (by decide +kernel))
set_option maxRecDepth 20000 in
theorem gX6_isToken_X5_byteAt : GoodIn wsX6_isToken (wsV RX6 118 RX5 yX5_byteAt wsX5_byteAt) := goodIn_app (goodIn_of _ (by decide +kernel)) ggX6_isToken_X5_byteAt
theorem dX6_isToken_0 : decode cX6_isToken 0 = .ok (.iload_n 3, 1) := by decide +kernel
theorem dX6_isToken_1 : decode cX6_isToken 1 = .ok (.iload_n 2, 1) := by decide +kernel
theorem dX6_isToken_2 : decode cX6_isToken 2 = .ok (.isub, 1) := by decide +kernel
theorem dX6_isToken_3 : decode cX6_isToken 3 = .ok (.aload_n 0, 1) := by decide +kernel
theorem dX6_isToken_4 : decode cX6_isToken 4 = .ok (.getfield 25, 3) := by decide +kernel
theorem dX6_isToken_7 : decode cX6_isToken 7 = .ok (.aload_n 0, 1) := by decide +kernel
theorem dX6_isToken_8 : decode cX6_isToken 8 = .ok (.getfield 31, 3) := by decide +kernel
theorem dX6_isToken_11 : decode cX6_isToken 11 = .ok (.isub, 1) := by decide +kernel
theorem dX6_isToken_12 : decode cX6_isToken 12 = .ok (.if_icmp .eq 5, 3) := by decide +kernel
theorem dX6_isToken_15 : decode cX6_isToken 15 = .ok (.iconst 0, 1) := by decide +kernel
theorem dX6_isToken_16 : decode cX6_isToken 16 = .ok (.ireturn, 1) := by decide +kernel
theorem dX6_isToken_17 : decode cX6_isToken 17 = .ok (.iload_n 2, 1) := by decide +kernel
theorem dX6_isToken_18 : decode cX6_isToken 18 = .ok (.istore 4, 2) := by decide +kernel
theorem dX6_isToken_20 : decode cX6_isToken 20 = .ok (.iload 4, 2) := by decide +kernel
theorem dX6_isToken_22 : decode cX6_isToken 22 = .ok (.iload_n 3, 1) := by decide +kernel
theorem dX6_isToken_23 : decode cX6_isToken 23 = .ok (.if_icmp .ge 45, 3) := by decide +kernel
theorem dX6_isToken_26 : decode cX6_isToken 26 = .ok (.iload 4, 2) := by decide +kernel
theorem dX6_isToken_28 : decode cX6_isToken 28 = .ok (.aload_n 1, 1) := by decide +kernel
theorem dX6_isToken_29 : decode cX6_isToken 29 = .ok (.invokevirtual 124, 3) := by decide +kernel
theorem dX6_isToken_32 : decode cX6_isToken 32 = .ok (.if_icmp .ge 36, 3) := by decide +kernel
theorem dX6_isToken_35 : decode cX6_isToken 35 = .ok (.aload_n 1, 1) := by decide +kernel
theorem dX6_isToken_36 : decode cX6_isToken 36 = .ok (.iload 4, 2) := by decide +kernel
theorem dX6_isToken_38 : decode cX6_isToken 38 = .ok (.invokevirtual 130, 3) := by decide +kernel
theorem dX6_isToken_41 : decode cX6_isToken 41 = .ok (.aload_n 0, 1) := by decide +kernel
theorem dX6_isToken_42 : decode cX6_isToken 42 = .ok (.getfield 37, 3) := by decide +kernel
theorem dX6_isToken_45 : decode cX6_isToken 45 = .ok (.aload_n 0, 1) := by decide +kernel
theorem dX6_isToken_46 : decode cX6_isToken 46 = .ok (.getfield 31, 3) := by decide +kernel
theorem dX6_isToken_49 : decode cX6_isToken 49 = .ok (.iload 4, 2) := by decide +kernel
theorem dX6_isToken_51 : decode cX6_isToken 51 = .ok (.iadd, 1) := by decide +kernel
theorem dX6_isToken_52 : decode cX6_isToken 52 = .ok (.iload_n 2, 1) := by decide +kernel
theorem dX6_isToken_53 : decode cX6_isToken 53 = .ok (.isub, 1) := by decide +kernel
theorem dX6_isToken_54 : decode cX6_isToken 54 = .ok (.invokevirtual 118, 3) := by decide +kernel
theorem dX6_isToken_57 : decode cX6_isToken 57 = .ok (.if_icmp .eq 5, 3) := by decide +kernel
theorem dX6_isToken_60 : decode cX6_isToken 60 = .ok (.iconst 0, 1) := by decide +kernel
theorem dX6_isToken_61 : decode cX6_isToken 61 = .ok (.ireturn, 1) := by decide +kernel
theorem dX6_isToken_62 : decode cX6_isToken 62 = .ok (.iinc 4 1, 3) := by decide +kernel
theorem dX6_isToken_65 : decode cX6_isToken 65 = .ok (.goto (-45), 3) := by decide +kernel
theorem dX6_isToken_68 : decode cX6_isToken 68 = .ok (.iconst 1, 1) := by decide +kernel
theorem dX6_isToken_69 : decode cX6_isToken 69 = .ok (.ireturn, 1) := by decide +kernel
set_option maxRecDepth 20000 in
theorem ggX6_nextToken_X5_byteAt : GoodIn wsX6_nextToken wsX5_byteAt := goodIn_ca (goodIn_r _ [10, 11, 12, 25, 26] rfl (by decide +kernel)) (goodIn_sub (fun _ h => List.mem_cons_of_mem _ (List.mem_append_right _ h)) (by decide +kernel))
set_option maxRecDepth 20000 in
theorem gX6_nextToken_X5_byteAt : GoodIn wsX6_nextToken (wsV RX6 118 RX5 yX5_byteAt wsX5_byteAt) := goodIn_app (goodIn_of _ (by decide +kernel)) ggX6_nextToken_X5_byteAt
set_option maxRecDepth 20000 in
theorem ggX6_nextToken_X6_kindOf : GoodIn wsX6_nextToken wsX6_kindOf := goodIn_r _ [16] rfl (by decide +kernel)
set_option maxRecDepth 20000 in
theorem gX6_nextToken_X6_kindOf : GoodIn wsX6_nextToken (va_wsS RX6 140 yX6_kindOf wsX6_kindOf) := goodIn_app (goodIn_of _ (by decide +kernel)) ggX6_nextToken_X6_kindOf
theorem dX6_nextToken_0 : decode cX6_nextToken 0 = .ok (.aload_n 0, 1) := by decide +kernel
theorem dX6_nextToken_1 : decode cX6_nextToken 1 = .ok (.getfield 25, 3) := by decide +kernel
theorem dX6_nextToken_4 : decode cX6_nextToken 4 = .ok (.aload_n 0, 1) := by decide +kernel
theorem dX6_nextToken_5 : decode cX6_nextToken 5 = .ok (.getfield 37, 3) := by decide +kernel
theorem dX6_nextToken_8 : decode cX6_nextToken 8 = .ok (.getfield 138, 3) := by decide +kernel
theorem dX6_nextToken_11 : decode cX6_nextToken 11 = .ok (.if_icmp .ge 34, 3) := by decide +kernel
theorem dX6_nextToken_14 : decode cX6_nextToken 14 = .ok (.aload_n 0, 1) := by decide +kernel
theorem dX6_nextToken_15 : decode cX6_nextToken 15 = .ok (.getfield 37, 3) := by decide +kernel
theorem dX6_nextToken_18 : decode cX6_nextToken 18 = .ok (.aload_n 0, 1) := by decide +kernel
theorem dX6_nextToken_19 : decode cX6_nextToken 19 = .ok (.getfield 25, 3) := by decide +kernel
theorem dX6_nextToken_22 : decode cX6_nextToken 22 = .ok (.invokevirtual 118, 3) := by decide +kernel
theorem dX6_nextToken_25 : decode cX6_nextToken 25 = .ok (.invokestatic 140, 3) := by decide +kernel
theorem dX6_nextToken_28 : decode cX6_nextToken 28 = .ok (.iconst 1, 1) := by decide +kernel
theorem dX6_nextToken_29 : decode cX6_nextToken 29 = .ok (.if_icmp .ne 16, 3) := by decide +kernel
theorem dX6_nextToken_32 : decode cX6_nextToken 32 = .ok (.aload_n 0, 1) := by decide +kernel
theorem dX6_nextToken_33 : decode cX6_nextToken 33 = .ok (.dup, 1) := by decide +kernel
theorem dX6_nextToken_34 : decode cX6_nextToken 34 = .ok (.getfield 25, 3) := by decide +kernel
theorem dX6_nextToken_37 : decode cX6_nextToken 37 = .ok (.iconst 1, 1) := by decide +kernel
theorem dX6_nextToken_38 : decode cX6_nextToken 38 = .ok (.iadd, 1) := by decide +kernel
theorem dX6_nextToken_39 : decode cX6_nextToken 39 = .ok (.putfield 25, 3) := by decide +kernel
theorem dX6_nextToken_42 : decode cX6_nextToken 42 = .ok (.goto (-42), 3) := by decide +kernel
theorem dX6_nextToken_45 : decode cX6_nextToken 45 = .ok (.aload_n 0, 1) := by decide +kernel
theorem dX6_nextToken_46 : decode cX6_nextToken 46 = .ok (.aload_n 0, 1) := by decide +kernel
theorem dX6_nextToken_47 : decode cX6_nextToken 47 = .ok (.getfield 25, 3) := by decide +kernel
theorem dX6_nextToken_50 : decode cX6_nextToken 50 = .ok (.putfield 31, 3) := by decide +kernel
theorem dX6_nextToken_53 : decode cX6_nextToken 53 = .ok (.aload_n 0, 1) := by decide +kernel
theorem dX6_nextToken_54 : decode cX6_nextToken 54 = .ok (.aload_n 0, 1) := by decide +kernel
theorem dX6_nextToken_55 : decode cX6_nextToken 55 = .ok (.getfield 37, 3) := by decide +kernel
theorem dX6_nextToken_58 : decode cX6_nextToken 58 = .ok (.aload_n 0, 1) := by decide +kernel
theorem dX6_nextToken_59 : decode cX6_nextToken 59 = .ok (.getfield 31, 3) := by decide +kernel
theorem dX6_nextToken_62 : decode cX6_nextToken 62 = .ok (.invokevirtual 118, 3) := by decide +kernel
theorem dX6_nextToken_65 : decode cX6_nextToken 65 = .ok (.invokestatic 140, 3) := by decide +kernel
theorem dX6_nextToken_68 : decode cX6_nextToken 68 = .ok (.putfield 28, 3) := by decide +kernel
theorem dX6_nextToken_71 : decode cX6_nextToken 71 = .ok (.aload_n 0, 1) := by decide +kernel
theorem dX6_nextToken_72 : decode cX6_nextToken 72 = .ok (.getfield 28, 3) := by decide +kernel
theorem dX6_nextToken_75 : decode cX6_nextToken 75 = .ok (.iconst 4, 1) := by decide +kernel
theorem dX6_nextToken_76 : decode cX6_nextToken 76 = .ok (.if_icmp .eq 11, 3) := by decide +kernel
theorem dX6_nextToken_79 : decode cX6_nextToken 79 = .ok (.aload_n 0, 1) := by decide +kernel
theorem dX6_nextToken_80 : decode cX6_nextToken 80 = .ok (.getfield 28, 3) := by decide +kernel
theorem dX6_nextToken_83 : decode cX6_nextToken 83 = .ok (.iconst 5, 1) := by decide +kernel
theorem dX6_nextToken_84 : decode cX6_nextToken 84 = .ok (.if_icmp .ne 14, 3) := by decide +kernel
theorem dX6_nextToken_87 : decode cX6_nextToken 87 = .ok (.aload_n 0, 1) := by decide +kernel
theorem dX6_nextToken_88 : decode cX6_nextToken 88 = .ok (.dup, 1) := by decide +kernel
theorem dX6_nextToken_89 : decode cX6_nextToken 89 = .ok (.getfield 25, 3) := by decide +kernel
theorem dX6_nextToken_92 : decode cX6_nextToken 92 = .ok (.iconst 1, 1) := by decide +kernel
theorem dX6_nextToken_93 : decode cX6_nextToken 93 = .ok (.iadd, 1) := by decide +kernel
theorem dX6_nextToken_94 : decode cX6_nextToken 94 = .ok (.putfield 25, 3) := by decide +kernel
theorem dX6_nextToken_97 : decode cX6_nextToken 97 = .ok (.return_, 1) := by decide +kernel
theorem dX6_nextToken_98 : decode cX6_nextToken 98 = .ok (.aload_n 0, 1) := by decide +kernel
theorem dX6_nextToken_99 : decode cX6_nextToken 99 = .ok (.getfield 25, 3) := by decide +kernel
theorem dX6_nextToken_102 : decode cX6_nextToken 102 = .ok (.aload_n 0, 1) := by decide +kernel
theorem dX6_nextToken_103 : decode cX6_nextToken 103 = .ok (.getfield 37, 3) := by decide +kernel
theorem dX6_nextToken_106 : decode cX6_nextToken 106 = .ok (.getfield 138, 3) := by decide +kernel
theorem dX6_nextToken_109 : decode cX6_nextToken 109 = .ok (.if_icmp .ge 37, 3) := by decide +kernel
theorem dX6_nextToken_112 : decode cX6_nextToken 112 = .ok (.aload_n 0, 1) := by decide +kernel
theorem dX6_nextToken_113 : decode cX6_nextToken 113 = .ok (.getfield 37, 3) := by decide +kernel
theorem dX6_nextToken_116 : decode cX6_nextToken 116 = .ok (.aload_n 0, 1) := by decide +kernel
theorem dX6_nextToken_117 : decode cX6_nextToken 117 = .ok (.getfield 25, 3) := by decide +kernel
theorem dX6_nextToken_120 : decode cX6_nextToken 120 = .ok (.invokevirtual 118, 3) := by decide +kernel
theorem dX6_nextToken_123 : decode cX6_nextToken 123 = .ok (.invokestatic 140, 3) := by decide +kernel
theorem dX6_nextToken_126 : decode cX6_nextToken 126 = .ok (.aload_n 0, 1) := by decide +kernel
theorem dX6_nextToken_127 : decode cX6_nextToken 127 = .ok (.getfield 28, 3) := by decide +kernel
theorem dX6_nextToken_130 : decode cX6_nextToken 130 = .ok (.if_icmp .ne 16, 3) := by decide +kernel
theorem dX6_nextToken_133 : decode cX6_nextToken 133 = .ok (.aload_n 0, 1) := by decide +kernel
theorem dX6_nextToken_134 : decode cX6_nextToken 134 = .ok (.dup, 1) := by decide +kernel
theorem dX6_nextToken_135 : decode cX6_nextToken 135 = .ok (.getfield 25, 3) := by decide +kernel
theorem dX6_nextToken_138 : decode cX6_nextToken 138 = .ok (.iconst 1, 1) := by decide +kernel
theorem dX6_nextToken_139 : decode cX6_nextToken 139 = .ok (.iadd, 1) := by decide +kernel
theorem dX6_nextToken_140 : decode cX6_nextToken 140 = .ok (.putfield 25, 3) := by decide +kernel
theorem dX6_nextToken_143 : decode cX6_nextToken 143 = .ok (.goto (-45), 3) := by decide +kernel
theorem dX6_nextToken_146 : decode cX6_nextToken 146 = .ok (.aload_n 0, 1) := by decide +kernel
theorem dX6_nextToken_147 : decode cX6_nextToken 147 = .ok (.getfield 28, 3) := by decide +kernel
theorem dX6_nextToken_150 : decode cX6_nextToken 150 = .ok (.iconst 3, 1) := by decide +kernel
theorem dX6_nextToken_151 : decode cX6_nextToken 151 = .ok (.if_icmp .ne 8, 3) := by decide +kernel
theorem dX6_nextToken_154 : decode cX6_nextToken 154 = .ok (.bipush 6, 2) := by decide +kernel
theorem dX6_nextToken_156 : decode cX6_nextToken 156 = .ok (.goto 5, 3) := by decide +kernel
theorem dX6_nextToken_159 : decode cX6_nextToken 159 = .ok (.bipush 12, 2) := by decide +kernel
theorem dX6_nextToken_161 : decode cX6_nextToken 161 = .ok (.istore_n 1, 1) := by decide +kernel
theorem dX6_nextToken_162 : decode cX6_nextToken 162 = .ok (.aload_n 0, 1) := by decide +kernel
theorem dX6_nextToken_163 : decode cX6_nextToken 163 = .ok (.getfield 25, 3) := by decide +kernel
theorem dX6_nextToken_166 : decode cX6_nextToken 166 = .ok (.aload_n 0, 1) := by decide +kernel
theorem dX6_nextToken_167 : decode cX6_nextToken 167 = .ok (.getfield 31, 3) := by decide +kernel
theorem dX6_nextToken_170 : decode cX6_nextToken 170 = .ok (.isub, 1) := by decide +kernel
theorem dX6_nextToken_171 : decode cX6_nextToken 171 = .ok (.iload_n 1, 1) := by decide +kernel
theorem dX6_nextToken_172 : decode cX6_nextToken 172 = .ok (.if_icmp .le 8, 3) := by decide +kernel
theorem dX6_nextToken_175 : decode cX6_nextToken 175 = .ok (.aload_n 0, 1) := by decide +kernel
theorem dX6_nextToken_176 : decode cX6_nextToken 176 = .ok (.iconst 5, 1) := by decide +kernel
theorem dX6_nextToken_177 : decode cX6_nextToken 177 = .ok (.putfield 28, 3) := by decide +kernel
theorem dX6_nextToken_180 : decode cX6_nextToken 180 = .ok (.return_, 1) := by decide +kernel
theorem dX6_kindOf_0 : decode cX6_kindOf 0 = .ok (.iload_n 0, 1) := by decide +kernel
theorem dX6_kindOf_1 : decode cX6_kindOf 1 = .ok (.iconst (-1), 1) := by decide +kernel
theorem dX6_kindOf_2 : decode cX6_kindOf 2 = .ok (.if_icmp .ne 5, 3) := by decide +kernel
theorem dX6_kindOf_5 : decode cX6_kindOf 5 = .ok (.iconst 0, 1) := by decide +kernel
theorem dX6_kindOf_6 : decode cX6_kindOf 6 = .ok (.ireturn, 1) := by decide +kernel
theorem dX6_kindOf_7 : decode cX6_kindOf 7 = .ok (.iload_n 0, 1) := by decide +kernel
theorem dX6_kindOf_8 : decode cX6_kindOf 8 = .ok (.bipush 32, 2) := by decide +kernel
theorem dX6_kindOf_10 : decode cX6_kindOf 10 = .ok (.if_icmp .eq 9, 3) := by decide +kernel
theorem dX6_kindOf_13 : decode cX6_kindOf 13 = .ok (.iload_n 0, 1) := by decide +kernel
theorem dX6_kindOf_14 : decode cX6_kindOf 14 = .ok (.bipush 10, 2) := by decide +kernel
theorem dX6_kindOf_16 : decode cX6_kindOf 16 = .ok (.if_icmp .ne 5, 3) := by decide +kernel
theorem dX6_kindOf_19 : decode cX6_kindOf 19 = .ok (.iconst 1, 1) := by decide +kernel
theorem dX6_kindOf_20 : decode cX6_kindOf 20 = .ok (.ireturn, 1) := by decide +kernel
theorem dX6_kindOf_21 : decode cX6_kindOf 21 = .ok (.iload_n 0, 1) := by decide +kernel
theorem dX6_kindOf_22 : decode cX6_kindOf 22 = .ok (.bipush 97, 2) := by decide +kernel
theorem dX6_kindOf_24 : decode cX6_kindOf 24 = .ok (.if_icmp .lt 11, 3) := by decide +kernel
theorem dX6_kindOf_27 : decode cX6_kindOf 27 = .ok (.iload_n 0, 1) := by decide +kernel
theorem dX6_kindOf_28 : decode cX6_kindOf 28 = .ok (.bipush 122, 2) := by decide +kernel
theorem dX6_kindOf_30 : decode cX6_kindOf 30 = .ok (.if_icmp .gt 5, 3) := by decide +kernel
theorem dX6_kindOf_33 : decode cX6_kindOf 33 = .ok (.iconst 2, 1) := by decide +kernel
theorem dX6_kindOf_34 : decode cX6_kindOf 34 = .ok (.ireturn, 1) := by decide +kernel
theorem dX6_kindOf_35 : decode cX6_kindOf 35 = .ok (.iload_n 0, 1) := by decide +kernel
theorem dX6_kindOf_36 : decode cX6_kindOf 36 = .ok (.bipush 48, 2) := by decide +kernel
theorem dX6_kindOf_38 : decode cX6_kindOf 38 = .ok (.if_icmp .lt 11, 3) := by decide +kernel
theorem dX6_kindOf_41 : decode cX6_kindOf 41 = .ok (.iload_n 0, 1) := by decide +kernel
theorem dX6_kindOf_42 : decode cX6_kindOf 42 = .ok (.bipush 57, 2) := by decide +kernel
theorem dX6_kindOf_44 : decode cX6_kindOf 44 = .ok (.if_icmp .gt 5, 3) := by decide +kernel
theorem dX6_kindOf_47 : decode cX6_kindOf 47 = .ok (.iconst 3, 1) := by decide +kernel
theorem dX6_kindOf_48 : decode cX6_kindOf 48 = .ok (.ireturn, 1) := by decide +kernel
theorem dX6_kindOf_49 : decode cX6_kindOf 49 = .ok (.iload_n 0, 1) := by decide +kernel
theorem dX6_kindOf_50 : decode cX6_kindOf 50 = .ok (.bipush 59, 2) := by decide +kernel
theorem dX6_kindOf_52 : decode cX6_kindOf 52 = .ok (.if_icmp .ne 7, 3) := by decide +kernel
theorem dX6_kindOf_55 : decode cX6_kindOf 55 = .ok (.iconst 4, 1) := by decide +kernel
theorem dX6_kindOf_56 : decode cX6_kindOf 56 = .ok (.goto 4, 3) := by decide +kernel
theorem dX6_kindOf_59 : decode cX6_kindOf 59 = .ok (.iconst 5, 1) := by decide +kernel
theorem dX6_kindOf_60 : decode cX6_kindOf 60 = .ok (.ireturn, 1) := by decide +kernel

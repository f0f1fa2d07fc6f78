set_option maxRecDepth 20000 in
theorem ggX12_ranked_X12_isWhat : GoodIn wsX12_ranked wsX12_isWhat := (goodIn_r _ [7, 8, 9, 6, 10] rfl (by decide +kernel))
set_option maxRecDepth 20000 in
theorem gX12_ranked_X12_isWhat : GoodIn wsX12_ranked (va_wsS RX12 397 yX12_isWhat wsX12_isWhat) := goodIn_app (goodIn_m (mem_cA (List.mem_cons_of_mem _ (List.mem_append_left _ (List.mem_append_left _ (List.mem_of_getElem? (i := 3) rfl)))) (mem_cA (List.mem_cons_of_mem _ (List.mem_append_left _ (List.mem_append_left _ (List.mem_of_getElem? (i := 4) rfl)))) (mem_cA (List.mem_cons_of_mem _ (List.mem_append_left _ (List.mem_append_left _ (List.mem_of_getElem? (i := 5) rfl)))) mem_cZ))) (by decide +kernel)) ggX12_ranked_X12_isWhat
set_option maxRecDepth 20000 in
theorem ggX12_ranked_X12_throwsIf : GoodIn wsX12_ranked wsX12_throwsIf := (goodIn_ca (goodIn_r _ [14, 1] rfl (by decide +kernel)) (goodIn_sub (fun _ h => List.mem_cons_of_mem _ (List.mem_append_left _ (List.mem_append_right _ h))) gw_wsX120))
set_option maxRecDepth 20000 in
theorem gX12_ranked_X12_throwsIf : GoodIn wsX12_ranked (wsV RX12 185 RX12 yX12_throwsIf wsX12_throwsIf) := goodIn_app (goodIn_m (mem_cA (List.mem_cons_of_mem _ (List.mem_append_left _ (List.mem_append_left _ (List.mem_of_getElem? (i := 10) rfl)))) (mem_cA (List.mem_cons_of_mem _ (List.mem_append_left _ (List.mem_append_left _ (List.mem_of_getElem? (i := 11) rfl)))) (mem_cA (List.mem_cons_of_mem _ (List.mem_append_left _ (List.mem_append_left _ (List.mem_of_getElem? (i := 12) rfl)))) (mem_cA (List.mem_cons_of_mem _ (List.mem_append_left _ (List.mem_append_left _ (List.mem_of_getElem? (i := 5) rfl)))) mem_cZ)))) (by decide +kernel)) ggX12_ranked_X12_throwsIf
theorem dX12_ranked_0 : decode cX12_ranked 0 = .ok (.aload_n 0, 1) := by decide +kernel
theorem dX12_ranked_1 : decode cX12_ranked 1 = .ok (.iconst 0, 1) := by decide +kernel
theorem dX12_ranked_2 : decode cX12_ranked 2 = .ok (.putfield 1, 3) := by decide +kernel
theorem dX12_ranked_5 : decode cX12_ranked 5 = .ok (.aload_n 0, 1) := by decide +kernel
theorem dX12_ranked_6 : decode cX12_ranked 6 = .ok (.iload_n 2, 1) := by decide +kernel
theorem dX12_ranked_7 : decode cX12_ranked 7 = .ok (.invokestatic 397, 3) := by decide +kernel
theorem dX12_ranked_10 : decode cX12_ranked 10 = .ok (.ifCond .ne 7, 3) := by decide +kernel
theorem dX12_ranked_13 : decode cX12_ranked 13 = .ok (.iconst 1, 1) := by decide +kernel
theorem dX12_ranked_14 : decode cX12_ranked 14 = .ok (.goto 4, 3) := by decide +kernel
theorem dX12_ranked_17 : decode cX12_ranked 17 = .ok (.iconst 0, 1) := by decide +kernel
theorem dX12_ranked_18 : decode cX12_ranked 18 = .ok (.iconst 1, 1) := by decide +kernel
theorem dX12_ranked_19 : decode cX12_ranked 19 = .ok (.invokevirtual 185, 3) := by decide +kernel
theorem dX12_ranked_22 : decode cX12_ranked 22 = .ok (.ifCond .eq 5, 3) := by decide +kernel
theorem dX12_ranked_25 : decode cX12_ranked 25 = .ok (.iconst 0, 1) := by decide +kernel
theorem dX12_ranked_26 : decode cX12_ranked 26 = .ok (.ireturn, 1) := by decide +kernel
theorem dX12_ranked_27 : decode cX12_ranked 27 = .ok (.iconst 0, 1) := by decide +kernel
theorem dX12_ranked_28 : decode cX12_ranked 28 = .ok (.istore_n 3, 1) := by decide +kernel
theorem dX12_ranked_29 : decode cX12_ranked 29 = .ok (.iload_n 3, 1) := by decide +kernel
theorem dX12_ranked_30 : decode cX12_ranked 30 = .ok (.aload_n 0, 1) := by decide +kernel
theorem dX12_ranked_31 : decode cX12_ranked 31 = .ok (.getfield 148, 3) := by decide +kernel
theorem dX12_ranked_34 : decode cX12_ranked 34 = .ok (.if_icmp .ge 95, 3) := by decide +kernel
theorem dX12_ranked_37 : decode cX12_ranked 37 = .ok (.iconst 0, 1) := by decide +kernel
theorem dX12_ranked_38 : decode cX12_ranked 38 = .ok (.istore 4, 2) := by decide +kernel
theorem dX12_ranked_40 : decode cX12_ranked 40 = .ok (.iconst 0, 1) := by decide +kernel
theorem dX12_ranked_41 : decode cX12_ranked 41 = .ok (.istore 5, 2) := by decide +kernel
theorem dX12_ranked_43 : decode cX12_ranked 43 = .ok (.iload 5, 2) := by decide +kernel
theorem dX12_ranked_45 : decode cX12_ranked 45 = .ok (.aload_n 0, 1) := by decide +kernel
theorem dX12_ranked_46 : decode cX12_ranked 46 = .ok (.getfield 148, 3) := by decide +kernel
theorem dX12_ranked_49 : decode cX12_ranked 49 = .ok (.if_icmp .ge 66, 3) := by decide +kernel
theorem dX12_ranked_52 : decode cX12_ranked 52 = .ok (.aload_n 0, 1) := by decide +kernel
theorem dX12_ranked_53 : decode cX12_ranked 53 = .ok (.getfield 75, 3) := by decide +kernel
theorem dX12_ranked_56 : decode cX12_ranked 56 = .ok (.iconst 2, 1) := by decide +kernel
theorem dX12_ranked_57 : decode cX12_ranked 57 = .ok (.iload 5, 2) := by decide +kernel
theorem dX12_ranked_59 : decode cX12_ranked 59 = .ok (.imul, 1) := by decide +kernel
theorem dX12_ranked_60 : decode cX12_ranked 60 = .ok (.iload_n 2, 1) := by decide +kernel
theorem dX12_ranked_61 : decode cX12_ranked 61 = .ok (.iadd, 1) := by decide +kernel
theorem dX12_ranked_62 : decode cX12_ranked 62 = .ok (.laload, 1) := by decide +kernel
theorem dX12_ranked_63 : decode cX12_ranked 63 = .ok (.lstore 6, 2) := by decide +kernel
theorem dX12_ranked_65 : decode cX12_ranked 65 = .ok (.aload_n 0, 1) := by decide +kernel
theorem dX12_ranked_66 : decode cX12_ranked 66 = .ok (.getfield 75, 3) := by decide +kernel
theorem dX12_ranked_69 : decode cX12_ranked 69 = .ok (.iconst 2, 1) := by decide +kernel
theorem dX12_ranked_70 : decode cX12_ranked 70 = .ok (.iload_n 3, 1) := by decide +kernel
theorem dX12_ranked_71 : decode cX12_ranked 71 = .ok (.imul, 1) := by decide +kernel
theorem dX12_ranked_72 : decode cX12_ranked 72 = .ok (.iload_n 2, 1) := by decide +kernel
theorem dX12_ranked_73 : decode cX12_ranked 73 = .ok (.iadd, 1) := by decide +kernel
theorem dX12_ranked_74 : decode cX12_ranked 74 = .ok (.laload, 1) := by decide +kernel
theorem dX12_ranked_75 : decode cX12_ranked 75 = .ok (.lstore 8, 2) := by decide +kernel
theorem dX12_ranked_77 : decode cX12_ranked 77 = .ok (.iload 4, 2) := by decide +kernel
theorem dX12_ranked_79 : decode cX12_ranked 79 = .ok (.lload 6, 2) := by decide +kernel
theorem dX12_ranked_81 : decode cX12_ranked 81 = .ok (.lload 8, 2) := by decide +kernel
theorem dX12_ranked_83 : decode cX12_ranked 83 = .ok (.lcmp, 1) := by decide +kernel
theorem dX12_ranked_84 : decode cX12_ranked 84 = .ok (.ifCond .gt 17, 3) := by decide +kernel
theorem dX12_ranked_87 : decode cX12_ranked 87 = .ok (.lload 6, 2) := by decide +kernel
theorem dX12_ranked_89 : decode cX12_ranked 89 = .ok (.lload 8, 2) := by decide +kernel
theorem dX12_ranked_91 : decode cX12_ranked 91 = .ok (.lcmp, 1) := by decide +kernel
theorem dX12_ranked_92 : decode cX12_ranked 92 = .ok (.ifCond .ne 13, 3) := by decide +kernel
theorem dX12_ranked_95 : decode cX12_ranked 95 = .ok (.iload 5, 2) := by decide +kernel
theorem dX12_ranked_97 : decode cX12_ranked 97 = .ok (.iload_n 3, 1) := by decide +kernel
theorem dX12_ranked_98 : decode cX12_ranked 98 = .ok (.if_icmp .ge 7, 3) := by decide +kernel
theorem dX12_ranked_101 : decode cX12_ranked 101 = .ok (.iconst 1, 1) := by decide +kernel
theorem dX12_ranked_102 : decode cX12_ranked 102 = .ok (.goto 4, 3) := by decide +kernel
theorem dX12_ranked_105 : decode cX12_ranked 105 = .ok (.iconst 0, 1) := by decide +kernel
theorem dX12_ranked_106 : decode cX12_ranked 106 = .ok (.iadd, 1) := by decide +kernel
theorem dX12_ranked_107 : decode cX12_ranked 107 = .ok (.istore 4, 2) := by decide +kernel
theorem dX12_ranked_109 : decode cX12_ranked 109 = .ok (.iinc 5 1, 3) := by decide +kernel
theorem dX12_ranked_112 : decode cX12_ranked 112 = .ok (.goto (-69), 3) := by decide +kernel
theorem dX12_ranked_115 : decode cX12_ranked 115 = .ok (.iload 4, 2) := by decide +kernel
theorem dX12_ranked_117 : decode cX12_ranked 117 = .ok (.iload_n 1, 1) := by decide +kernel
theorem dX12_ranked_118 : decode cX12_ranked 118 = .ok (.if_icmp .ne 5, 3) := by decide +kernel
theorem dX12_ranked_121 : decode cX12_ranked 121 = .ok (.iload_n 3, 1) := by decide +kernel
theorem dX12_ranked_122 : decode cX12_ranked 122 = .ok (.ireturn, 1) := by decide +kernel
theorem dX12_ranked_123 : decode cX12_ranked 123 = .ok (.iinc 3 1, 3) := by decide +kernel
theorem dX12_ranked_126 : decode cX12_ranked 126 = .ok (.goto (-97), 3) := by decide +kernel
theorem dX12_ranked_129 : decode cX12_ranked 129 = .ok (.iconst (-1), 1) := by decide +kernel
theorem dX12_ranked_130 : decode cX12_ranked 130 = .ok (.ireturn, 1) := by decide +kernel
theorem dX12_appendBytes_0 : decode cX12_appendBytes 0 = .ok (.bipush 24, 2) := by decide +kernel
theorem dX12_appendBytes_2 : decode cX12_appendBytes 2 = .ok (.istore_n 2, 1) := by decide +kernel
theorem dX12_appendBytes_3 : decode cX12_appendBytes 3 = .ok (.iload_n 2, 1) := by decide +kernel
theorem dX12_appendBytes_4 : decode cX12_appendBytes 4 = .ok (.ifCond .lt 32, 3) := by decide +kernel
theorem dX12_appendBytes_7 : decode cX12_appendBytes 7 = .ok (.aload_n 0, 1) := by decide +kernel
theorem dX12_appendBytes_8 : decode cX12_appendBytes 8 = .ok (.getfield 88, 3) := by decide +kernel
theorem dX12_appendBytes_11 : decode cX12_appendBytes 11 = .ok (.aload_n 0, 1) := by decide +kernel
theorem dX12_appendBytes_12 : decode cX12_appendBytes 12 = .ok (.getfield 441, 3) := by decide +kernel
theorem dX12_appendBytes_15 : decode cX12_appendBytes 15 = .ok (.iload_n 1, 1) := by decide +kernel
theorem dX12_appendBytes_16 : decode cX12_appendBytes 16 = .ok (.iload_n 2, 1) := by decide +kernel
theorem dX12_appendBytes_17 : decode cX12_appendBytes 17 = .ok (.ishr, 1) := by decide +kernel
theorem dX12_appendBytes_18 : decode cX12_appendBytes 18 = .ok (.i2b, 1) := by decide +kernel
theorem dX12_appendBytes_19 : decode cX12_appendBytes 19 = .ok (.bastore, 1) := by decide +kernel
theorem dX12_appendBytes_20 : decode cX12_appendBytes 20 = .ok (.aload_n 0, 1) := by decide +kernel
theorem dX12_appendBytes_21 : decode cX12_appendBytes 21 = .ok (.dup, 1) := by decide +kernel
theorem dX12_appendBytes_22 : decode cX12_appendBytes 22 = .ok (.getfield 441, 3) := by decide +kernel
theorem dX12_appendBytes_25 : decode cX12_appendBytes 25 = .ok (.iconst 1, 1) := by decide +kernel
theorem dX12_appendBytes_26 : decode cX12_appendBytes 26 = .ok (.iadd, 1) := by decide +kernel
theorem dX12_appendBytes_27 : decode cX12_appendBytes 27 = .ok (.putfield 441, 3) := by decide +kernel
theorem dX12_appendBytes_30 : decode cX12_appendBytes 30 = .ok (.iinc 2 (-8), 3) := by decide +kernel
theorem dX12_appendBytes_33 : decode cX12_appendBytes 33 = .ok (.goto (-30), 3) := by decide +kernel
theorem dX12_appendBytes_36 : decode cX12_appendBytes 36 = .ok (.return_, 1) := by decide +kernel
set_option maxRecDepth 20000 in
theorem ggX12_appendInput_X12_appendBytes : GoodIn wsX12_appendInput wsX12_appendBytes := goodIn_ca ((goodIn_ca (goodIn_r _ [7, 8, 2] rfl (by decide +kernel)) (goodIn_sub (fun _ h => List.mem_cons_of_mem _ (List.mem_append_left _ (List.mem_append_right _ h))) gw_wsX120))) (goodIn_sub (fun _ h => List.mem_cons_of_mem _ (List.mem_append_right _ h)) (all_fg _))
set_option maxRecDepth 20000 in
theorem gX12_appendInput_X12_appendBytes : GoodIn wsX12_appendInput (wsV RX12 444 RX12 yX12_appendBytes wsX12_appendBytes) := goodIn_app (goodIn_m (mem_cA (List.mem_cons_of_mem _ (List.mem_append_left _ (List.mem_append_left _ (List.mem_of_getElem? (i := 2) rfl)))) (mem_cA (List.mem_cons_of_mem _ (List.mem_append_left _ (List.mem_append_left _ (List.mem_of_getElem? (i := 3) rfl)))) (mem_cA (List.mem_cons_of_mem _ (List.mem_append_left _ (List.mem_append_left _ (List.mem_of_getElem? (i := 4) rfl)))) (mem_cA (List.mem_cons_of_mem _ (List.mem_append_left _ (List.mem_append_left _ (List.mem_of_getElem? (i := 5) rfl)))) mem_cZ)))) (by decide +kernel)) ggX12_appendInput_X12_appendBytes
theorem dX12_appendInput_0 : decode cX12_appendInput 0 = .ok (.aload_n 0, 1) := by decide +kernel
theorem dX12_appendInput_1 : decode cX12_appendInput 1 = .ok (.iconst 0, 1) := by decide +kernel
theorem dX12_appendInput_2 : decode cX12_appendInput 2 = .ok (.putfield 1, 3) := by decide +kernel
theorem dX12_appendInput_5 : decode cX12_appendInput 5 = .ok (.aload_n 0, 1) := by decide +kernel
theorem dX12_appendInput_6 : decode cX12_appendInput 6 = .ok (.getfield 441, 3) := by decide +kernel
theorem dX12_appendInput_9 : decode cX12_appendInput 9 = .ok (.bipush 20, 2) := by decide +kernel
theorem dX12_appendInput_11 : decode cX12_appendInput 11 = .ok (.iadd, 1) := by decide +kernel
theorem dX12_appendInput_12 : decode cX12_appendInput 12 = .ok (.sipush 700, 3) := by decide +kernel
theorem dX12_appendInput_15 : decode cX12_appendInput 15 = .ok (.if_icmp .le 5, 3) := by decide +kernel
theorem dX12_appendInput_18 : decode cX12_appendInput 18 = .ok (.iconst (-1), 1) := by decide +kernel
theorem dX12_appendInput_19 : decode cX12_appendInput 19 = .ok (.ireturn, 1) := by decide +kernel
theorem dX12_appendInput_20 : decode cX12_appendInput 20 = .ok (.aload_n 0, 1) := by decide +kernel
theorem dX12_appendInput_21 : decode cX12_appendInput 21 = .ok (.iload_n 1, 1) := by decide +kernel
theorem dX12_appendInput_22 : decode cX12_appendInput 22 = .ok (.invokevirtual 444, 3) := by decide +kernel
theorem dX12_appendInput_25 : decode cX12_appendInput 25 = .ok (.aload_n 0, 1) := by decide +kernel
theorem dX12_appendInput_26 : decode cX12_appendInput 26 = .ok (.iload_n 2, 1) := by decide +kernel
theorem dX12_appendInput_27 : decode cX12_appendInput 27 = .ok (.invokevirtual 444, 3) := by decide +kernel
theorem dX12_appendInput_30 : decode cX12_appendInput 30 = .ok (.aload_n 0, 1) := by decide +kernel
theorem dX12_appendInput_31 : decode cX12_appendInput 31 = .ok (.iload_n 3, 1) := by decide +kernel
theorem dX12_appendInput_32 : decode cX12_appendInput 32 = .ok (.invokevirtual 444, 3) := by decide +kernel
theorem dX12_appendInput_35 : decode cX12_appendInput 35 = .ok (.aload_n 0, 1) := by decide +kernel
theorem dX12_appendInput_36 : decode cX12_appendInput 36 = .ok (.iload 4, 2) := by decide +kernel
theorem dX12_appendInput_38 : decode cX12_appendInput 38 = .ok (.invokevirtual 444, 3) := by decide +kernel
theorem dX12_appendInput_41 : decode cX12_appendInput 41 = .ok (.aload_n 0, 1) := by decide +kernel
theorem dX12_appendInput_42 : decode cX12_appendInput 42 = .ok (.iload 5, 2) := by decide +kernel
theorem dX12_appendInput_44 : decode cX12_appendInput 44 = .ok (.invokevirtual 444, 3) := by decide +kernel
theorem dX12_appendInput_47 : decode cX12_appendInput 47 = .ok (.aload_n 0, 1) := by decide +kernel
theorem dX12_appendInput_48 : decode cX12_appendInput 48 = .ok (.getfield 441, 3) := by decide +kernel
theorem dX12_appendInput_51 : decode cX12_appendInput 51 = .ok (.ireturn, 1) := by decide +kernel
set_option maxRecDepth 20000 in
theorem ggX12_truncateInput_X12_inRange : GoodIn wsX12_truncateInput wsX12_inRange := (goodIn_r _ [6] rfl (by decide +kernel))
set_option maxRecDepth 20000 in
theorem gX12_truncateInput_X12_inRange : GoodIn wsX12_truncateInput (va_wsS RX12 169 yX12_inRange wsX12_inRange) := goodIn_app (goodIn_m (mem_cA (List.mem_cons_of_mem _ (List.mem_append_left _ (List.mem_of_getElem? (i := 2) rfl))) (mem_cA (List.mem_cons_of_mem _ (List.mem_append_left _ (List.mem_of_getElem? (i := 3) rfl))) (mem_cA (List.mem_cons_of_mem _ (List.mem_append_left _ (List.mem_of_getElem? (i := 4) rfl))) mem_cZ))) (by decide +kernel)) ggX12_truncateInput_X12_inRange
theorem dX12_truncateInput_0 : decode cX12_truncateInput 0 = .ok (.aload_n 0, 1) := by decide +kernel
theorem dX12_truncateInput_1 : decode cX12_truncateInput 1 = .ok (.iconst 0, 1) := by decide +kernel
theorem dX12_truncateInput_2 : decode cX12_truncateInput 2 = .ok (.putfield 1, 3) := by decide +kernel
theorem dX12_truncateInput_5 : decode cX12_truncateInput 5 = .ok (.iload_n 1, 1) := by decide +kernel
theorem dX12_truncateInput_6 : decode cX12_truncateInput 6 = .ok (.i2l, 1) := by decide +kernel
theorem dX12_truncateInput_7 : decode cX12_truncateInput 7 = .ok (.lconst 0, 1) := by decide +kernel
theorem dX12_truncateInput_8 : decode cX12_truncateInput 8 = .ok (.aload_n 0, 1) := by decide +kernel
theorem dX12_truncateInput_9 : decode cX12_truncateInput 9 = .ok (.getfield 441, 3) := by decide +kernel
theorem dX12_truncateInput_12 : decode cX12_truncateInput 12 = .ok (.i2l, 1) := by decide +kernel
theorem dX12_truncateInput_13 : decode cX12_truncateInput 13 = .ok (.invokestatic 169, 3) := by decide +kernel
theorem dX12_truncateInput_16 : decode cX12_truncateInput 16 = .ok (.ifCond .ne 5, 3) := by decide +kernel
theorem dX12_truncateInput_19 : decode cX12_truncateInput 19 = .ok (.iconst (-1), 1) := by decide +kernel
theorem dX12_truncateInput_20 : decode cX12_truncateInput 20 = .ok (.ireturn, 1) := by decide +kernel
theorem dX12_truncateInput_21 : decode cX12_truncateInput 21 = .ok (.aload_n 0, 1) := by decide +kernel
theorem dX12_truncateInput_22 : decode cX12_truncateInput 22 = .ok (.iload_n 1, 1) := by decide +kernel
theorem dX12_truncateInput_23 : decode cX12_truncateInput 23 = .ok (.putfield 441, 3) := by decide +kernel
theorem dX12_truncateInput_26 : decode cX12_truncateInput 26 = .ok (.iload_n 1, 1) := by decide +kernel
theorem dX12_truncateInput_27 : decode cX12_truncateInput 27 = .ok (.ireturn, 1) := by decide +kernel
set_option maxHeartbeats 4000000 in
set_option maxRecDepth 100000 in
theorem r_ranked (G : EnvG) (l : Launch) (Φ : Hm) (sz x : Nat) (rd : (Nat → Int32) → Prop) (fl : Nat) (pe : Nat) (le : Nat) (nx : Nat) (il : Nat) (qu : Nat) (kn : Int32) (ec : Int32) (nu : Int32) (va : Int64) (st : Nat) (ep : Int32) (a : Int32) (b : Int32) (hx : G.2.2.2 ≤ x) (hI : Im G x (rd, NN, fl, pe, le, nx, il, qu, kn, ec, nu, va, st, ep) Φ)  : Ct G l yX12_ranked wsX12_ranked ({ frames := 2, cells := 0, slots := 0, locals := 45 }) 0 0 [.ref x, .int a, .int b] Φ sz (fun v Φ1 sz1 => (∃ r9 : Int32, v = some (.int r9)) ∧ sz1 = sz ∧ (Im G x (rd, NN, fl, pe, le, nx, il, qu, kn, ec, nu, va, st, ep) Φ1) ∧ Fr x (fun j9 => j9 = 0) Φ Φ1) := by
  refine Ct.of (cc := cX12_ranked) (maxL := 10) (ret := (some .int)) (by decide) rfl (Nat.le_of_ble_eq_true rfl) ?_
  intro p9 e9 s9 m9 w9 t9 k9 B
  show Z p9 l e9 _ s9 m9 _ w9 t9 k9 _ G 10 0 [(0, .ref x), (1, .int a), (2, .int b)] [] Φ sz 0 0
  refine z_aload_n B dX12_ranked_0 rfl 0 rfl ?_
  refine z_iconst (v := 0) B dX12_ranked_1 rfl ?_
  obtain ⟨v_1, v_2, v_3, n_1, v_4, v_5, v_6, v_7, v_8, v_9, v_10, v_11, v_12, n_2, v_13, n_3, n_4, h_1, b_13, b_1, b_2, b_3, b_4, b_5, b_6, b_7, b_8, b_9, b_10, b_11, b_12⟩ := im0 hI
  replace b_1 : 1 ≤ n_1 := b_1
  replace b_2 : n_1 ≤ 1024 := b_2
  replace b_3 : fl ≤ 12 := b_3
  replace b_4 : pe ≤ 24 := b_4
  replace b_5 : le ≤ 700 := b_5
  replace b_6 : qu ≤ 12 := b_6
  replace b_7 : n_2 ≤ 8 := b_7
  replace b_8 : n_3 ≤ 24 := b_8
  replace b_9 : n_4 ≤ 24 := b_9
  replace b_10 : il ≤ 700 := b_10
  replace b_11 : nx ≤ 701 := b_11
  replace b_12 : st ≤ 701 := b_12
  have h_2 : Φ x = some (o_ 14 [.int v_1, .ref (x + 1), .ref (x + 2), .int v_2, .int v_3, .int (nI n_1), .int v_4, .int v_5, .ref (x + 3), .ref (x + 4), .int v_6, .long v_7, .ref (x + 5), .int (nI fl), .int v_8, .long v_9, .long v_10, .long v_11, .long v_12, .ref (x + 6), .ref (x + 7), .int (nI pe), .ref (x + 8), .int (nI le), .ref (x + 9), .ref (x + 10), .int (nI qu), .ref (x + 11), .ref (x + 12), .ref (x + 13), .ref (x + 14), .ref (x + 15), .ref (x + 16), .int (nI n_2), .long v_13, .ref (x + 17), .ref (x + 18), .ref (x + 19), .ref (x + 20), .ref (x + 21), .ref (x + 22), .int (nI n_3), .ref (x + 23), .ref (x + 24), .int (nI n_4), .ref (x + 25), .int (nI il), .int (nI nx), .int ec, .int ep, .int kn, .int (nI st), .int nu, .long va]) := h_1
  refine z_put (ref := "FlowExporterModel") (C := RX12) (T := TX12) (N := 54) (ci := 14) (v := .int 0) B hu_X12_ranked_X12 tyX12 tyX12_ok nmX12 rfl 0 (Nat.le_of_ble_eq_true rfl) hv_X12_ranked_1 rfl (Or.inl rfl) h_2 hx rfl rfl (Nat.le_of_ble_eq_true rfl) dX12_ranked_2 (fun Φ1 hΦ1 => ?_)
  have h_3 : Φ1 x = some (o_ 14 [.int 0, .ref (x + 1), .ref (x + 2), .int v_2, .int v_3, .int (nI n_1), .int v_4, .int v_5, .ref (x + 3), .ref (x + 4), .int v_6, .long v_7, .ref (x + 5), .int (nI fl), .int v_8, .long v_9, .long v_10, .long v_11, .long v_12, .ref (x + 6), .ref (x + 7), .int (nI pe), .ref (x + 8), .int (nI le), .ref (x + 9), .ref (x + 10), .int (nI qu), .ref (x + 11), .ref (x + 12), .ref (x + 13), .ref (x + 14), .ref (x + 15), .ref (x + 16), .int (nI n_2), .long v_13, .ref (x + 17), .ref (x + 18), .ref (x + 19), .ref (x + 20), .ref (x + 21), .ref (x + 22), .int (nI n_3), .ref (x + 23), .ref (x + 24), .int (nI n_4), .ref (x + 25), .int (nI il), .int (nI nx), .int ec, .int ep, .int kn, .int (nI st), .int nu, .long va]) := fset_at hΦ1
  have hI1 : Im G x (rd, NN, fl, pe, le, nx, il, qu, kn, ec, nu, va, st, ep) Φ1 := Im.put0 hI hΦ1 ⟨0, v_2, v_3, n_1, v_4, v_5, v_6, v_7, v_8, v_9, v_10, v_11, v_12, n_2, v_13, n_3, n_4, rfl, b_13, b_1, b_2, b_3, b_4, b_5, b_6, b_7, b_8, b_9, b_10, b_11, b_12⟩
  refine z_aload_n B dX12_ranked_5 rfl 0 rfl ?_
  refine z_iload_n B dX12_ranked_6 rfl 2 rfl ?_
  refine z_callS (As := [.int b]) (rest := [.ref x]) B (r_isWhat G l Φ1 sz x rd fl pe le nx il qu kn ec nu va st ep b hx hI1 ) (va_cwS 1 B.1.2.2.2.2 gX12_ranked_X12_isWhat rfl rfl rfl (by decide +kernel) ⟨Nat.le_of_ble_eq_true rfl, Nat.le_of_ble_eq_true rfl⟩) rfl rfl (Nat.le_of_ble_eq_true rfl) dX12_ranked_7 ⟨Nat.le_of_ble_eq_true rfl, Nat.le_of_ble_eq_true rfl⟩ (fun r_1 Φ2 sz1 st1 hp1 hs1 => ?_)
  obtain ⟨ha1, hq1, hI2, hF1⟩ := hp1
  subst sz1
  replace hI2 : Im G x (rd, NN, fl, pe, le, nx, il, qu, kn, ec, nu, va, st, ep) Φ2 := hI2
  rcases ha1 with rfl | ⟨rfl, n_5, b_14, rfl⟩
  · replace hs1 : st1 = [.int 0, .ref x] := hs1
    subst st1
    refine z_if_ne (tgt := 17) B dX12_ranked_10 rfl (fun h9 => absurd (by decide) h9) (fun c_1 => ?_)
    refine z_iconst (v := 1) B dX12_ranked_13 rfl ?_
    refine z_goto (tgt := 18) B dX12_ranked_14 rfl ?_
    refine z_iconst (v := 1) B dX12_ranked_18 rfl ?_
    have h_4 : Φ2 x = some (o_ 14 [.int 0, .ref (x + 1), .ref (x + 2), .int v_2, .int v_3, .int (nI n_1), .int v_4, .int v_5, .ref (x + 3), .ref (x + 4), .int v_6, .long v_7, .ref (x + 5), .int (nI fl), .int v_8, .long v_9, .long v_10, .long v_11, .long v_12, .ref (x + 6), .ref (x + 7), .int (nI pe), .ref (x + 8), .int (nI le), .ref (x + 9), .ref (x + 10), .int (nI qu), .ref (x + 11), .ref (x + 12), .ref (x + 13), .ref (x + 14), .ref (x + 15), .ref (x + 16), .int (nI n_2), .long v_13, .ref (x + 17), .ref (x + 18), .ref (x + 19), .ref (x + 20), .ref (x + 21), .ref (x + 22), .int (nI n_3), .ref (x + 23), .ref (x + 24), .int (nI n_4), .ref (x + 25), .int (nI il), .int (nI nx), .int ec, .int ep, .int kn, .int (nI st), .int nu, .long va]) := ((hF1 x (fun j9 h8 h7 => (show False from h7).elim)).trans h_3)
    refine z_callV (As := [.int 1, .int 1]) (rest := []) B (r_throwsIf G l Φ2 sz x rd fl pe le nx il qu kn ec nu va st ep 1 1 hx hI2 (by decide)) (cwV 2 B.1.2.2.2.2 gX12_ranked_X12_throwsIf rfl rfl rfl (by decide +kernel) ⟨Nat.le_of_ble_eq_true rfl, Nat.le_of_ble_eq_true rfl⟩) h_4 rfl rfl rfl rfl (Nat.le_of_ble_eq_true rfl) dX12_ranked_19 ⟨Nat.le_of_ble_eq_true rfl, Nat.le_of_ble_eq_true rfl⟩ (fun r_2 Φ3 sz2 st2 hp2 hs2 => ?_)
    obtain ⟨rfl, hq2, hI3, hF2⟩ := hp2
    subst sz2
    replace hs2 : st2 = [.int 1] := hs2
    subst st2
    replace hI3 : Im G x (rd, NN, fl, pe, le, nx, il, qu, kn, ec, nu, va, st, ep) Φ3 := hI3
    refine z_if_eq (tgt := 27) B dX12_ranked_22 rfl (fun h9 => absurd h9 (by decide)) (fun c_2 => ?_)
    refine z_iconst (v := 0) B dX12_ranked_25 rfl ?_
    exact z_ret_i B dX12_ranked_26 ⟨⟨_, rfl⟩, rfl, hI3, (fun b9 h9 => ((hF2 b9 h9).trans ((hF1 b9 (fun j9 h8 h7 => (show False from h7).elim)).trans ((fset_fr hΦ1 (fun h8 => h9 (0) h8 (show 0 = 0 by decide))).trans rfl))))⟩
  · replace hs1 : st1 = [.int 1, .ref x] := hs1
    subst st1
    replace b_14 : n_5 < 2 := b_14
    refine z_if_ne (tgt := 17) B dX12_ranked_10 rfl (fun c_3 => ?_) (fun h9 => absurd h9 (by decide))
    refine z_iconst (v := 0) B dX12_ranked_17 rfl ?_
    refine z_iconst (v := 1) B dX12_ranked_18 rfl ?_
    have h_5 : Φ2 x = some (o_ 14 [.int 0, .ref (x + 1), .ref (x + 2), .int v_2, .int v_3, .int (nI n_1), .int v_4, .int v_5, .ref (x + 3), .ref (x + 4), .int v_6, .long v_7, .ref (x + 5), .int (nI fl), .int v_8, .long v_9, .long v_10, .long v_11, .long v_12, .ref (x + 6), .ref (x + 7), .int (nI pe), .ref (x + 8), .int (nI le), .ref (x + 9), .ref (x + 10), .int (nI qu), .ref (x + 11), .ref (x + 12), .ref (x + 13), .ref (x + 14), .ref (x + 15), .ref (x + 16), .int (nI n_2), .long v_13, .ref (x + 17), .ref (x + 18), .ref (x + 19), .ref (x + 20), .ref (x + 21), .ref (x + 22), .int (nI n_3), .ref (x + 23), .ref (x + 24), .int (nI n_4), .ref (x + 25), .int (nI il), .int (nI nx), .int ec, .int ep, .int kn, .int (nI st), .int nu, .long va]) := ((hF1 x (fun j9 h8 h7 => (show False from h7).elim)).trans h_3)
    refine z_callV (As := [.int 0, .int 1]) (rest := []) B (r_throwsIf G l Φ2 sz x rd fl pe le nx il qu kn ec nu va st ep 0 1 hx hI2 (by decide)) (cwV 2 B.1.2.2.2.2 gX12_ranked_X12_throwsIf rfl rfl rfl (by decide +kernel) ⟨Nat.le_of_ble_eq_true rfl, Nat.le_of_ble_eq_true rfl⟩) h_5 rfl rfl rfl rfl (Nat.le_of_ble_eq_true rfl) dX12_ranked_19 ⟨Nat.le_of_ble_eq_true rfl, Nat.le_of_ble_eq_true rfl⟩ (fun r_3 Φ4 sz3 st3 hp3 hs3 => ?_)
    obtain ⟨rfl, hq3, hI4, hF3⟩ := hp3
    subst sz3
    replace hs3 : st3 = [.int 0] := hs3
    subst st3
    replace hI4 : Im G x (rd, NN, fl, pe, le, nx, il, qu, kn, ec, nu, va, st, ep) Φ4 := hI4
    refine z_if_eq (tgt := 27) B dX12_ranked_22 rfl (fun c_4 => ?_) (fun h9 => absurd (by decide) h9)
    refine z_iconst (v := 0) B dX12_ranked_27 rfl ?_
    refine z_istore_n (lv' := [(3, .int 0), (0, .ref x), (1, .int a), (2, .int (nI n_5))]) B dX12_ranked_28 rfl (Nat.le_of_ble_eq_true rfl) rfl ?_
    refine z_lv [0, 1, 2, 3] rfl ?_
    refine z_loop (α := Nat) (fun (a9 : Nat) Φi => Im G x (rd, NN, fl, pe, le, nx, il, qu, kn, ec, nu, va, st, ep) Φi ∧ Fr x (fun j9 => False) Φ4 Φi ∧ (a9 ≤ 24) ∧ True) (fun a9 => [(3, .int (nI a9)), (0, .ref x), (1, .int a), (2, .int (nI n_5))]) (fun a9 => 24 - a9) ?_ (0) ⟨hI4, fun _ _ => rfl, (show 0 ≤ 24 by omega), trivial⟩
    rintro i_1 Φl1 ⟨hI5, hF4, b_15, -⟩ ih1
    replace hI5 : Im G x (rd, NN, fl, pe, le, nx, il, qu, kn, ec, nu, va, st, ep) Φl1 := hI5
    replace b_15 : i_1 ≤ 24 := b_15
    show Z p9 l e9 _ s9 m9 _ w9 t9 k9 _ G 10 29 [(3, .int (nI i_1)), (0, .ref x), (1, .int a), (2, .int (nI n_5))] [] Φl1 _ _ _
    refine z_iload_n B dX12_ranked_29 rfl 0 rfl ?_
    refine z_aload_n B dX12_ranked_30 rfl 1 rfl ?_
    obtain ⟨v_14, v_15, v_16, n_6, v_17, v_18, v_19, v_20, v_21, v_22, v_23, v_24, v_25, n_7, v_26, n_8, n_9, h_6, b_28, b_16, b_17, b_18, b_19, b_20, b_21, b_22, b_23, b_24, b_25, b_26, b_27⟩ := im0 hI5
    replace b_16 : 1 ≤ n_6 := b_16
    replace b_17 : n_6 ≤ 1024 := b_17
    replace b_18 : fl ≤ 12 := b_18
    replace b_19 : pe ≤ 24 := b_19
    replace b_20 : le ≤ 700 := b_20
    replace b_21 : qu ≤ 12 := b_21
    replace b_22 : n_7 ≤ 8 := b_22
    replace b_23 : n_8 ≤ 24 := b_23
    replace b_24 : n_9 ≤ 24 := b_24
    replace b_25 : il ≤ 700 := b_25
    replace b_26 : nx ≤ 701 := b_26
    replace b_27 : st ≤ 701 := b_27
    have h_7 : Φl1 x = some (o_ 14 [.int v_14, .ref (x + 1), .ref (x + 2), .int v_15, .int v_16, .int (nI n_6), .int v_17, .int v_18, .ref (x + 3), .ref (x + 4), .int v_19, .long v_20, .ref (x + 5), .int (nI fl), .int v_21, .long v_22, .long v_23, .long v_24, .long v_25, .ref (x + 6), .ref (x + 7), .int (nI pe), .ref (x + 8), .int (nI le), .ref (x + 9), .ref (x + 10), .int (nI qu), .ref (x + 11), .ref (x + 12), .ref (x + 13), .ref (x + 14), .ref (x + 15), .ref (x + 16), .int (nI n_7), .long v_26, .ref (x + 17), .ref (x + 18), .ref (x + 19), .ref (x + 20), .ref (x + 21), .ref (x + 22), .int (nI n_8), .ref (x + 23), .ref (x + 24), .int (nI n_9), .ref (x + 25), .int (nI il), .int (nI nx), .int ec, .int ep, .int kn, .int (nI st), .int nu, .long va]) := h_6
    refine z_get (ref := "FlowExporterModel") (C := RX12) (T := TX12) (N := 54) (ci := 14) (v := .int (nI n_8)) B hu_X12_ranked_X12 rfl 41 (Nat.le_of_ble_eq_true rfl) hv_X12_ranked_148 rfl h_7 rfl dX12_ranked_31 ?_
    refine z_icmp_ge (tgt := 129) B dX12_ranked_34 rfl (fun c_5 => ?_) (fun c_5 => ?_)
    · have e_1 : n_8 ≤ i_1 := (nI_leI (a := n_8) (b := i_1) (by omega) (by omega)).mp c_5
      refine z_iconst (v := (-1)) B dX12_ranked_129 rfl ?_
      exact z_ret_i B dX12_ranked_130 ⟨⟨_, rfl⟩, rfl, hI5, (fun b9 h9 => ((hF4 b9 (fun j9 h8 h7 => (show False from h7).elim)).trans ((hF3 b9 h9).trans ((hF1 b9 (fun j9 h8 h7 => (show False from h7).elim)).trans ((fset_fr hΦ1 (fun h8 => h9 (0) h8 (show 0 = 0 by decide))).trans rfl)))))⟩
    · have e_2 : ¬ (n_8 ≤ i_1) := fun h9 => c_5 ((nI_leI (a := n_8) (b := i_1) (by omega) (by omega)).mpr h9)
      refine z_iconst (v := 0) B dX12_ranked_37 rfl ?_
      refine z_istore (lv' := [(4, .int 0), (3, .int (nI i_1)), (0, .ref x), (1, .int a), (2, .int (nI n_5))]) B dX12_ranked_38 (Nat.le_of_ble_eq_true rfl) rfl ?_
      refine z_iconst (v := 0) B dX12_ranked_40 rfl ?_
      refine z_istore (lv' := [(5, .int 0), (4, .int 0), (3, .int (nI i_1)), (0, .ref x), (1, .int a), (2, .int (nI n_5))]) B dX12_ranked_41 (Nat.le_of_ble_eq_true rfl) rfl ?_
      refine z_lv [0, 1, 2, 3, 4, 5] rfl ?_
      refine z_loop (α := Nat × Int32) (fun (a9 : Nat × Int32) Φi => Im G x (rd, NN, fl, pe, le, nx, il, qu, kn, ec, nu, va, st, ep) Φi ∧ Fr x (fun j9 => False) Φl1 Φi ∧ (a9.1 ≤ 24) ∧ True) (fun a9 => [(5, .int (nI (a9.1))), (4, .int a9.2), (3, .int (nI i_1)), (0, .ref x), (1, .int a), (2, .int (nI n_5))]) (fun a9 => 24 - a9.1) ?_ (0, 0) ⟨hI5, fun _ _ => rfl, (show 0 ≤ 24 by omega), trivial⟩
      rintro ⟨i_2, i_3⟩ Φl2 ⟨hI6, hF5, b_29, -⟩ ih2
      replace hI6 : Im G x (rd, NN, fl, pe, le, nx, il, qu, kn, ec, nu, va, st, ep) Φl2 := hI6
      replace b_29 : i_2 ≤ 24 := b_29
      show Z p9 l e9 _ s9 m9 _ w9 t9 k9 _ G 10 43 [(5, .int (nI i_2)), (4, .int i_3), (3, .int (nI i_1)), (0, .ref x), (1, .int a), (2, .int (nI n_5))] [] Φl2 _ _ _
      refine z_iload B dX12_ranked_43 0 rfl ?_
      refine z_aload_n B dX12_ranked_45 rfl 3 rfl ?_
      have h_8 : Φl2 x = some (o_ 14 [.int v_14, .ref (x + 1), .ref (x + 2), .int v_15, .int v_16, .int (nI n_6), .int v_17, .int v_18, .ref (x + 3), .ref (x + 4), .int v_19, .long v_20, .ref (x + 5), .int (nI fl), .int v_21, .long v_22, .long v_23, .long v_24, .long v_25, .ref (x + 6), .ref (x + 7), .int (nI pe), .ref (x + 8), .int (nI le), .ref (x + 9), .ref (x + 10), .int (nI qu), .ref (x + 11), .ref (x + 12), .ref (x + 13), .ref (x + 14), .ref (x + 15), .ref (x + 16), .int (nI n_7), .long v_26, .ref (x + 17), .ref (x + 18), .ref (x + 19), .ref (x + 20), .ref (x + 21), .ref (x + 22), .int (nI n_8), .ref (x + 23), .ref (x + 24), .int (nI n_9), .ref (x + 25), .int (nI il), .int (nI nx), .int ec, .int ep, .int kn, .int (nI st), .int nu, .long va]) := ((hF5 x (fun j9 h8 h7 => (show False from h7).elim)).trans h_7)
      refine z_get (ref := "FlowExporterModel") (C := RX12) (T := TX12) (N := 54) (ci := 14) (v := .int (nI n_8)) B hu_X12_ranked_X12 rfl 41 (Nat.le_of_ble_eq_true rfl) hv_X12_ranked_148 rfl h_8 rfl dX12_ranked_46 ?_
      refine z_icmp_ge (tgt := 115) B dX12_ranked_49 rfl (fun c_6 => ?_) (fun c_6 => ?_)
      · have e_3 : n_8 ≤ i_2 := (nI_leI (a := n_8) (b := i_2) (by omega) (by omega)).mp c_6
        refine z_iload B dX12_ranked_115 1 rfl ?_
        refine z_iload_n B dX12_ranked_117 rfl 4 rfl ?_
        refine z_icmp_ne (tgt := 123) B dX12_ranked_118 rfl (fun c_7 => ?_) (fun c_7 => ?_)
        · refine z_iinc (k := 2) (v := nI (i_1 + 1)) (lv' := [(3, .int (nI (i_1 + 1))), (5, .int (nI i_2)), (4, .int i_3), (0, .ref x), (1, .int a), (2, .int (nI n_5))]) B dX12_ranked_123 rfl (nI_add i_1 1) (Nat.le_of_ble_eq_true rfl) rfl ?_
          refine z_goto (tgt := 29) B dX12_ranked_126 rfl ?_
          refine z_lv [0, 3, 4, 5] rfl ?_
          exact ih1 (i_1 + 1) Φl2 (show 24 - (i_1 + 1) < 24 - i_1 by omega) ⟨hI6, (fun b9 h9 => ((hF5 b9 (fun j9 h8 h7 => (show False from h7).elim)).trans ((hF4 b9 (fun j9 h8 h7 => (show False from h7).elim)).trans rfl))), (show (i_1 + 1) ≤ 24 by omega), trivial⟩
        · refine z_iload_n B dX12_ranked_121 rfl 2 rfl ?_
          exact z_ret_i B dX12_ranked_122 ⟨⟨_, rfl⟩, rfl, hI6, (fun b9 h9 => ((hF5 b9 (fun j9 h8 h7 => (show False from h7).elim)).trans ((hF4 b9 (fun j9 h8 h7 => (show False from h7).elim)).trans ((hF3 b9 h9).trans ((hF1 b9 (fun j9 h8 h7 => (show False from h7).elim)).trans ((fset_fr hΦ1 (fun h8 => h9 (0) h8 (show 0 = 0 by decide))).trans rfl))))))⟩
      · have e_4 : ¬ (n_8 ≤ i_2) := fun h9 => c_6 ((nI_leI (a := n_8) (b := i_2) (by omega) (by omega)).mpr h9)
        refine z_aload_n B dX12_ranked_52 rfl 3 rfl ?_
        refine z_get (ref := "FlowExporterModel") (C := RX12) (T := TX12) (N := 54) (ci := 14) (v := .ref (x + 21)) B hu_X12_ranked_X12 rfl 39 (Nat.le_of_ble_eq_true rfl) hv_X12_ranked_75 rfl h_8 rfl dX12_ranked_53 ?_
        refine z_iconst (v := 2) B dX12_ranked_56 rfl ?_
        refine z_iload B dX12_ranked_57 0 rfl ?_
        refine z_imul B dX12_ranked_59 ?_
        refine z_top (st1 := [.int (nI (2 * i_2)), .ref (x + 21)]) (congrArg (fun w9 : Int32 => ([.int w9, .ref (x + 21)] : List Value)) (nI_mul 2 i_2)) ?_
        refine z_iload_n B dX12_ranked_60 rfl 5 rfl ?_
        refine z_iadd B dX12_ranked_61 ?_
        refine z_top (st1 := [.int (nI (2 * i_2 + n_5)), .ref (x + 21)]) (congrArg (fun w9 : Int32 => ([.int w9, .ref (x + 21)] : List Value)) (nI_add (2 * i_2) n_5)) ?_
        obtain ⟨f_1, h_9⟩ := imk (k := 21) hI6
        have h_10 : Φl2 (x + 21) = some (al_ G 48 f_1) := h_9
        refine z_lald B h_10 (vp_in_nI (by omega) (by omega)) dX12_ranked_62 ?_
        refine z_fl (fun v_27 => ?_)
        refine z_lstore (lv' := [(6, .long v_27), (5, .int (nI i_2)), (4, .int i_3), (3, .int (nI i_1)), (0, .ref x), (1, .int a), (2, .int (nI n_5))]) B dX12_ranked_63 (Nat.le_of_ble_eq_true rfl) rfl ?_
        refine z_aload_n B dX12_ranked_65 rfl 4 rfl ?_
        refine z_get (ref := "FlowExporterModel") (C := RX12) (T := TX12) (N := 54) (ci := 14) (v := .ref (x + 21)) B hu_X12_ranked_X12 rfl 39 (Nat.le_of_ble_eq_true rfl) hv_X12_ranked_75 rfl h_8 rfl dX12_ranked_66 ?_
        refine z_iconst (v := 2) B dX12_ranked_69 rfl ?_
        refine z_iload_n B dX12_ranked_70 rfl 3 rfl ?_
        refine z_imul B dX12_ranked_71 ?_
        refine z_top (st1 := [.int (nI (2 * i_1)), .ref (x + 21)]) (congrArg (fun w9 : Int32 => ([.int w9, .ref (x + 21)] : List Value)) (nI_mul 2 i_1)) ?_
        refine z_iload_n B dX12_ranked_72 rfl 6 rfl ?_
        refine z_iadd B dX12_ranked_73 ?_
        refine z_top (st1 := [.int (nI (2 * i_1 + n_5)), .ref (x + 21)]) (congrArg (fun w9 : Int32 => ([.int w9, .ref (x + 21)] : List Value)) (nI_add (2 * i_1) n_5)) ?_
        refine z_lald B h_10 (vp_in_nI (by omega) (by omega)) dX12_ranked_74 ?_
        refine z_fl (fun v_28 => ?_)
        refine z_lstore (lv' := [(8, .long v_28), (6, .long v_27), (5, .int (nI i_2)), (4, .int i_3), (3, .int (nI i_1)), (0, .ref x), (1, .int a), (2, .int (nI n_5))]) B dX12_ranked_75 (Nat.le_of_ble_eq_true rfl) rfl ?_
        refine z_iload B dX12_ranked_77 3 rfl ?_
        refine z_lload B dX12_ranked_79 1 rfl ?_
        refine z_lload B dX12_ranked_81 0 rfl ?_
        refine z_lcmp B dX12_ranked_83 ?_
        refine z_fi (fun v_29 => ?_)
        refine z_if_gt (tgt := 101) B dX12_ranked_84 rfl (fun c_8 => ?_) (fun c_8 => ?_)
        · obtain ⟨n_10, e_6, e_5, rfl⟩ := nI_ofp (Int32.not_le.mpr c_8)
          refine z_iconst (v := 1) B dX12_ranked_101 rfl ?_
          refine z_goto (tgt := 106) B dX12_ranked_102 rfl ?_
          refine z_iadd B dX12_ranked_106 ?_
          refine z_fi (fun v_30 => ?_)
          refine z_istore (lv' := [(4, .int v_30), (8, .long v_28), (6, .long v_27), (5, .int (nI i_2)), (3, .int (nI i_1)), (0, .ref x), (1, .int a), (2, .int (nI n_5))]) B dX12_ranked_107 (Nat.le_of_ble_eq_true rfl) rfl ?_
          refine z_iinc (k := 3) (v := nI (i_2 + 1)) (lv' := [(5, .int (nI (i_2 + 1))), (4, .int v_30), (8, .long v_28), (6, .long v_27), (3, .int (nI i_1)), (0, .ref x), (1, .int a), (2, .int (nI n_5))]) B dX12_ranked_109 rfl (nI_add i_2 1) (Nat.le_of_ble_eq_true rfl) rfl ?_
          refine z_goto (tgt := 43) B dX12_ranked_112 rfl ?_
          refine z_lv [0, 1, 4, 5, 6, 7] rfl ?_
          exact ih2 (i_2 + 1, v_30) Φl2 (show 24 - (i_2 + 1) < 24 - i_2 by omega) ⟨hI6, (fun b9 h9 => ((hF5 b9 (fun j9 h8 h7 => (show False from h7).elim)).trans rfl)), (show (i_2 + 1) ≤ 24 by omega), trivial⟩
        · refine z_lload B dX12_ranked_87 1 rfl ?_
          refine z_lload B dX12_ranked_89 0 rfl ?_
          refine z_lcmp B dX12_ranked_91 ?_
          refine z_fi (fun v_31 => ?_)
          refine z_if_ne (tgt := 105) B dX12_ranked_92 rfl (fun c_9 => ?_) (fun c_9 => ?_)
          · refine z_iconst (v := 0) B dX12_ranked_105 rfl ?_
            refine z_iadd B dX12_ranked_106 ?_
            refine z_fi (fun v_32 => ?_)
            refine z_istore (lv' := [(4, .int v_32), (8, .long v_28), (6, .long v_27), (5, .int (nI i_2)), (3, .int (nI i_1)), (0, .ref x), (1, .int a), (2, .int (nI n_5))]) B dX12_ranked_107 (Nat.le_of_ble_eq_true rfl) rfl ?_
            refine z_iinc (k := 3) (v := nI (i_2 + 1)) (lv' := [(5, .int (nI (i_2 + 1))), (4, .int v_32), (8, .long v_28), (6, .long v_27), (3, .int (nI i_1)), (0, .ref x), (1, .int a), (2, .int (nI n_5))]) B dX12_ranked_109 rfl (nI_add i_2 1) (Nat.le_of_ble_eq_true rfl) rfl ?_
            refine z_goto (tgt := 43) B dX12_ranked_112 rfl ?_
            refine z_lv [0, 1, 4, 5, 6, 7] rfl ?_
            exact ih2 (i_2 + 1, v_32) Φl2 (show 24 - (i_2 + 1) < 24 - i_2 by omega) ⟨hI6, (fun b9 h9 => ((hF5 b9 (fun j9 h8 h7 => (show False from h7).elim)).trans rfl)), (show (i_2 + 1) ≤ 24 by omega), trivial⟩
          · refine z_iload B dX12_ranked_95 2 rfl ?_
            refine z_iload_n B dX12_ranked_97 rfl 4 rfl ?_
            refine z_icmp_ge (tgt := 105) B dX12_ranked_98 rfl (fun c_10 => ?_) (fun c_10 => ?_)
            · have e_7 : i_1 ≤ i_2 := (nI_leI (a := i_1) (b := i_2) (by omega) (by omega)).mp c_10
              refine z_iconst (v := 0) B dX12_ranked_105 rfl ?_
              refine z_iadd B dX12_ranked_106 ?_
              refine z_fi (fun v_33 => ?_)
              refine z_istore (lv' := [(4, .int v_33), (8, .long v_28), (6, .long v_27), (5, .int (nI i_2)), (3, .int (nI i_1)), (0, .ref x), (1, .int a), (2, .int (nI n_5))]) B dX12_ranked_107 (Nat.le_of_ble_eq_true rfl) rfl ?_
              refine z_iinc (k := 3) (v := nI (i_2 + 1)) (lv' := [(5, .int (nI (i_2 + 1))), (4, .int v_33), (8, .long v_28), (6, .long v_27), (3, .int (nI i_1)), (0, .ref x), (1, .int a), (2, .int (nI n_5))]) B dX12_ranked_109 rfl (nI_add i_2 1) (Nat.le_of_ble_eq_true rfl) rfl ?_
              refine z_goto (tgt := 43) B dX12_ranked_112 rfl ?_
              refine z_lv [0, 1, 4, 5, 6, 7] rfl ?_
              exact ih2 (i_2 + 1, v_33) Φl2 (show 24 - (i_2 + 1) < 24 - i_2 by omega) ⟨hI6, (fun b9 h9 => ((hF5 b9 (fun j9 h8 h7 => (show False from h7).elim)).trans rfl)), (show (i_2 + 1) ≤ 24 by omega), trivial⟩
            · have e_8 : ¬ (i_1 ≤ i_2) := fun h9 => c_10 ((nI_leI (a := i_1) (b := i_2) (by omega) (by omega)).mpr h9)
              refine z_iconst (v := 1) B dX12_ranked_101 rfl ?_
              refine z_goto (tgt := 106) B dX12_ranked_102 rfl ?_
              refine z_iadd B dX12_ranked_106 ?_
              refine z_fi (fun v_34 => ?_)
              refine z_istore (lv' := [(4, .int v_34), (8, .long v_28), (6, .long v_27), (5, .int (nI i_2)), (3, .int (nI i_1)), (0, .ref x), (1, .int a), (2, .int (nI n_5))]) B dX12_ranked_107 (Nat.le_of_ble_eq_true rfl) rfl ?_
              refine z_iinc (k := 3) (v := nI (i_2 + 1)) (lv' := [(5, .int (nI (i_2 + 1))), (4, .int v_34), (8, .long v_28), (6, .long v_27), (3, .int (nI i_1)), (0, .ref x), (1, .int a), (2, .int (nI n_5))]) B dX12_ranked_109 rfl (nI_add i_2 1) (Nat.le_of_ble_eq_true rfl) rfl ?_
              refine z_goto (tgt := 43) B dX12_ranked_112 rfl ?_
              refine z_lv [0, 1, 4, 5, 6, 7] rfl ?_
              exact ih2 (i_2 + 1, v_34) Φl2 (show 24 - (i_2 + 1) < 24 - i_2 by omega) ⟨hI6, (fun b9 h9 => ((hF5 b9 (fun j9 h8 h7 => (show False from h7).elim)).trans rfl)), (show (i_2 + 1) ≤ 24 by omega), trivial⟩

theorem hu_X12_appendBytes_X12 : ∀ w ∈ u_ws RX12 TX12 54, w ∈ wsX12_appendBytes := fun _ h => List.mem_cons_of_mem _ (List.mem_append_left _ (List.mem_append_right _ (h)))

theorem hv_X12_appendBytes_88 : Cond.fieldLink RX12 88 "FlowExporterModel" (TX12 45).2.1 (TX12 45).2.2.1 ∈ wsX12_appendBytes := List.mem_cons_of_mem _ (List.mem_append_left _ (List.mem_append_left _ (List.mem_of_getElem? (i := 0) rfl)))

theorem hv_X12_appendBytes_441 : Cond.fieldLink RX12 441 "FlowExporterModel" (TX12 46).2.1 (TX12 46).2.2.1 ∈ wsX12_appendBytes := List.mem_cons_of_mem _ (List.mem_append_left _ (List.mem_append_left _ (List.mem_of_getElem? (i := 1) rfl)))

set_option maxHeartbeats 4000000 in
set_option maxRecDepth 100000 in
theorem r_appendBytes (G : EnvG) (l : Launch) (Φ : Hm) (sz x : Nat) (rd : (Nat → Int32) → Prop) (fl : Nat) (pe : Nat) (le : Nat) (nx : Nat) (il : Nat) (qu : Nat) (kn : Int32) (ec : Int32) (nu : Int32) (va : Int64) (st : Nat) (ep : Int32) (a : Int32) (hx : G.2.2.2 ≤ x) (hI : Im G x (rd, NN, fl, pe, le, nx, il, qu, kn, ec, nu, va, st, ep) Φ) (hl : il + 4 ≤ 700) : Ct G l yX12_appendBytes wsX12_appendBytes ({ frames := 0, cells := 0, slots := 0, locals := 0 }) 0 0 [.ref x, .int a] Φ sz (fun v Φ1 sz1 => (v = none) ∧ sz1 = sz ∧ (∃ (il1 : Nat), (il1 = il + 4) ∧ Im G x (rd, NN, fl, pe, le, nx, il1, qu, kn, ec, nu, va, st, ep) Φ1) ∧ Fr x (fun j9 => j9 = 0 ∨ j9 = 25) Φ Φ1) := by
  refine Ct.of (cc := cX12_appendBytes) (maxL := 3) (ret := none) (by decide) rfl (Nat.le_of_ble_eq_true rfl) ?_
  intro p9 e9 s9 m9 w9 t9 k9 B
  show Z p9 l e9 _ s9 m9 _ w9 t9 k9 _ G 3 0 [(0, .ref x), (1, .int a)] [] Φ sz 0 0
  refine z_bipush (v := 24) B dX12_appendBytes_0 rfl ?_
  refine z_istore_n (lv' := [(2, .int 24), (0, .ref x), (1, .int a)]) B dX12_appendBytes_2 rfl (Nat.le_of_ble_eq_true rfl) rfl ?_
  refine z_lv (lv' := [(2, .int (nI (8 * 4) - 8)), (0, .ref x), (1, .int a)]) [0, 1, 2] (by rw [show nI (8 * 4) - 8 = (24 : Int32) by decide]; first | done | rfl) ?_
  refine z_loop (α := Nat × Nat) (fun (a9 : Nat × Nat) Φi => Im G x (rd, NN, fl, pe, le, nx, a9.2, qu, kn, ec, nu, va, st, ep) Φi ∧ Fr x (fun j9 => j9 = 0 ∨ j9 = 25) Φ Φi ∧ (a9.1 ≤ 4) ∧ (a9.2 + a9.1 = il + 4) ∧ True) (fun a9 => [(2, .int (nI (8 * (a9.1)) - 8)), (0, .ref x), (1, .int a)]) (fun a9 => a9.1) ?_ (4, il) ⟨hI, fun _ _ => rfl, (show 4 ≤ 4 by omega), (show il + 4 = il + 4 by omega), trivial⟩
  rintro ⟨i_1, i_2⟩ Φl1 ⟨hI1, hF1, b_1, b_2, -⟩ ih1
  replace hI1 : Im G x (rd, NN, fl, pe, le, nx, i_2, qu, kn, ec, nu, va, st, ep) Φl1 := hI1
  replace b_1 : i_1 ≤ 4 := b_1
  replace b_2 : i_2 + i_1 = il + 4 := b_2
  show Z p9 l e9 _ s9 m9 _ w9 t9 k9 _ G 3 3 [(2, .int (nI (8 * i_1) - 8)), (0, .ref x), (1, .int a)] [] Φl1 _ _ _
  refine z_iload_n B dX12_appendBytes_3 rfl 0 rfl ?_
  refine z_if_lt (tgt := 36) B dX12_appendBytes_4 rfl (fun c_1 => ?_) (fun c_1 => ?_)
  · have e_1 : i_1 = 0 := (m8_lt (j := i_1) (by omega)).1 c_1
    exact z_ret_v B dX12_appendBytes_36 ⟨rfl, rfl, ⟨i_2, (show i_2 = il + 4 by omega), hI1⟩, (fun b9 h9 => ((hF1 b9 h9).trans rfl))⟩
  · have e_2 : 1 ≤ i_1 := (m8_lt (j := i_1) (by omega)).2 c_1
    refine z_aload_n B dX12_appendBytes_7 rfl 1 rfl ?_
    obtain ⟨v_1, v_2, v_3, n_1, v_4, v_5, v_6, v_7, v_8, v_9, v_10, v_11, v_12, n_2, v_13, n_3, n_4, h_1, b_15, b_3, b_4, b_5, b_6, b_7, b_8, b_9, b_10, b_11, b_12, b_13, b_14⟩ := im0 hI1
    replace b_3 : 1 ≤ n_1 := b_3
    replace b_4 : n_1 ≤ 1024 := b_4
    replace b_5 : fl ≤ 12 := b_5
    replace b_6 : pe ≤ 24 := b_6
    replace b_7 : le ≤ 700 := b_7
    replace b_8 : qu ≤ 12 := b_8
    replace b_9 : n_2 ≤ 8 := b_9
    replace b_10 : n_3 ≤ 24 := b_10
    replace b_11 : n_4 ≤ 24 := b_11
    replace b_12 : i_2 ≤ 700 := b_12
    replace b_13 : nx ≤ 701 := b_13
    replace b_14 : st ≤ 701 := b_14
    have h_2 : Φl1 x = some (o_ 14 [.int v_1, .ref (x + 1), .ref (x + 2), .int v_2, .int v_3, .int (nI n_1), .int v_4, .int v_5, .ref (x + 3), .ref (x + 4), .int v_6, .long v_7, .ref (x + 5), .int (nI fl), .int v_8, .long v_9, .long v_10, .long v_11, .long v_12, .ref (x + 6), .ref (x + 7), .int (nI pe), .ref (x + 8), .int (nI le), .ref (x + 9), .ref (x + 10), .int (nI qu), .ref (x + 11), .ref (x + 12), .ref (x + 13), .ref (x + 14), .ref (x + 15), .ref (x + 16), .int (nI n_2), .long v_13, .ref (x + 17), .ref (x + 18), .ref (x + 19), .ref (x + 20), .ref (x + 21), .ref (x + 22), .int (nI n_3), .ref (x + 23), .ref (x + 24), .int (nI n_4), .ref (x + 25), .int (nI i_2), .int (nI nx), .int ec, .int ep, .int kn, .int (nI st), .int nu, .long va]) := h_1
    refine z_get (ref := "FlowExporterModel") (C := RX12) (T := TX12) (N := 54) (ci := 14) (v := .ref (x + 25)) B hu_X12_appendBytes_X12 rfl 45 (Nat.le_of_ble_eq_true rfl) hv_X12_appendBytes_88 rfl h_2 rfl dX12_appendBytes_8 ?_
    refine z_aload_n B dX12_appendBytes_11 rfl 1 rfl ?_
    refine z_get (ref := "FlowExporterModel") (C := RX12) (T := TX12) (N := 54) (ci := 14) (v := .int (nI i_2)) B hu_X12_appendBytes_X12 rfl 46 (Nat.le_of_ble_eq_true rfl) hv_X12_appendBytes_441 rfl h_2 rfl dX12_appendBytes_12 ?_
    refine z_iload_n B dX12_appendBytes_15 rfl 2 rfl ?_
    refine z_iload_n B dX12_appendBytes_16 rfl 0 rfl ?_
    refine z_ishr B dX12_appendBytes_17 ?_
    refine z_fi (fun v_14 => ?_)
    refine z_i2b (v := v_14.toInt8.toInt32) B dX12_appendBytes_18 rfl ?_
    refine z_fi (fun v_15 => ?_)
    obtain ⟨f_1, h_3, r_1⟩ := imk (k := 25) hI1
    have h_4 : Φl1 (x + 25) = some (ab_ G 700 f_1) := h_3
    refine z_bast B h_4 (Nat.le_trans hx (Nat.le_add_right x 25)) (vp_in_nI (by omega) (by omega)) dX12_appendBytes_19 (fun Φ1 hΦ1 => ?_)
    have h_5 : Φ1 (x + 25) = some (ab_ G 700 (upd f_1 (nI i_2).toNatClampNeg (vp_nar .byte v_15))) := fset_at hΦ1
    have hI2 : Im G x (rd, NN, fl, pe, le, nx, i_2, qu, kn, ec, nu, va, st, ep) Φ1 := Im.put (k := 25) hI1 hΦ1 ⟨_, rfl, upd_fit r_1⟩
    refine z_aload_n B dX12_appendBytes_20 rfl 1 rfl ?_
    refine z_dup B dX12_appendBytes_21 rfl ?_
    have h_6 : Φ1 x = some (o_ 14 [.int v_1, .ref (x + 1), .ref (x + 2), .int v_2, .int v_3, .int (nI n_1), .int v_4, .int v_5, .ref (x + 3), .ref (x + 4), .int v_6, .long v_7, .ref (x + 5), .int (nI fl), .int v_8, .long v_9, .long v_10, .long v_11, .long v_12, .ref (x + 6), .ref (x + 7), .int (nI pe), .ref (x + 8), .int (nI le), .ref (x + 9), .ref (x + 10), .int (nI qu), .ref (x + 11), .ref (x + 12), .ref (x + 13), .ref (x + 14), .ref (x + 15), .ref (x + 16), .int (nI n_2), .long v_13, .ref (x + 17), .ref (x + 18), .ref (x + 19), .ref (x + 20), .ref (x + 21), .ref (x + 22), .int (nI n_3), .ref (x + 23), .ref (x + 24), .int (nI n_4), .ref (x + 25), .int (nI i_2), .int (nI nx), .int ec, .int ep, .int kn, .int (nI st), .int nu, .long va]) := ((fset_fr hΦ1 (ne_off (x := x) (i := 0) (j := 25) rfl)).trans h_2)
    refine z_get (ref := "FlowExporterModel") (C := RX12) (T := TX12) (N := 54) (ci := 14) (v := .int (nI i_2)) B hu_X12_appendBytes_X12 rfl 46 (Nat.le_of_ble_eq_true rfl) hv_X12_appendBytes_441 rfl h_6 rfl dX12_appendBytes_22 ?_
    refine z_iconst (v := 1) B dX12_appendBytes_25 rfl ?_
    refine z_iadd B dX12_appendBytes_26 ?_
    refine z_top (st1 := [.int (nI (i_2 + 1)), .ref x]) (congrArg (fun w9 : Int32 => ([.int w9, .ref x] : List Value)) (nI_add i_2 1)) ?_
    refine z_put (ref := "FlowExporterModel") (C := RX12) (T := TX12) (N := 54) (ci := 14) (v := .int (nI (i_2 + 1))) B hu_X12_appendBytes_X12 tyX12 tyX12_ok nmX12 rfl 46 (Nat.le_of_ble_eq_true rfl) hv_X12_appendBytes_441 rfl (Or.inl rfl) h_6 hx rfl rfl (Nat.le_of_ble_eq_true rfl) dX12_appendBytes_27 (fun Φ2 hΦ2 => ?_)
    have h_7 : Φ2 x = some (o_ 14 [.int v_1, .ref (x + 1), .ref (x + 2), .int v_2, .int v_3, .int (nI n_1), .int v_4, .int v_5, .ref (x + 3), .ref (x + 4), .int v_6, .long v_7, .ref (x + 5), .int (nI fl), .int v_8, .long v_9, .long v_10, .long v_11, .long v_12, .ref (x + 6), .ref (x + 7), .int (nI pe), .ref (x + 8), .int (nI le), .ref (x + 9), .ref (x + 10), .int (nI qu), .ref (x + 11), .ref (x + 12), .ref (x + 13), .ref (x + 14), .ref (x + 15), .ref (x + 16), .int (nI n_2), .long v_13, .ref (x + 17), .ref (x + 18), .ref (x + 19), .ref (x + 20), .ref (x + 21), .ref (x + 22), .int (nI n_3), .ref (x + 23), .ref (x + 24), .int (nI n_4), .ref (x + 25), .int (nI (i_2 + 1)), .int (nI nx), .int ec, .int ep, .int kn, .int (nI st), .int nu, .long va]) := fset_at hΦ2
    have hI3 : Im G x (rd, NN, fl, pe, le, nx, i_2 + 1, qu, kn, ec, nu, va, st, ep) Φ2 := Im.put0 hI2 hΦ2 ⟨v_1, v_2, v_3, n_1, v_4, v_5, v_6, v_7, v_8, v_9, v_10, v_11, v_12, n_2, v_13, n_3, n_4, rfl, b_15, b_3, b_4, b_5, b_6, b_7, b_8, b_9, b_10, b_11, (show (i_2 + 1) ≤ 700 by omega), b_13, b_14⟩
    refine z_iinc (k := 0) (v := nI (8 * (i_1 - 1)) - 8) (lv' := [(2, .int (nI (8 * (i_1 - 1)) - 8)), (0, .ref x), (1, .int a)]) B dX12_appendBytes_30 rfl (m8_dec (show 1 ≤ i_1 by omega)) (Nat.le_of_ble_eq_true rfl) rfl ?_
    refine z_goto (tgt := 3) B dX12_appendBytes_33 rfl ?_
    refine z_lv [0, 1, 2] rfl ?_
    exact ih1 (i_1 - 1, i_2 + 1) Φ2 (show (i_1 - 1) < i_1 by omega) ⟨hI3, (fun b9 h9 => ((fset_fr hΦ2 (fun h8 => h9 (0) h8 (show 0 = 0 ∨ 0 = 25 by decide))).trans ((fset_fr hΦ1 (fun h8 => h9 (25) h8 (show 25 = 0 ∨ 25 = 25 by decide))).trans ((hF1 b9 h9).trans rfl)))), (show (i_1 - 1) ≤ 4 by omega), (show (i_2 + 1) + (i_1 - 1) = il + 4 by omega), trivial⟩

theorem hu_X12_appendInput_X12 : ∀ w ∈ u_ws RX12 TX12 54, w ∈ wsX12_appendInput := fun _ h => List.mem_cons_of_mem _ (List.mem_append_left _ (List.mem_append_right _ (h)))

theorem hv_X12_appendInput_1 : Cond.fieldLink RX12 1 "FlowExporterModel" (TX12 0).2.1 (TX12 0).2.2.1 ∈ wsX12_appendInput := List.mem_cons_of_mem _ (List.mem_append_left _ (List.mem_append_left _ (List.mem_of_getElem? (i := 0) rfl)))

theorem hv_X12_appendInput_441 : Cond.fieldLink RX12 441 "FlowExporterModel" (TX12 46).2.1 (TX12 46).2.2.1 ∈ wsX12_appendInput := List.mem_cons_of_mem _ (List.mem_append_left _ (List.mem_append_left _ (List.mem_of_getElem? (i := 1) rfl)))

set_option maxHeartbeats 4000000 in
set_option maxRecDepth 100000 in
theorem r_appendInput (G : EnvG) (l : Launch) (Φ : Hm) (sz x : Nat) (rd : (Nat → Int32) → Prop) (fl : Nat) (pe : Nat) (le : Nat) (nx : Nat) (il : Nat) (qu : Nat) (kn : Int32) (ec : Int32) (nu : Int32) (va : Int64) (st : Nat) (ep : Int32) (a : Int32) (b : Int32) (d : Int32) (f : Int32) (g : Int32) (hx : G.2.2.2 ≤ x) (hI : Im G x (rd, NN, fl, pe, le, nx, il, qu, kn, ec, nu, va, st, ep) Φ)  : Ct G l yX12_appendInput wsX12_appendInput ({ frames := 1, cells := 0, slots := 0, locals := 22 }) 0 0 [.ref x, .int a, .int b, .int d, .int f, .int g] Φ sz (fun v Φ1 sz1 => (∃ r9 : Int32, v = some (.int r9)) ∧ sz1 = sz ∧ (∃ (il1 : Nat), (apV il v il1) ∧ Im G x (rd, NN, fl, pe, le, nx, il1, qu, kn, ec, nu, va, st, ep) Φ1) ∧ Fr x (fun j9 => j9 = 0 ∨ j9 = 25) Φ Φ1) := by
  refine Ct.of (cc := cX12_appendInput) (maxL := 6) (ret := (some .int)) (by decide) rfl (Nat.le_of_ble_eq_true rfl) ?_
  intro p9 e9 s9 m9 w9 t9 k9 B
  show Z p9 l e9 _ s9 m9 _ w9 t9 k9 _ G 6 0 [(0, .ref x), (1, .int a), (2, .int b), (3, .int d), (4, .int f), (5, .int g)] [] Φ sz 0 0
  refine z_aload_n B dX12_appendInput_0 rfl 0 rfl ?_
  refine z_iconst (v := 0) B dX12_appendInput_1 rfl ?_
  obtain ⟨v_1, v_2, v_3, n_1, v_4, v_5, v_6, v_7, v_8, v_9, v_10, v_11, v_12, n_2, v_13, n_3, n_4, h_1, b_13, b_1, b_2, b_3, b_4, b_5, b_6, b_7, b_8, b_9, b_10, b_11, b_12⟩ := im0 hI
  replace b_1 : 1 ≤ n_1 := b_1
  replace b_2 : n_1 ≤ 1024 := b_2
  replace b_3 : fl ≤ 12 := b_3
  replace b_4 : pe ≤ 24 := b_4
  replace b_5 : le ≤ 700 := b_5
  replace b_6 : qu ≤ 12 := b_6
  replace b_7 : n_2 ≤ 8 := b_7
  replace b_8 : n_3 ≤ 24 := b_8
  replace b_9 : n_4 ≤ 24 := b_9
  replace b_10 : il ≤ 700 := b_10
  replace b_11 : nx ≤ 701 := b_11
  replace b_12 : st ≤ 701 := b_12
  have h_2 : Φ x = some (o_ 14 [.int v_1, .ref (x + 1), .ref (x + 2), .int v_2, .int v_3, .int (nI n_1), .int v_4, .int v_5, .ref (x + 3), .ref (x + 4), .int v_6, .long v_7, .ref (x + 5), .int (nI fl), .int v_8, .long v_9, .long v_10, .long v_11, .long v_12, .ref (x + 6), .ref (x + 7), .int (nI pe), .ref (x + 8), .int (nI le), .ref (x + 9), .ref (x + 10), .int (nI qu), .ref (x + 11), .ref (x + 12), .ref (x + 13), .ref (x + 14), .ref (x + 15), .ref (x + 16), .int (nI n_2), .long v_13, .ref (x + 17), .ref (x + 18), .ref (x + 19), .ref (x + 20), .ref (x + 21), .ref (x + 22), .int (nI n_3), .ref (x + 23), .ref (x + 24), .int (nI n_4), .ref (x + 25), .int (nI il), .int (nI nx), .int ec, .int ep, .int kn, .int (nI st), .int nu, .long va]) := h_1
  refine z_put (ref := "FlowExporterModel") (C := RX12) (T := TX12) (N := 54) (ci := 14) (v := .int 0) B hu_X12_appendInput_X12 tyX12 tyX12_ok nmX12 rfl 0 (Nat.le_of_ble_eq_true rfl) hv_X12_appendInput_1 rfl (Or.inl rfl) h_2 hx rfl rfl (Nat.le_of_ble_eq_true rfl) dX12_appendInput_2 (fun Φ1 hΦ1 => ?_)
  have h_3 : Φ1 x = some (o_ 14 [.int 0, .ref (x + 1), .ref (x + 2), .int v_2, .int v_3, .int (nI n_1), .int v_4, .int v_5, .ref (x + 3), .ref (x + 4), .int v_6, .long v_7, .ref (x + 5), .int (nI fl), .int v_8, .long v_9, .long v_10, .long v_11, .long v_12, .ref (x + 6), .ref (x + 7), .int (nI pe), .ref (x + 8), .int (nI le), .ref (x + 9), .ref (x + 10), .int (nI qu), .ref (x + 11), .ref (x + 12), .ref (x + 13), .ref (x + 14), .ref (x + 15), .ref (x + 16), .int (nI n_2), .long v_13, .ref (x + 17), .ref (x + 18), .ref (x + 19), .ref (x + 20), .ref (x + 21), .ref (x + 22), .int (nI n_3), .ref (x + 23), .ref (x + 24), .int (nI n_4), .ref (x + 25), .int (nI il), .int (nI nx), .int ec, .int ep, .int kn, .int (nI st), .int nu, .long va]) := fset_at hΦ1
  have hI1 : Im G x (rd, NN, fl, pe, le, nx, il, qu, kn, ec, nu, va, st, ep) Φ1 := Im.put0 hI hΦ1 ⟨0, v_2, v_3, n_1, v_4, v_5, v_6, v_7, v_8, v_9, v_10, v_11, v_12, n_2, v_13, n_3, n_4, rfl, b_13, b_1, b_2, b_3, b_4, b_5, b_6, b_7, b_8, b_9, b_10, b_11, b_12⟩
  refine z_aload_n B dX12_appendInput_5 rfl 0 rfl ?_
  refine z_get (ref := "FlowExporterModel") (C := RX12) (T := TX12) (N := 54) (ci := 14) (v := .int (nI il)) B hu_X12_appendInput_X12 rfl 46 (Nat.le_of_ble_eq_true rfl) hv_X12_appendInput_441 rfl h_3 rfl dX12_appendInput_6 ?_
  refine z_bipush (v := 20) B dX12_appendInput_9 rfl ?_
  refine z_iadd B dX12_appendInput_11 ?_
  refine z_top (st1 := [.int (nI (il + 20))]) (congrArg (fun w9 : Int32 => ([.int w9] : List Value)) (nI_add il 20)) ?_
  refine z_sipush (v := 700) B dX12_appendInput_12 rfl ?_
  refine z_icmp_le (tgt := 20) B dX12_appendInput_15 rfl (fun c_1 => ?_) (fun c_1 => ?_)
  · have e_1 : il + 20 ≤ 700 := (nI_leI (a := il + 20) (b := 700) (by omega) (by omega)).mp c_1
    refine z_aload_n B dX12_appendInput_20 rfl 0 rfl ?_
    refine z_iload_n B dX12_appendInput_21 rfl 1 rfl ?_
    refine z_callV (As := [.int a]) (rest := []) B (r_appendBytes G l Φ1 sz x rd fl pe le nx il qu kn ec nu va st ep a hx hI1 (show il + 4 ≤ 700 by omega)) (cwV 1 B.1.2.2.2.2 gX12_appendInput_X12_appendBytes rfl rfl rfl (by decide +kernel) ⟨Nat.le_of_ble_eq_true rfl, Nat.le_of_ble_eq_true rfl⟩) h_3 rfl rfl rfl rfl (Nat.le_of_ble_eq_true rfl) dX12_appendInput_22 ⟨Nat.le_of_ble_eq_true rfl, Nat.le_of_ble_eq_true rfl⟩ (fun r_1 Φ2 sz1 st1 hp1 hs1 => ?_)
    obtain ⟨rfl, hq1, ⟨n_5, b_14, hI2⟩, hF1⟩ := hp1
    subst sz1
    replace hs1 : st1 = [] := hs1
    subst st1
    replace hI2 : Im G x (rd, NN, fl, pe, le, nx, n_5, qu, kn, ec, nu, va, st, ep) Φ2 := hI2
    replace b_14 : n_5 = il + 4 := b_14
    refine z_aload_n B dX12_appendInput_25 rfl 0 rfl ?_
    refine z_iload_n B dX12_appendInput_26 rfl 2 rfl ?_
    obtain ⟨v_14, v_15, v_16, n_6, v_17, v_18, v_19, v_20, v_21, v_22, v_23, v_24, v_25, n_7, v_26, n_8, n_9, h_4, b_27, b_15, b_16, b_17, b_18, b_19, b_20, b_21, b_22, b_23, b_24, b_25, b_26⟩ := im0 hI2
    replace b_15 : 1 ≤ n_6 := b_15
    replace b_16 : n_6 ≤ 1024 := b_16
    replace b_17 : fl ≤ 12 := b_17
    replace b_18 : pe ≤ 24 := b_18
    replace b_19 : le ≤ 700 := b_19
    replace b_20 : qu ≤ 12 := b_20
    replace b_21 : n_7 ≤ 8 := b_21
    replace b_22 : n_8 ≤ 24 := b_22
    replace b_23 : n_9 ≤ 24 := b_23
    replace b_24 : n_5 ≤ 700 := b_24
    replace b_25 : nx ≤ 701 := b_25
    replace b_26 : st ≤ 701 := b_26
    have h_5 : Φ2 x = some (o_ 14 [.int v_14, .ref (x + 1), .ref (x + 2), .int v_15, .int v_16, .int (nI n_6), .int v_17, .int v_18, .ref (x + 3), .ref (x + 4), .int v_19, .long v_20, .ref (x + 5), .int (nI fl), .int v_21, .long v_22, .long v_23, .long v_24, .long v_25, .ref (x + 6), .ref (x + 7), .int (nI pe), .ref (x + 8), .int (nI le), .ref (x + 9), .ref (x + 10), .int (nI qu), .ref (x + 11), .ref (x + 12), .ref (x + 13), .ref (x + 14), .ref (x + 15), .ref (x + 16), .int (nI n_7), .long v_26, .ref (x + 17), .ref (x + 18), .ref (x + 19), .ref (x + 20), .ref (x + 21), .ref (x + 22), .int (nI n_8), .ref (x + 23), .ref (x + 24), .int (nI n_9), .ref (x + 25), .int (nI n_5), .int (nI nx), .int ec, .int ep, .int kn, .int (nI st), .int nu, .long va]) := h_4
    refine z_callV (As := [.int b]) (rest := []) B (r_appendBytes G l Φ2 sz x rd fl pe le nx n_5 qu kn ec nu va st ep b hx hI2 (show n_5 + 4 ≤ 700 by omega)) (cwV 1 B.1.2.2.2.2 gX12_appendInput_X12_appendBytes rfl rfl rfl (by decide +kernel) ⟨Nat.le_of_ble_eq_true rfl, Nat.le_of_ble_eq_true rfl⟩) h_5 rfl rfl rfl rfl (Nat.le_of_ble_eq_true rfl) dX12_appendInput_27 ⟨Nat.le_of_ble_eq_true rfl, Nat.le_of_ble_eq_true rfl⟩ (fun r_2 Φ3 sz2 st2 hp2 hs2 => ?_)
    obtain ⟨rfl, hq2, ⟨n_10, b_28, hI3⟩, hF2⟩ := hp2
    subst sz2
    replace hs2 : st2 = [] := hs2
    subst st2
    replace hI3 : Im G x (rd, NN, fl, pe, le, nx, n_10, qu, kn, ec, nu, va, st, ep) Φ3 := hI3
    replace b_28 : n_10 = n_5 + 4 := b_28
    refine z_aload_n B dX12_appendInput_30 rfl 0 rfl ?_
    refine z_iload_n B dX12_appendInput_31 rfl 3 rfl ?_
    obtain ⟨v_27, v_28, v_29, n_11, v_30, v_31, v_32, v_33, v_34, v_35, v_36, v_37, v_38, n_12, v_39, n_13, n_14, h_6, b_41, b_29, b_30, b_31, b_32, b_33, b_34, b_35, b_36, b_37, b_38, b_39, b_40⟩ := im0 hI3
    replace b_29 : 1 ≤ n_11 := b_29
    replace b_30 : n_11 ≤ 1024 := b_30
    replace b_31 : fl ≤ 12 := b_31
    replace b_32 : pe ≤ 24 := b_32
    replace b_33 : le ≤ 700 := b_33
    replace b_34 : qu ≤ 12 := b_34
    replace b_35 : n_12 ≤ 8 := b_35
    replace b_36 : n_13 ≤ 24 := b_36
    replace b_37 : n_14 ≤ 24 := b_37
    replace b_38 : n_10 ≤ 700 := b_38
    replace b_39 : nx ≤ 701 := b_39
    replace b_40 : st ≤ 701 := b_40
    have h_7 : Φ3 x = some (o_ 14 [.int v_27, .ref (x + 1), .ref (x + 2), .int v_28, .int v_29, .int (nI n_11), .int v_30, .int v_31, .ref (x + 3), .ref (x + 4), .int v_32, .long v_33, .ref (x + 5), .int (nI fl), .int v_34, .long v_35, .long v_36, .long v_37, .long v_38, .ref (x + 6), .ref (x + 7), .int (nI pe), .ref (x + 8), .int (nI le), .ref (x + 9), .ref (x + 10), .int (nI qu), .ref (x + 11), .ref (x + 12), .ref (x + 13), .ref (x + 14), .ref (x + 15), .ref (x + 16), .int (nI n_12), .long v_39, .ref (x + 17), .ref (x + 18), .ref (x + 19), .ref (x + 20), .ref (x + 21), .ref (x + 22), .int (nI n_13), .ref (x + 23), .ref (x + 24), .int (nI n_14), .ref (x + 25), .int (nI n_10), .int (nI nx), .int ec, .int ep, .int kn, .int (nI st), .int nu, .long va]) := h_6
    refine z_callV (As := [.int d]) (rest := []) B (r_appendBytes G l Φ3 sz x rd fl pe le nx n_10 qu kn ec nu va st ep d hx hI3 (show n_10 + 4 ≤ 700 by omega)) (cwV 1 B.1.2.2.2.2 gX12_appendInput_X12_appendBytes rfl rfl rfl (by decide +kernel) ⟨Nat.le_of_ble_eq_true rfl, Nat.le_of_ble_eq_true rfl⟩) h_7 rfl rfl rfl rfl (Nat.le_of_ble_eq_true rfl) dX12_appendInput_32 ⟨Nat.le_of_ble_eq_true rfl, Nat.le_of_ble_eq_true rfl⟩ (fun r_3 Φ4 sz3 st3 hp3 hs3 => ?_)
    obtain ⟨rfl, hq3, ⟨n_15, b_42, hI4⟩, hF3⟩ := hp3
    subst sz3
    replace hs3 : st3 = [] := hs3
    subst st3
    replace hI4 : Im G x (rd, NN, fl, pe, le, nx, n_15, qu, kn, ec, nu, va, st, ep) Φ4 := hI4
    replace b_42 : n_15 = n_10 + 4 := b_42
    refine z_aload_n B dX12_appendInput_35 rfl 0 rfl ?_
    refine z_iload B dX12_appendInput_36 4 rfl ?_
    obtain ⟨v_40, v_41, v_42, n_16, v_43, v_44, v_45, v_46, v_47, v_48, v_49, v_50, v_51, n_17, v_52, n_18, n_19, h_8, b_55, b_43, b_44, b_45, b_46, b_47, b_48, b_49, b_50, b_51, b_52, b_53, b_54⟩ := im0 hI4
    replace b_43 : 1 ≤ n_16 := b_43
    replace b_44 : n_16 ≤ 1024 := b_44
    replace b_45 : fl ≤ 12 := b_45
    replace b_46 : pe ≤ 24 := b_46
    replace b_47 : le ≤ 700 := b_47
    replace b_48 : qu ≤ 12 := b_48
    replace b_49 : n_17 ≤ 8 := b_49
    replace b_50 : n_18 ≤ 24 := b_50
    replace b_51 : n_19 ≤ 24 := b_51
    replace b_52 : n_15 ≤ 700 := b_52
    replace b_53 : nx ≤ 701 := b_53
    replace b_54 : st ≤ 701 := b_54
    have h_9 : Φ4 x = some (o_ 14 [.int v_40, .ref (x + 1), .ref (x + 2), .int v_41, .int v_42, .int (nI n_16), .int v_43, .int v_44, .ref (x + 3), .ref (x + 4), .int v_45, .long v_46, .ref (x + 5), .int (nI fl), .int v_47, .long v_48, .long v_49, .long v_50, .long v_51, .ref (x + 6), .ref (x + 7), .int (nI pe), .ref (x + 8), .int (nI le), .ref (x + 9), .ref (x + 10), .int (nI qu), .ref (x + 11), .ref (x + 12), .ref (x + 13), .ref (x + 14), .ref (x + 15), .ref (x + 16), .int (nI n_17), .long v_52, .ref (x + 17), .ref (x + 18), .ref (x + 19), .ref (x + 20), .ref (x + 21), .ref (x + 22), .int (nI n_18), .ref (x + 23), .ref (x + 24), .int (nI n_19), .ref (x + 25), .int (nI n_15), .int (nI nx), .int ec, .int ep, .int kn, .int (nI st), .int nu, .long va]) := h_8
    refine z_callV (As := [.int f]) (rest := []) B (r_appendBytes G l Φ4 sz x rd fl pe le nx n_15 qu kn ec nu va st ep f hx hI4 (show n_15 + 4 ≤ 700 by omega)) (cwV 1 B.1.2.2.2.2 gX12_appendInput_X12_appendBytes rfl rfl rfl (by decide +kernel) ⟨Nat.le_of_ble_eq_true rfl, Nat.le_of_ble_eq_true rfl⟩) h_9 rfl rfl rfl rfl (Nat.le_of_ble_eq_true rfl) dX12_appendInput_38 ⟨Nat.le_of_ble_eq_true rfl, Nat.le_of_ble_eq_true rfl⟩ (fun r_4 Φ5 sz4 st4 hp4 hs4 => ?_)
    obtain ⟨rfl, hq4, ⟨n_20, b_56, hI5⟩, hF4⟩ := hp4
    subst sz4
    replace hs4 : st4 = [] := hs4
    subst st4
    replace hI5 : Im G x (rd, NN, fl, pe, le, nx, n_20, qu, kn, ec, nu, va, st, ep) Φ5 := hI5
    replace b_56 : n_20 = n_15 + 4 := b_56
    refine z_aload_n B dX12_appendInput_41 rfl 0 rfl ?_
    refine z_iload B dX12_appendInput_42 5 rfl ?_
    obtain ⟨v_53, v_54, v_55, n_21, v_56, v_57, v_58, v_59, v_60, v_61, v_62, v_63, v_64, n_22, v_65, n_23, n_24, h_10, b_69, b_57, b_58, b_59, b_60, b_61, b_62, b_63, b_64, b_65, b_66, b_67, b_68⟩ := im0 hI5
    replace b_57 : 1 ≤ n_21 := b_57
    replace b_58 : n_21 ≤ 1024 := b_58
    replace b_59 : fl ≤ 12 := b_59
    replace b_60 : pe ≤ 24 := b_60
    replace b_61 : le ≤ 700 := b_61
    replace b_62 : qu ≤ 12 := b_62
    replace b_63 : n_22 ≤ 8 := b_63
    replace b_64 : n_23 ≤ 24 := b_64
    replace b_65 : n_24 ≤ 24 := b_65
    replace b_66 : n_20 ≤ 700 := b_66
    replace b_67 : nx ≤ 701 := b_67
    replace b_68 : st ≤ 701 := b_68
    have h_11 : Φ5 x = some (o_ 14 [.int v_53, .ref (x + 1), .ref (x + 2), .int v_54, .int v_55, .int (nI n_21), .int v_56, .int v_57, .ref (x + 3), .ref (x + 4), .int v_58, .long v_59, .ref (x + 5), .int (nI fl), .int v_60, .long v_61, .long v_62, .long v_63, .long v_64, .ref (x + 6), .ref (x + 7), .int (nI pe), .ref (x + 8), .int (nI le), .ref (x + 9), .ref (x + 10), .int (nI qu), .ref (x + 11), .ref (x + 12), .ref (x + 13), .ref (x + 14), .ref (x + 15), .ref (x + 16), .int (nI n_22), .long v_65, .ref (x + 17), .ref (x + 18), .ref (x + 19), .ref (x + 20), .ref (x + 21), .ref (x + 22), .int (nI n_23), .ref (x + 23), .ref (x + 24), .int (nI n_24), .ref (x + 25), .int (nI n_20), .int (nI nx), .int ec, .int ep, .int kn, .int (nI st), .int nu, .long va]) := h_10
    refine z_callV (As := [.int g]) (rest := []) B (r_appendBytes G l Φ5 sz x rd fl pe le nx n_20 qu kn ec nu va st ep g hx hI5 (show n_20 + 4 ≤ 700 by omega)) (cwV 1 B.1.2.2.2.2 gX12_appendInput_X12_appendBytes rfl rfl rfl (by decide +kernel) ⟨Nat.le_of_ble_eq_true rfl, Nat.le_of_ble_eq_true rfl⟩) h_11 rfl rfl rfl rfl (Nat.le_of_ble_eq_true rfl) dX12_appendInput_44 ⟨Nat.le_of_ble_eq_true rfl, Nat.le_of_ble_eq_true rfl⟩ (fun r_5 Φ6 sz5 st5 hp5 hs5 => ?_)
    obtain ⟨rfl, hq5, ⟨n_25, b_70, hI6⟩, hF5⟩ := hp5
    subst sz5
    replace hs5 : st5 = [] := hs5
    subst st5
    replace hI6 : Im G x (rd, NN, fl, pe, le, nx, n_25, qu, kn, ec, nu, va, st, ep) Φ6 := hI6
    replace b_70 : n_25 = n_20 + 4 := b_70
    refine z_aload_n B dX12_appendInput_47 rfl 0 rfl ?_
    obtain ⟨v_66, v_67, v_68, n_26, v_69, v_70, v_71, v_72, v_73, v_74, v_75, v_76, v_77, n_27, v_78, n_28, n_29, h_12, b_83, b_71, b_72, b_73, b_74, b_75, b_76, b_77, b_78, b_79, b_80, b_81, b_82⟩ := im0 hI6
    replace b_71 : 1 ≤ n_26 := b_71
    replace b_72 : n_26 ≤ 1024 := b_72
    replace b_73 : fl ≤ 12 := b_73
    replace b_74 : pe ≤ 24 := b_74
    replace b_75 : le ≤ 700 := b_75
    replace b_76 : qu ≤ 12 := b_76
    replace b_77 : n_27 ≤ 8 := b_77
    replace b_78 : n_28 ≤ 24 := b_78
    replace b_79 : n_29 ≤ 24 := b_79
    replace b_80 : n_25 ≤ 700 := b_80
    replace b_81 : nx ≤ 701 := b_81
    replace b_82 : st ≤ 701 := b_82
    have h_13 : Φ6 x = some (o_ 14 [.int v_66, .ref (x + 1), .ref (x + 2), .int v_67, .int v_68, .int (nI n_26), .int v_69, .int v_70, .ref (x + 3), .ref (x + 4), .int v_71, .long v_72, .ref (x + 5), .int (nI fl), .int v_73, .long v_74, .long v_75, .long v_76, .long v_77, .ref (x + 6), .ref (x + 7), .int (nI pe), .ref (x + 8), .int (nI le), .ref (x + 9), .ref (x + 10), .int (nI qu), .ref (x + 11), .ref (x + 12), .ref (x + 13), .ref (x + 14), .ref (x + 15), .ref (x + 16), .int (nI n_27), .long v_78, .ref (x + 17), .ref (x + 18), .ref (x + 19), .ref (x + 20), .ref (x + 21), .ref (x + 22), .int (nI n_28), .ref (x + 23), .ref (x + 24), .int (nI n_29), .ref (x + 25), .int (nI n_25), .int (nI nx), .int ec, .int ep, .int kn, .int (nI st), .int nu, .long va]) := h_12
    refine z_get (ref := "FlowExporterModel") (C := RX12) (T := TX12) (N := 54) (ci := 14) (v := .int (nI n_25)) B hu_X12_appendInput_X12 rfl 46 (Nat.le_of_ble_eq_true rfl) hv_X12_appendInput_441 rfl h_13 rfl dX12_appendInput_48 ?_
    exact z_ret_i B dX12_appendInput_51 ⟨⟨_, rfl⟩, rfl, ⟨n_25, (Or.inr ⟨by omega, congrArg (fun w9 : Nat => some (Value.int (nI w9))) (show n_25 = il + 20 by omega), by omega⟩), hI6⟩, (fun b9 h9 => ((hF5 b9 h9).trans ((hF4 b9 h9).trans ((hF3 b9 h9).trans ((hF2 b9 h9).trans ((hF1 b9 h9).trans ((fset_fr hΦ1 (fun h8 => h9 (0) h8 (show 0 = 0 ∨ 0 = 25 by decide))).trans rfl)))))))⟩
  · have e_2 : ¬ (il + 20 ≤ 700) := fun h9 => c_1 ((nI_leI (a := il + 20) (b := 700) (by omega) (by omega)).mpr h9)
    refine z_iconst (v := (-1)) B dX12_appendInput_18 rfl ?_
    exact z_ret_i B dX12_appendInput_19 ⟨⟨_, rfl⟩, rfl, ⟨il, (Or.inl ⟨by omega, rfl, by omega⟩), hI1⟩, (fun b9 h9 => ((fset_fr hΦ1 (fun h8 => h9 (0) h8 (show 0 = 0 ∨ 0 = 25 by decide))).trans rfl))⟩

theorem hu_X12_truncateInput_X12 : ∀ w ∈ u_ws RX12 TX12 54, w ∈ wsX12_truncateInput := fun _ h => List.mem_cons_of_mem _ (List.mem_append_right _ (h))

theorem hv_X12_truncateInput_1 : Cond.fieldLink RX12 1 "FlowExporterModel" (TX12 0).2.1 (TX12 0).2.2.1 ∈ wsX12_truncateInput := List.mem_cons_of_mem _ (List.mem_append_left _ (List.mem_of_getElem? (i := 0) rfl))

theorem hv_X12_truncateInput_441 : Cond.fieldLink RX12 441 "FlowExporterModel" (TX12 46).2.1 (TX12 46).2.2.1 ∈ wsX12_truncateInput := List.mem_cons_of_mem _ (List.mem_append_left _ (List.mem_of_getElem? (i := 1) rfl))

set_option maxHeartbeats 4000000 in
set_option maxRecDepth 100000 in
theorem r_truncateInput (G : EnvG) (l : Launch) (Φ : Hm) (sz x : Nat) (rd : (Nat → Int32) → Prop) (fl : Nat) (pe : Nat) (le : Nat) (nx : Nat) (il : Nat) (qu : Nat) (kn : Int32) (ec : Int32) (nu : Int32) (va : Int64) (st : Nat) (ep : Int32) (a : Int32) (hx : G.2.2.2 ≤ x) (hI : Im G x (rd, NN, fl, pe, le, nx, il, qu, kn, ec, nu, va, st, ep) Φ)  : Ct G l yX12_truncateInput wsX12_truncateInput ({ frames := 1, cells := 0, slots := 0, locals := 25 }) 0 0 [.ref x, .int a] Φ sz (fun v Φ1 sz1 => (∃ r9 : Int32, v = some (.int r9)) ∧ sz1 = sz ∧ (∃ (il1 : Nat), (trV il a v il1) ∧ Im G x (rd, NN, fl, pe, le, nx, il1, qu, kn, ec, nu, va, st, ep) Φ1) ∧ Fr x (fun j9 => j9 = 0) Φ Φ1) := by
  refine Ct.of (cc := cX12_truncateInput) (maxL := 2) (ret := (some .int)) (by decide) rfl (Nat.le_of_ble_eq_true rfl) ?_
  intro p9 e9 s9 m9 w9 t9 k9 B
  show Z p9 l e9 _ s9 m9 _ w9 t9 k9 _ G 2 0 [(0, .ref x), (1, .int a)] [] Φ sz 0 0
  refine z_aload_n B dX12_truncateInput_0 rfl 0 rfl ?_
  refine z_iconst (v := 0) B dX12_truncateInput_1 rfl ?_
  obtain ⟨v_1, v_2, v_3, n_1, v_4, v_5, v_6, v_7, v_8, v_9, v_10, v_11, v_12, n_2, v_13, n_3, n_4, h_1, b_13, b_1, b_2, b_3, b_4, b_5, b_6, b_7, b_8, b_9, b_10, b_11, b_12⟩ := im0 hI
  replace b_1 : 1 ≤ n_1 := b_1
  replace b_2 : n_1 ≤ 1024 := b_2
  replace b_3 : fl ≤ 12 := b_3
  replace b_4 : pe ≤ 24 := b_4
  replace b_5 : le ≤ 700 := b_5
  replace b_6 : qu ≤ 12 := b_6
  replace b_7 : n_2 ≤ 8 := b_7
  replace b_8 : n_3 ≤ 24 := b_8
  replace b_9 : n_4 ≤ 24 := b_9
  replace b_10 : il ≤ 700 := b_10
  replace b_11 : nx ≤ 701 := b_11
  replace b_12 : st ≤ 701 := b_12
  have h_2 : Φ x = some (o_ 14 [.int v_1, .ref (x + 1), .ref (x + 2), .int v_2, .int v_3, .int (nI n_1), .int v_4, .int v_5, .ref (x + 3), .ref (x + 4), .int v_6, .long v_7, .ref (x + 5), .int (nI fl), .int v_8, .long v_9, .long v_10, .long v_11, .long v_12, .ref (x + 6), .ref (x + 7), .int (nI pe), .ref (x + 8), .int (nI le), .ref (x + 9), .ref (x + 10), .int (nI qu), .ref (x + 11), .ref (x + 12), .ref (x + 13), .ref (x + 14), .ref (x + 15), .ref (x + 16), .int (nI n_2), .long v_13, .ref (x + 17), .ref (x + 18), .ref (x + 19), .ref (x + 20), .ref (x + 21), .ref (x + 22), .int (nI n_3), .ref (x + 23), .ref (x + 24), .int (nI n_4), .ref (x + 25), .int (nI il), .int (nI nx), .int ec, .int ep, .int kn, .int (nI st), .int nu, .long va]) := h_1
  refine z_put (ref := "FlowExporterModel") (C := RX12) (T := TX12) (N := 54) (ci := 14) (v := .int 0) B hu_X12_truncateInput_X12 tyX12 tyX12_ok nmX12 rfl 0 (Nat.le_of_ble_eq_true rfl) hv_X12_truncateInput_1 rfl (Or.inl rfl) h_2 hx rfl rfl (Nat.le_of_ble_eq_true rfl) dX12_truncateInput_2 (fun Φ1 hΦ1 => ?_)
  have h_3 : Φ1 x = some (o_ 14 [.int 0, .ref (x + 1), .ref (x + 2), .int v_2, .int v_3, .int (nI n_1), .int v_4, .int v_5, .ref (x + 3), .ref (x + 4), .int v_6, .long v_7, .ref (x + 5), .int (nI fl), .int v_8, .long v_9, .long v_10, .long v_11, .long v_12, .ref (x + 6), .ref (x + 7), .int (nI pe), .ref (x + 8), .int (nI le), .ref (x + 9), .ref (x + 10), .int (nI qu), .ref (x + 11), .ref (x + 12), .ref (x + 13), .ref (x + 14), .ref (x + 15), .ref (x + 16), .int (nI n_2), .long v_13, .ref (x + 17), .ref (x + 18), .ref (x + 19), .ref (x + 20), .ref (x + 21), .ref (x + 22), .int (nI n_3), .ref (x + 23), .ref (x + 24), .int (nI n_4), .ref (x + 25), .int (nI il), .int (nI nx), .int ec, .int ep, .int kn, .int (nI st), .int nu, .long va]) := fset_at hΦ1
  have hI1 : Im G x (rd, NN, fl, pe, le, nx, il, qu, kn, ec, nu, va, st, ep) Φ1 := Im.put0 hI hΦ1 ⟨0, v_2, v_3, n_1, v_4, v_5, v_6, v_7, v_8, v_9, v_10, v_11, v_12, n_2, v_13, n_3, n_4, rfl, b_13, b_1, b_2, b_3, b_4, b_5, b_6, b_7, b_8, b_9, b_10, b_11, b_12⟩
  refine z_iload_n B dX12_truncateInput_5 rfl 1 rfl ?_
  refine z_i2l (v := a.toInt64) B dX12_truncateInput_6 rfl ?_
  refine z_lconst (v := 0) B dX12_truncateInput_7 rfl ?_
  refine z_aload_n B dX12_truncateInput_8 rfl 0 rfl ?_
  refine z_get (ref := "FlowExporterModel") (C := RX12) (T := TX12) (N := 54) (ci := 14) (v := .int (nI il)) B hu_X12_truncateInput_X12 rfl 46 (Nat.le_of_ble_eq_true rfl) hv_X12_truncateInput_441 rfl h_3 rfl dX12_truncateInput_9 ?_
  refine z_i2l (v := (nI il).toInt64) B dX12_truncateInput_12 rfl ?_
  by_cases hR1 : inP a.toInt64 0 ((nI il).toInt64)
  · obtain ⟨n_5, e_1, e_2, e_3, rfl⟩ := in_get (L := 0) (H := ((il : Nat) : Int)) (by decide) (natL (by omega)) hR1
    refine z_callS (As := [.long ((nI n_5).toInt64), .long 0, .long ((nI il).toInt64)]) (rest := []) B (c_inR1 G l Φ1 sz ((nI n_5).toInt64) 0 ((nI il).toInt64) hR1 (fun v8 Φ8 sz8 => v8 = some (.int 1) ∧ sz8 = sz ∧ Im G x (rd, NN, fl, pe, le, nx, il, qu, kn, ec, nu, va, st, ep) Φ8 ∧ Fr x (fun j9 => False) Φ1 Φ8) ⟨rfl, rfl, hI1, fun _ _ => rfl⟩) (va_cwS 3 B.1.2.2.2.2 gX12_truncateInput_X12_inRange rfl rfl rfl (by decide +kernel) ⟨Nat.le_of_ble_eq_true rfl, Nat.le_of_ble_eq_true rfl⟩) rfl rfl (Nat.le_of_ble_eq_true rfl) dX12_truncateInput_13 ⟨Nat.le_of_ble_eq_true rfl, Nat.le_of_ble_eq_true rfl⟩ (fun r_1 Φ2 sz1 st1 hp1 hs1 => ?_)
    obtain ⟨rfl, hq1, hI2, hF1⟩ := hp1
    subst sz1
    replace hs1 : st1 = [.int 1] := hs1
    subst st1
    refine z_if_ne (tgt := 21) B dX12_truncateInput_16 rfl (fun c_1 => ?_) (fun h9 => absurd h9 (by decide))
    refine z_aload_n B dX12_truncateInput_21 rfl 0 rfl ?_
    refine z_iload_n B dX12_truncateInput_22 rfl 1 rfl ?_
    have h_4 : Φ2 x = some (o_ 14 [.int 0, .ref (x + 1), .ref (x + 2), .int v_2, .int v_3, .int (nI n_1), .int v_4, .int v_5, .ref (x + 3), .ref (x + 4), .int v_6, .long v_7, .ref (x + 5), .int (nI fl), .int v_8, .long v_9, .long v_10, .long v_11, .long v_12, .ref (x + 6), .ref (x + 7), .int (nI pe), .ref (x + 8), .int (nI le), .ref (x + 9), .ref (x + 10), .int (nI qu), .ref (x + 11), .ref (x + 12), .ref (x + 13), .ref (x + 14), .ref (x + 15), .ref (x + 16), .int (nI n_2), .long v_13, .ref (x + 17), .ref (x + 18), .ref (x + 19), .ref (x + 20), .ref (x + 21), .ref (x + 22), .int (nI n_3), .ref (x + 23), .ref (x + 24), .int (nI n_4), .ref (x + 25), .int (nI il), .int (nI nx), .int ec, .int ep, .int kn, .int (nI st), .int nu, .long va]) := ((hF1 x (fun j9 h8 h7 => (show False from h7).elim)).trans h_3)
    refine z_put (ref := "FlowExporterModel") (C := RX12) (T := TX12) (N := 54) (ci := 14) (v := .int (nI n_5)) B hu_X12_truncateInput_X12 tyX12 tyX12_ok nmX12 rfl 46 (Nat.le_of_ble_eq_true rfl) hv_X12_truncateInput_441 rfl (Or.inl rfl) h_4 hx rfl rfl (Nat.le_of_ble_eq_true rfl) dX12_truncateInput_23 (fun Φ3 hΦ2 => ?_)
    have h_5 : Φ3 x = some (o_ 14 [.int 0, .ref (x + 1), .ref (x + 2), .int v_2, .int v_3, .int (nI n_1), .int v_4, .int v_5, .ref (x + 3), .ref (x + 4), .int v_6, .long v_7, .ref (x + 5), .int (nI fl), .int v_8, .long v_9, .long v_10, .long v_11, .long v_12, .ref (x + 6), .ref (x + 7), .int (nI pe), .ref (x + 8), .int (nI le), .ref (x + 9), .ref (x + 10), .int (nI qu), .ref (x + 11), .ref (x + 12), .ref (x + 13), .ref (x + 14), .ref (x + 15), .ref (x + 16), .int (nI n_2), .long v_13, .ref (x + 17), .ref (x + 18), .ref (x + 19), .ref (x + 20), .ref (x + 21), .ref (x + 22), .int (nI n_3), .ref (x + 23), .ref (x + 24), .int (nI n_4), .ref (x + 25), .int (nI n_5), .int (nI nx), .int ec, .int ep, .int kn, .int (nI st), .int nu, .long va]) := fset_at hΦ2
    have hI3 : Im G x (rd, NN, fl, pe, le, nx, n_5, qu, kn, ec, nu, va, st, ep) Φ3 := Im.put0 hI2 hΦ2 ⟨0, v_2, v_3, n_1, v_4, v_5, v_6, v_7, v_8, v_9, v_10, v_11, v_12, n_2, v_13, n_3, n_4, rfl, b_13, b_1, b_2, b_3, b_4, b_5, b_6, b_7, b_8, b_9, (show n_5 ≤ 700 by omega), b_11, b_12⟩
    refine z_iload_n B dX12_truncateInput_26 rfl 1 rfl ?_
    exact z_ret_i B dX12_truncateInput_27 ⟨⟨_, rfl⟩, rfl, ⟨n_5, (Or.inl ⟨n_5, by omega, rfl, rfl, rfl⟩), hI3⟩, (fun b9 h9 => ((fset_fr hΦ2 (fun h8 => h9 (0) h8 (show 0 = 0 by decide))).trans ((hF1 b9 (fun j9 h8 h7 => (show False from h7).elim)).trans ((fset_fr hΦ1 (fun h8 => h9 (0) h8 (show 0 = 0 by decide))).trans rfl))))⟩
  · refine z_callS (As := [.long a.toInt64, .long 0, .long ((nI il).toInt64)]) (rest := []) B (c_inR0 G l Φ1 sz a.toInt64 0 ((nI il).toInt64) hR1 (fun v8 Φ8 sz8 => v8 = some (.int 0) ∧ sz8 = sz ∧ Im G x (rd, NN, fl, pe, le, nx, il, qu, kn, ec, nu, va, st, ep) Φ8 ∧ Fr x (fun j9 => False) Φ1 Φ8) ⟨rfl, rfl, hI1, fun _ _ => rfl⟩) (va_cwS 3 B.1.2.2.2.2 gX12_truncateInput_X12_inRange rfl rfl rfl (by decide +kernel) ⟨Nat.le_of_ble_eq_true rfl, Nat.le_of_ble_eq_true rfl⟩) rfl rfl (Nat.le_of_ble_eq_true rfl) dX12_truncateInput_13 ⟨Nat.le_of_ble_eq_true rfl, Nat.le_of_ble_eq_true rfl⟩ (fun r_2 Φ4 sz2 st2 hp2 hs2 => ?_)
    obtain ⟨rfl, hq2, hI4, hF2⟩ := hp2
    subst sz2
    replace hs2 : st2 = [.int 0] := hs2
    subst st2
    refine z_if_ne (tgt := 21) B dX12_truncateInput_16 rfl (fun h9 => absurd (by decide) h9) (fun c_2 => ?_)
    refine z_iconst (v := (-1)) B dX12_truncateInput_19 rfl ?_
    exact z_ret_i B dX12_truncateInput_20 ⟨⟨_, rfl⟩, rfl, ⟨il, (Or.inr ⟨tr_out (by omega) hR1, rfl, rfl⟩), hI4⟩, (fun b9 h9 => ((hF2 b9 (fun j9 h8 h7 => (show False from h7).elim)).trans ((fset_fr hΦ1 (fun h8 => h9 (0) h8 (show 0 = 0 by decide))).trans rfl)))⟩

theorem bA_in {f : Nat → Int32} {il i : Nat} {lo hi : Int64} (hlo : 0 ≤ lo.toInt) (h : inP (bA f il i).toInt64 lo hi) : i < il := by
  refine bA_lt (f := f) (fun e => ?_)
  rw [e, inP_iff] at h
  have h2 : (-1 : Int32).toInt = -1 := by decide
  rw [h2] at h
  omega

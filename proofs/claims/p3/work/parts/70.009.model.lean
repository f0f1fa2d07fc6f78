set_option maxRecDepth 20000 in
theorem ggX12_readNumber_X12_fail : GoodIn wsX12_readNumber wsX12_fail := goodIn_r _ [8, 9, 10, 11, 39, 40, 41, 42, 43, 44, 45, 46, 47, 48, 49, 50, 51, 52, 53, 54, 55, 56, 57, 58, 59, 60, 61, 62, 63, 64, 65, 66, 67, 68, 69, 70, 71, 72, 73, 74, 75, 76, 77, 78, 79, 80, 81, 82, 83, 84, 85, 86, 87, 88, 89, 90, 91, 92] rfl (by decide +kernel)
set_option maxRecDepth 20000 in
theorem gX12_readNumber_X12_fail : GoodIn wsX12_readNumber (wsV RX12 483 RX12 yX12_fail wsX12_fail) := goodIn_app (goodIn_of _ (by decide +kernel)) ggX12_readNumber_X12_fail
set_option maxRecDepth 20000 in
theorem ggX12_readNumber_X12_inRange : GoodIn wsX12_readNumber wsX12_inRange := goodIn_r _ [14] rfl (by decide +kernel)
set_option maxRecDepth 20000 in
theorem gX12_readNumber_X12_inRange : GoodIn wsX12_readNumber (va_wsS RX12 169 yX12_inRange wsX12_inRange) := goodIn_app (goodIn_of _ (by decide +kernel)) ggX12_readNumber_X12_inRange
set_option maxRecDepth 20000 in
theorem ggX12_readNumber_X12_advanceToken : GoodIn wsX12_readNumber wsX12_advanceToken := goodIn_ca (goodIn_r _ [18, 19, 10, 2, 1, 20, 21, 22, 23, 24, 25, 26, 7, 27, 28, 29, 30, 31, 32, 33, 34, 12, 13, 14, 35, 36, 37, 38, 39, 40, 41, 42, 43, 44, 45, 46, 47, 48, 49, 50, 51, 52, 53, 54, 55, 56, 57, 58, 59, 60, 61, 62, 63, 64, 65, 66, 67, 68, 69, 70, 71, 72, 73, 74, 75, 76, 77, 78, 79, 80, 81, 82, 83, 84, 85, 86, 87, 88, 89, 90, 91, 92] rfl (by decide +kernel)) (goodIn_sub (fun _ h => List.mem_cons_of_mem _ (List.mem_append_right _ h)) (by decide +kernel))
set_option maxRecDepth 20000 in
theorem gX12_readNumber_X12_advanceToken : GoodIn wsX12_readNumber (wsV RX12 489 RX12 yX12_advanceToken wsX12_advanceToken) := goodIn_app (goodIn_of _ (by decide +kernel)) ggX12_readNumber_X12_advanceToken
theorem dX12_readNumber_0 : decode cX12_readNumber 0 = .ok (.aload_n 0, 1) := by decide +kernel
theorem dX12_readNumber_1 : decode cX12_readNumber 1 = .ok (.getfield 476, 3) := by decide +kernel
theorem dX12_readNumber_4 : decode cX12_readNumber 4 = .ok (.iconst 2, 1) := by decide +kernel
theorem dX12_readNumber_5 : decode cX12_readNumber 5 = .ok (.if_icmp .eq 9, 3) := by decide +kernel
theorem dX12_readNumber_8 : decode cX12_readNumber 8 = .ok (.aload_n 0, 1) := by decide +kernel
theorem dX12_readNumber_9 : decode cX12_readNumber 9 = .ok (.iconst 1, 1) := by decide +kernel
theorem dX12_readNumber_10 : decode cX12_readNumber 10 = .ok (.invokevirtual 483, 3) := by decide +kernel
theorem dX12_readNumber_13 : decode cX12_readNumber 13 = .ok (.ireturn, 1) := by decide +kernel
theorem dX12_readNumber_14 : decode cX12_readNumber 14 = .ok (.aload_n 0, 1) := by decide +kernel
theorem dX12_readNumber_15 : decode cX12_readNumber 15 = .ok (.getfield 467, 3) := by decide +kernel
theorem dX12_readNumber_18 : decode cX12_readNumber 18 = .ok (.iload_n 1, 1) := by decide +kernel
theorem dX12_readNumber_19 : decode cX12_readNumber 19 = .ok (.i2l, 1) := by decide +kernel
theorem dX12_readNumber_20 : decode cX12_readNumber 20 = .ok (.iload_n 2, 1) := by decide +kernel
theorem dX12_readNumber_21 : decode cX12_readNumber 21 = .ok (.i2l, 1) := by decide +kernel
theorem dX12_readNumber_22 : decode cX12_readNumber 22 = .ok (.invokestatic 169, 3) := by decide +kernel
theorem dX12_readNumber_25 : decode cX12_readNumber 25 = .ok (.ifCond .ne 9, 3) := by decide +kernel
theorem dX12_readNumber_28 : decode cX12_readNumber 28 = .ok (.aload_n 0, 1) := by decide +kernel
theorem dX12_readNumber_29 : decode cX12_readNumber 29 = .ok (.iconst 2, 1) := by decide +kernel
theorem dX12_readNumber_30 : decode cX12_readNumber 30 = .ok (.invokevirtual 483, 3) := by decide +kernel
theorem dX12_readNumber_33 : decode cX12_readNumber 33 = .ok (.ireturn, 1) := by decide +kernel
theorem dX12_readNumber_34 : decode cX12_readNumber 34 = .ok (.aload_n 0, 1) := by decide +kernel
theorem dX12_readNumber_35 : decode cX12_readNumber 35 = .ok (.aload_n 0, 1) := by decide +kernel
theorem dX12_readNumber_36 : decode cX12_readNumber 36 = .ok (.getfield 467, 3) := by decide +kernel
theorem dX12_readNumber_39 : decode cX12_readNumber 39 = .ok (.l2i, 1) := by decide +kernel
theorem dX12_readNumber_40 : decode cX12_readNumber 40 = .ok (.putfield 486, 3) := by decide +kernel
theorem dX12_readNumber_43 : decode cX12_readNumber 43 = .ok (.aload_n 0, 1) := by decide +kernel
theorem dX12_readNumber_44 : decode cX12_readNumber 44 = .ok (.invokevirtual 489, 3) := by decide +kernel
theorem dX12_readNumber_47 : decode cX12_readNumber 47 = .ok (.iconst 1, 1) := by decide +kernel
theorem dX12_readNumber_48 : decode cX12_readNumber 48 = .ok (.ireturn, 1) := by decide +kernel
set_option maxRecDepth 20000 in
theorem ggX12_readInto_X12_readNumber : GoodIn wsX12_readInto wsX12_readNumber := goodIn_ca (goodIn_r _ [7, 8, 9, 2, 10, 11, 12, 6, 13, 14, 15, 16, 17, 18, 19, 20, 21, 22, 23, 24, 25, 26, 27, 28, 29, 30, 31, 32, 33, 34, 35, 36, 37, 38, 39, 40, 41, 42, 43, 44, 45, 46, 47, 48, 49, 50, 51, 52, 53, 54, 55, 56, 57, 58, 59, 60, 61, 62, 63, 64, 65, 66, 67, 68, 69, 70, 71, 72, 73, 74, 75, 76, 77, 78, 79, 80, 81, 82, 83, 84, 85, 86, 87, 88, 89, 90, 91, 92, 93, 94, 95, 96, 97] rfl (by decide +kernel)) (goodIn_sub (fun _ h => List.mem_cons_of_mem _ (List.mem_append_right _ h)) (by decide +kernel))
set_option maxRecDepth 20000 in
theorem gX12_readInto_X12_readNumber : GoodIn wsX12_readInto (wsV RX12 492 RX12 yX12_readNumber wsX12_readNumber) := goodIn_app (goodIn_of _ (by decide +kernel)) ggX12_readInto_X12_readNumber
theorem dX12_readInto_0 : decode cX12_readInto 0 = .ok (.aload_n 0, 1) := by decide +kernel
theorem dX12_readInto_1 : decode cX12_readInto 1 = .ok (.iload_n 2, 1) := by decide +kernel
theorem dX12_readInto_2 : decode cX12_readInto 2 = .ok (.iload_n 3, 1) := by decide +kernel
theorem dX12_readInto_3 : decode cX12_readInto 3 = .ok (.invokevirtual 492, 3) := by decide +kernel
theorem dX12_readInto_6 : decode cX12_readInto 6 = .ok (.ifCond .ne 5, 3) := by decide +kernel
theorem dX12_readInto_9 : decode cX12_readInto 9 = .ok (.iconst 0, 1) := by decide +kernel
theorem dX12_readInto_10 : decode cX12_readInto 10 = .ok (.ireturn, 1) := by decide +kernel
theorem dX12_readInto_11 : decode cX12_readInto 11 = .ok (.aload_n 0, 1) := by decide +kernel
theorem dX12_readInto_12 : decode cX12_readInto 12 = .ok (.getfield 13, 3) := by decide +kernel
theorem dX12_readInto_15 : decode cX12_readInto 15 = .ok (.iload_n 1, 1) := by decide +kernel
theorem dX12_readInto_16 : decode cX12_readInto 16 = .ok (.aload_n 0, 1) := by decide +kernel
theorem dX12_readInto_17 : decode cX12_readInto 17 = .ok (.getfield 486, 3) := by decide +kernel
theorem dX12_readInto_20 : decode cX12_readInto 20 = .ok (.iastore, 1) := by decide +kernel
theorem dX12_readInto_21 : decode cX12_readInto 21 = .ok (.iconst 1, 1) := by decide +kernel
theorem dX12_readInto_22 : decode cX12_readInto 22 = .ok (.ireturn, 1) := by decide +kernel
set_option maxRecDepth 20000 in
theorem ggX12_readEnd_X12_fail : GoodIn wsX12_readEnd wsX12_fail := goodIn_r _ [6, 7, 8, 9, 38, 39, 40, 41, 42, 43, 44, 45, 46, 47, 48, 49, 50, 51, 52, 53, 54, 55, 56, 57, 58, 59, 60, 61, 62, 63, 64, 65, 66, 67, 68, 69, 70, 71, 72, 73, 74, 75, 76, 77, 78, 79, 80, 81, 82, 83, 84, 85, 86, 87, 88, 89, 90, 91] rfl (by decide +kernel)
set_option maxRecDepth 20000 in
theorem gX12_readEnd_X12_fail : GoodIn wsX12_readEnd (wsV RX12 483 RX12 yX12_fail wsX12_fail) := goodIn_app (goodIn_of _ (by decide +kernel)) ggX12_readEnd_X12_fail
set_option maxRecDepth 20000 in
theorem ggX12_readEnd_X12_advanceToken : GoodIn wsX12_readEnd wsX12_advanceToken := goodIn_ca (goodIn_r _ [13, 14, 8, 15, 1, 16, 17, 18, 19, 20, 21, 22, 5, 23, 24, 25, 26, 27, 28, 29, 30, 31, 32, 33, 34, 35, 36, 37, 38, 39, 40, 41, 42, 43, 44, 45, 46, 47, 48, 49, 50, 51, 52, 53, 54, 55, 56, 57, 58, 59, 60, 61, 62, 63, 64, 65, 66, 67, 68, 69, 70, 71, 72, 73, 74, 75, 76, 77, 78, 79, 80, 81, 82, 83, 84, 85, 86, 87, 88, 89, 90, 91] rfl (by decide +kernel)) (goodIn_sub (fun _ h => List.mem_cons_of_mem _ (List.mem_append_right _ h)) (by decide +kernel))
set_option maxRecDepth 20000 in
theorem gX12_readEnd_X12_advanceToken : GoodIn wsX12_readEnd (wsV RX12 489 RX12 yX12_advanceToken wsX12_advanceToken) := goodIn_app (goodIn_of _ (by decide +kernel)) ggX12_readEnd_X12_advanceToken
theorem dX12_readEnd_0 : decode cX12_readEnd 0 = .ok (.aload_n 0, 1) := by decide +kernel
theorem dX12_readEnd_1 : decode cX12_readEnd 1 = .ok (.getfield 476, 3) := by decide +kernel
theorem dX12_readEnd_4 : decode cX12_readEnd 4 = .ok (.iconst 3, 1) := by decide +kernel
theorem dX12_readEnd_5 : decode cX12_readEnd 5 = .ok (.if_icmp .eq 9, 3) := by decide +kernel
theorem dX12_readEnd_8 : decode cX12_readEnd 8 = .ok (.aload_n 0, 1) := by decide +kernel
theorem dX12_readEnd_9 : decode cX12_readEnd 9 = .ok (.iconst 1, 1) := by decide +kernel
theorem dX12_readEnd_10 : decode cX12_readEnd 10 = .ok (.invokevirtual 483, 3) := by decide +kernel
theorem dX12_readEnd_13 : decode cX12_readEnd 13 = .ok (.ireturn, 1) := by decide +kernel
theorem dX12_readEnd_14 : decode cX12_readEnd 14 = .ok (.aload_n 0, 1) := by decide +kernel
theorem dX12_readEnd_15 : decode cX12_readEnd 15 = .ok (.invokevirtual 489, 3) := by decide +kernel
theorem dX12_readEnd_18 : decode cX12_readEnd 18 = .ok (.iconst 1, 1) := by decide +kernel
theorem dX12_readEnd_19 : decode cX12_readEnd 19 = .ok (.ireturn, 1) := by decide +kernel
set_option maxRecDepth 20000 in
theorem ggX12_readSetting_X12_advanceToken : GoodIn wsX12_readSetting wsX12_advanceToken := goodIn_ca (goodIn_r _ [5, 6, 7, 8, 9, 10, 11, 12, 13, 14, 15, 16, 4, 17, 18, 19, 20, 21, 22, 23, 24, 25, 26, 27, 28, 29, 30, 31, 52, 53, 54, 55, 56, 57, 58, 59, 60, 61, 62, 63, 64, 65, 66, 67, 68, 69, 70, 71, 72, 73, 74, 75, 76, 77, 78, 79, 80, 81, 82, 83, 84, 85, 86, 87, 88, 89, 90, 91, 92, 93, 94, 95, 96, 97, 98, 99, 100, 101, 102, 103, 104, 105] rfl (by decide +kernel)) (goodIn_sub (fun _ h => List.mem_cons_of_mem _ (List.mem_append_right _ h)) (by decide +kernel))
set_option maxRecDepth 20000 in
theorem gX12_readSetting_X12_advanceToken : GoodIn wsX12_readSetting (wsV RX12 489 RX12 yX12_advanceToken wsX12_advanceToken) := goodIn_app (goodIn_of _ (by decide +kernel)) ggX12_readSetting_X12_advanceToken
set_option maxRecDepth 20000 in
theorem ggX12_readSetting_X12_readInto : GoodIn wsX12_readSetting wsX12_readInto := goodIn_ca (goodIn_r _ [35, 36, 37, 38, 39, 40, 4, 41, 9, 8, 42, 43, 44, 45, 46, 7, 47, 25, 26, 27, 1, 2, 3, 5, 6, 10, 11, 12, 13, 14, 15, 16, 17, 18, 19, 20, 21, 22, 23, 24, 28, 29, 30, 31, 52, 53, 54, 55, 56, 57, 58, 59, 60, 61, 62, 63, 64, 65, 66, 67, 68, 69, 70, 71, 72, 73, 74, 75, 76, 77, 78, 79, 80, 81, 82, 83, 84, 85, 86, 87, 88, 89, 90, 91, 92, 93, 94, 95, 96, 97, 98, 99, 100, 101, 102, 103, 104, 105] rfl (by decide +kernel)) (goodIn_sub (fun _ h => List.mem_cons_of_mem _ (List.mem_append_right _ h)) (by decide +kernel))
set_option maxRecDepth 20000 in
theorem gX12_readSetting_X12_readInto : GoodIn wsX12_readSetting (wsV RX12 510 RX12 yX12_readInto wsX12_readInto) := goodIn_app (goodIn_of _ (by decide +kernel)) ggX12_readSetting_X12_readInto
set_option maxRecDepth 20000 in
theorem ggX12_readSetting_X12_readEnd : GoodIn wsX12_readSetting wsX12_readEnd := goodIn_ca (goodIn_r _ [51, 9, 42, 43, 44, 4, 45, 46, 7, 47, 1, 2, 3, 5, 6, 8, 10, 11, 12, 13, 14, 15, 16, 17, 18, 19, 20, 21, 22, 23, 24, 25, 26, 27, 28, 29, 30, 31, 52, 53, 54, 55, 56, 57, 58, 59, 60, 61, 62, 63, 64, 65, 66, 67, 68, 69, 70, 71, 72, 73, 74, 75, 76, 77, 78, 79, 80, 81, 82, 83, 84, 85, 86, 87, 88, 89, 90, 91, 92, 93, 94, 95, 96, 97, 98, 99, 100, 101, 102, 103, 104, 105] rfl (by decide +kernel)) (goodIn_sub (fun _ h => List.mem_cons_of_mem _ (List.mem_append_right _ h)) (by decide +kernel))
set_option maxRecDepth 20000 in
theorem gX12_readSetting_X12_readEnd : GoodIn wsX12_readSetting (wsV RX12 506 RX12 yX12_readEnd wsX12_readEnd) := goodIn_app (goodIn_of _ (by decide +kernel)) ggX12_readSetting_X12_readEnd
theorem dX12_readSetting_0 : decode cX12_readSetting 0 = .ok (.aload_n 0, 1) := by decide +kernel
theorem dX12_readSetting_1 : decode cX12_readSetting 1 = .ok (.invokevirtual 489, 3) := by decide +kernel
theorem dX12_readSetting_4 : decode cX12_readSetting 4 = .ok (.aload_n 0, 1) := by decide +kernel
theorem dX12_readSetting_5 : decode cX12_readSetting 5 = .ok (.iload_n 1, 1) := by decide +kernel
theorem dX12_readSetting_6 : decode cX12_readSetting 6 = .ok (.iload_n 2, 1) := by decide +kernel
theorem dX12_readSetting_7 : decode cX12_readSetting 7 = .ok (.iload_n 3, 1) := by decide +kernel
theorem dX12_readSetting_8 : decode cX12_readSetting 8 = .ok (.invokevirtual 510, 3) := by decide +kernel
theorem dX12_readSetting_11 : decode cX12_readSetting 11 = .ok (.ifCond .eq 14, 3) := by decide +kernel
theorem dX12_readSetting_14 : decode cX12_readSetting 14 = .ok (.aload_n 0, 1) := by decide +kernel
theorem dX12_readSetting_15 : decode cX12_readSetting 15 = .ok (.invokevirtual 506, 3) := by decide +kernel
theorem dX12_readSetting_18 : decode cX12_readSetting 18 = .ok (.ifCond .eq 7, 3) := by decide +kernel
theorem dX12_readSetting_21 : decode cX12_readSetting 21 = .ok (.iconst 1, 1) := by decide +kernel
theorem dX12_readSetting_22 : decode cX12_readSetting 22 = .ok (.goto 4, 3) := by decide +kernel
theorem dX12_readSetting_25 : decode cX12_readSetting 25 = .ok (.iconst 0, 1) := by decide +kernel
theorem dX12_readSetting_26 : decode cX12_readSetting 26 = .ok (.ireturn, 1) := by decide +kernel
set_option maxHeartbeats 4000000 in
set_option maxRecDepth 100000 in
theorem r_readNumber (G : EnvG) (l : Launch) (Φ : Hm) (sz x : Nat) (fl : Nat) (pe : Nat) (le : Nat) (nx : Nat) (il : Nat) (qu : Nat) (kn : Int32) (ec : Int32) (nu : Int32) (va : Int64) (a : Nat) (b : Int32) (hx : G.2.2.2 ≤ x) (hI : Im G x (NN, NN, fl, pe, le, nx, il, qu, kn, ec, nu, va) Φ) (ha : a < 2 ^ 31) : Ct G l yX12_readNumber wsX12_readNumber ({ frames := 3, cells := 0, slots := 0, locals := 66 }) 0 0 [.ref x, .int (nI a), .int b] Φ sz (fun v Φ1 sz1 => (v = some (.int 0) ∨ v = some (.int 1)) ∧ sz1 = sz ∧ (∃ (nx1 : Nat) (kn1 : Int32) (ec1 : Int32) (nu1 : Int32) (va1 : Int64), (nx ≤ nx1) ∧ ((v = some (.int 0) ∧ ¬ ec1 = 0) ∨ (v = some (.int 1) ∧ kn = 2 ∧ ec = ec1 ∧ ∃ n9 : Nat, a ≤ n9 ∧ (n9 : Int) ≤ (b : Int32).toInt ∧ nu1 = nI n9)) ∧ Im G x (NN, NN, fl, pe, le, nx1, il, qu, kn1, ec1, nu1, va1) Φ1) ∧ Fr x (fun j9 => j9 = 0) Φ Φ1) := by
  refine Ct.of (cc := cX12_readNumber) (maxL := 3) (ret := (some .boolean)) (by decide) rfl (Nat.le_of_ble_eq_true rfl) ?_
  intro p9 e9 s9 m9 w9 t9 k9 B
  show Z p9 l e9 _ s9 m9 _ w9 t9 k9 _ G 3 0 [(0, .ref x), (1, .int (nI a)), (2, .int b)] [] Φ sz 0 0
  refine z_aload_n B dX12_readNumber_0 rfl 0 rfl ?_
  obtain ⟨v_1, v_2, v_3, n_1, v_4, v_5, v_6, v_7, v_8, v_9, v_10, v_11, v_12, n_2, v_13, n_3, n_4, v_14, v_15, h_1, b_12, b_1, b_2, b_3, b_4, b_5, b_6, b_7, b_8, b_9, b_10, b_11⟩ := im0 hI
  replace b_1 : 1 ≤ n_1 := b_1
  replace b_2 : n_1 ≤ 1024 := b_2
  replace b_3 : fl ≤ 12 := b_3
  replace b_4 : pe ≤ 24 := b_4
  replace b_5 : le ≤ 700 := b_5
  replace b_6 : qu ≤ 12 := b_6
  replace b_7 : n_2 ≤ 8 := b_7
  replace b_8 : n_3 ≤ 24 := b_8
  replace b_9 : n_4 ≤ 24 := b_9
  replace b_10 : il ≤ 700 := b_10
  replace b_11 : nx ≤ 701 := b_11
  have h_2 : Φ x = some (o_ 14 [.int v_1, .ref (x + 1), .ref (x + 2), .int v_2, .int v_3, .int (nI n_1), .int v_4, .int v_5, .ref (x + 3), .ref (x + 4), .int v_6, .long v_7, .ref (x + 5), .int (nI fl), .int v_8, .long v_9, .long v_10, .long v_11, .long v_12, .ref (x + 6), .ref (x + 7), .int (nI pe), .ref (x + 8), .int (nI le), .ref (x + 9), .ref (x + 10), .int (nI qu), .ref (x + 11), .ref (x + 12), .ref (x + 13), .ref (x + 14), .ref (x + 15), .ref (x + 16), .int (nI n_2), .long v_13, .ref (x + 17), .ref (x + 18), .ref (x + 19), .ref (x + 20), .ref (x + 21), .ref (x + 22), .int (nI n_3), .ref (x + 23), .ref (x + 24), .int (nI n_4), .ref (x + 25), .int (nI il), .int (nI nx), .int ec, .int v_14, .int kn, .int v_15, .int nu, .long va]) := h_1
  refine z_get (ref := "FlowExporterModel") (C := RX12) (T := TX12) (N := 54) (ci := 14) (v := .int kn) B (by decide +kernel) rfl 50 (by decide) (by decide +kernel) rfl h_2 rfl dX12_readNumber_1 ?_
  refine z_iconst (v := 2) B dX12_readNumber_4 rfl ?_
  refine z_icmp_eq (tgt := 14) B dX12_readNumber_5 rfl (fun c_1 => ?_) (fun c_1 => ?_)
  · refine z_aload_n B dX12_readNumber_14 rfl 0 rfl ?_
    refine z_get (ref := "FlowExporterModel") (C := RX12) (T := TX12) (N := 54) (ci := 14) (v := .long va) B (by decide +kernel) rfl 53 (by decide) (by decide +kernel) rfl h_2 rfl dX12_readNumber_15 ?_
    refine z_iload_n B dX12_readNumber_18 rfl 1 rfl ?_
    refine z_i2l (v := (nI a).toInt64) B dX12_readNumber_19 rfl ?_
    refine z_iload_n B dX12_readNumber_20 rfl 2 rfl ?_
    refine z_i2l (v := b.toInt64) B dX12_readNumber_21 rfl ?_
    by_cases hR1 : inP va ((nI a).toInt64) b.toInt64
    · obtain ⟨n_5, e_1, e_2, e_3, rfl⟩ := inL_get (L := a) (H := (b).toInt) (natL (by omega)) (Int32.toInt_toInt64 _) hR1
      refine z_callS (As := [.long (Int64.ofNat n_5), .long ((nI a).toInt64), .long b.toInt64]) (rest := []) B (c_inR1 G l Φ sz (Int64.ofNat n_5) ((nI a).toInt64) b.toInt64 hR1 (fun v8 Φ8 sz8 => v8 = some (.int 1) ∧ sz8 = sz ∧ Im G x (NN, NN, fl, pe, le, nx, il, qu, kn, ec, nu, Int64.ofNat n_5) Φ8 ∧ Fr x (fun j9 => False) Φ Φ8) ⟨rfl, rfl, hI, fun _ _ => rfl⟩) (va_cwS 3 B.1.2.2.2.2 gX12_readNumber_X12_inRange rfl rfl rfl (by decide +kernel) ⟨Nat.le_of_ble_eq_true rfl, Nat.le_of_ble_eq_true rfl⟩) rfl rfl (Nat.le_of_ble_eq_true rfl) dX12_readNumber_22 ⟨Nat.le_of_ble_eq_true rfl, Nat.le_of_ble_eq_true rfl⟩ (fun r_1 Φ1 sz1 st1 hp1 hs1 => ?_)
      obtain ⟨rfl, hq1, hI1, hF1⟩ := hp1
      subst sz1
      replace hs1 : st1 = [.int 1] := hs1
      subst st1
      refine z_if_ne (tgt := 34) B dX12_readNumber_25 rfl (fun c_2 => ?_) (fun h9 => absurd h9 (by decide))
      refine z_aload_n B dX12_readNumber_34 rfl 0 rfl ?_
      refine z_aload_n B dX12_readNumber_35 rfl 0 rfl ?_
      have h_3 : Φ1 x = some (o_ 14 [.int v_1, .ref (x + 1), .ref (x + 2), .int v_2, .int v_3, .int (nI n_1), .int v_4, .int v_5, .ref (x + 3), .ref (x + 4), .int v_6, .long v_7, .ref (x + 5), .int (nI fl), .int v_8, .long v_9, .long v_10, .long v_11, .long v_12, .ref (x + 6), .ref (x + 7), .int (nI pe), .ref (x + 8), .int (nI le), .ref (x + 9), .ref (x + 10), .int (nI qu), .ref (x + 11), .ref (x + 12), .ref (x + 13), .ref (x + 14), .ref (x + 15), .ref (x + 16), .int (nI n_2), .long v_13, .ref (x + 17), .ref (x + 18), .ref (x + 19), .ref (x + 20), .ref (x + 21), .ref (x + 22), .int (nI n_3), .ref (x + 23), .ref (x + 24), .int (nI n_4), .ref (x + 25), .int (nI il), .int (nI nx), .int ec, .int v_14, .int kn, .int v_15, .int nu, .long (Int64.ofNat n_5)]) := ((hF1 x (fun j9 h8 h7 => (show False from h7).elim)).trans h_2)
      refine z_get (ref := "FlowExporterModel") (C := RX12) (T := TX12) (N := 54) (ci := 14) (v := .long (Int64.ofNat n_5)) B (by decide +kernel) rfl 53 (by decide) (by decide +kernel) rfl h_3 rfl dX12_readNumber_36 ?_
      refine z_l2i (v := (Int64.ofNat n_5).toInt32) B dX12_readNumber_39 rfl ?_
      have b_13 := Int32.toInt_lt b
      refine z_top (st1 := [.int (nI n_5), .ref x]) (congrArg (fun w9 : Int32 => ([.int w9, .ref x] : List Value)) (ofL (by omega))) ?_
      refine z_put (ref := "FlowExporterModel") (C := RX12) (T := TX12) (N := 54) (ci := 14) (v := .int (nI n_5)) B (by decide +kernel) tyX12 tyX12_ok nmX12 rfl 52 (by decide) (by decide +kernel) rfl (Or.inl rfl) h_3 hx rfl rfl (Nat.le_of_ble_eq_true rfl) dX12_readNumber_40 (fun Φ2 hΦ1 => ?_)
      have h_4 : Φ2 x = some (o_ 14 [.int v_1, .ref (x + 1), .ref (x + 2), .int v_2, .int v_3, .int (nI n_1), .int v_4, .int v_5, .ref (x + 3), .ref (x + 4), .int v_6, .long v_7, .ref (x + 5), .int (nI fl), .int v_8, .long v_9, .long v_10, .long v_11, .long v_12, .ref (x + 6), .ref (x + 7), .int (nI pe), .ref (x + 8), .int (nI le), .ref (x + 9), .ref (x + 10), .int (nI qu), .ref (x + 11), .ref (x + 12), .ref (x + 13), .ref (x + 14), .ref (x + 15), .ref (x + 16), .int (nI n_2), .long v_13, .ref (x + 17), .ref (x + 18), .ref (x + 19), .ref (x + 20), .ref (x + 21), .ref (x + 22), .int (nI n_3), .ref (x + 23), .ref (x + 24), .int (nI n_4), .ref (x + 25), .int (nI il), .int (nI nx), .int ec, .int v_14, .int kn, .int v_15, .int (nI n_5), .long (Int64.ofNat n_5)]) := fset_at hΦ1
      have hI2 : Im G x (NN, NN, fl, pe, le, nx, il, qu, kn, ec, nI n_5, Int64.ofNat n_5) Φ2 := Im.put0 hI1 hΦ1 ⟨v_1, v_2, v_3, n_1, v_4, v_5, v_6, v_7, v_8, v_9, v_10, v_11, v_12, n_2, v_13, n_3, n_4, v_14, v_15, rfl, b_12, (show 1 ≤ n_1 by omega), (show n_1 ≤ 1024 by omega), (show fl ≤ 12 by omega), (show pe ≤ 24 by omega), (show le ≤ 700 by omega), (show qu ≤ 12 by omega), (show n_2 ≤ 8 by omega), (show n_3 ≤ 24 by omega), (show n_4 ≤ 24 by omega), (show il ≤ 700 by omega), (show nx ≤ 701 by omega)⟩
      refine z_aload_n B dX12_readNumber_43 rfl 0 rfl ?_
      refine z_callV (As := []) (rest := []) B (r_advanceToken G l Φ2 sz x NN fl pe le nx il qu kn ec (nI n_5) (Int64.ofNat n_5)  hx hI2 ) (cwV 0 B.1.2.2.2.2 gX12_readNumber_X12_advanceToken rfl rfl rfl (by decide +kernel) ⟨Nat.le_of_ble_eq_true rfl, Nat.le_of_ble_eq_true rfl⟩) h_4 rfl rfl rfl rfl (Nat.le_of_ble_eq_true rfl) dX12_readNumber_44 ⟨Nat.le_of_ble_eq_true rfl, Nat.le_of_ble_eq_true rfl⟩ (fun r_2 Φ3 sz2 st2 hp2 hs2 => ?_)
      obtain ⟨rfl, hq2, ⟨n_6, v_16, v_17, b_14, b_15, hI3⟩, hF2⟩ := hp2
      subst sz2
      replace hs2 : st2 = [] := hs2
      subst st2
      replace hI3 : Im G x (NN, NN, fl, pe, le, n_6, il, qu, v_16, ec, nI n_5, v_17) Φ3 := hI3
      replace b_14 : nx ≤ n_6 := b_14
      replace b_15 : v_16 = 0 ∨ nx < n_6 := b_15
      refine z_iconst (v := 1) B dX12_readNumber_47 rfl ?_
      refine z_ret_z B dX12_readNumber_48 (by decide) ⟨(Or.inr rfl), rfl, ⟨n_6, v_16, ec, nI n_5, v_17, ?_, ?_, hI3⟩, ?_⟩
      · exact (show nx ≤ n_6 by omega)
      · exact (Or.inr ⟨rfl, c_1, rfl, n_5, (show a ≤ n_5 by omega), (show (n_5 : Int) ≤ b.toInt by omega), rfl⟩)
      · exact (fun b9 h9 => ((hF2 b9 (fun j9 h8 h7 => h9 j9 h8 (show j9 = 0 by have h6 : j9 = 0 := h7; omega))).trans ((fset_fr hΦ1 (fun h8 => h9 (0) h8 (show 0 = 0 by omega))).trans ((hF1 b9 (fun j9 h8 h7 => (show False from h7).elim)).trans rfl))))
    · refine z_callS (As := [.long va, .long ((nI a).toInt64), .long b.toInt64]) (rest := []) B (c_inR0 G l Φ sz va ((nI a).toInt64) b.toInt64 hR1 (fun v8 Φ8 sz8 => v8 = some (.int 0) ∧ sz8 = sz ∧ Im G x (NN, NN, fl, pe, le, nx, il, qu, kn, ec, nu, va) Φ8 ∧ Fr x (fun j9 => False) Φ Φ8) ⟨rfl, rfl, hI, fun _ _ => rfl⟩) (va_cwS 3 B.1.2.2.2.2 gX12_readNumber_X12_inRange rfl rfl rfl (by decide +kernel) ⟨Nat.le_of_ble_eq_true rfl, Nat.le_of_ble_eq_true rfl⟩) rfl rfl (Nat.le_of_ble_eq_true rfl) dX12_readNumber_22 ⟨Nat.le_of_ble_eq_true rfl, Nat.le_of_ble_eq_true rfl⟩ (fun r_3 Φ4 sz3 st3 hp3 hs3 => ?_)
      obtain ⟨rfl, hq3, hI4, hF3⟩ := hp3
      subst sz3
      replace hs3 : st3 = [.int 0] := hs3
      subst st3
      refine z_if_ne (tgt := 34) B dX12_readNumber_25 rfl (fun h9 => absurd (by decide) h9) (fun c_3 => ?_)
      refine z_aload_n B dX12_readNumber_28 rfl 0 rfl ?_
      refine z_iconst (v := 2) B dX12_readNumber_29 rfl ?_
      have h_5 : Φ4 x = some (o_ 14 [.int v_1, .ref (x + 1), .ref (x + 2), .int v_2, .int v_3, .int (nI n_1), .int v_4, .int v_5, .ref (x + 3), .ref (x + 4), .int v_6, .long v_7, .ref (x + 5), .int (nI fl), .int v_8, .long v_9, .long v_10, .long v_11, .long v_12, .ref (x + 6), .ref (x + 7), .int (nI pe), .ref (x + 8), .int (nI le), .ref (x + 9), .ref (x + 10), .int (nI qu), .ref (x + 11), .ref (x + 12), .ref (x + 13), .ref (x + 14), .ref (x + 15), .ref (x + 16), .int (nI n_2), .long v_13, .ref (x + 17), .ref (x + 18), .ref (x + 19), .ref (x + 20), .ref (x + 21), .ref (x + 22), .int (nI n_3), .ref (x + 23), .ref (x + 24), .int (nI n_4), .ref (x + 25), .int (nI il), .int (nI nx), .int ec, .int v_14, .int kn, .int v_15, .int nu, .long va]) := ((hF3 x (fun j9 h8 h7 => (show False from h7).elim)).trans h_2)
      refine z_callV (As := [.int 2]) (rest := []) B (r_fail G l Φ4 sz x NN fl pe le nx il qu kn ec nu va 2 hx hI4 ) (cwV 1 B.1.2.2.2.2 gX12_readNumber_X12_fail rfl rfl rfl (by decide +kernel) ⟨Nat.le_of_ble_eq_true rfl, Nat.le_of_ble_eq_true rfl⟩) h_5 rfl rfl rfl rfl (Nat.le_of_ble_eq_true rfl) dX12_readNumber_30 ⟨Nat.le_of_ble_eq_true rfl, Nat.le_of_ble_eq_true rfl⟩ (fun r_4 Φ5 sz4 st4 hp4 hs4 => ?_)
      obtain ⟨rfl, hq4, hI5, hF4⟩ := hp4
      subst sz4
      replace hs4 : st4 = [.int 0] := hs4
      subst st4
      replace hI5 : Im G x (NN, NN, fl, pe, le, nx, il, qu, kn, 2, nu, va) Φ5 := hI5
      refine z_ret_z B dX12_readNumber_33 (by decide) ⟨(Or.inl rfl), rfl, ⟨nx, kn, 2, nu, va, ?_, ?_, hI5⟩, ?_⟩
      · exact (show nx ≤ nx by omega)
      · exact (Or.inl ⟨rfl, by decide⟩)
      · exact (fun b9 h9 => ((hF4 b9 (fun j9 h8 h7 => h9 j9 h8 (show j9 = 0 by have h6 : j9 = 0 := h7; omega))).trans ((hF3 b9 (fun j9 h8 h7 => (show False from h7).elim)).trans rfl)))
  · refine z_aload_n B dX12_readNumber_8 rfl 0 rfl ?_
    refine z_iconst (v := 1) B dX12_readNumber_9 rfl ?_
    refine z_callV (As := [.int 1]) (rest := []) B (r_fail G l Φ sz x NN fl pe le nx il qu kn ec nu va 1 hx hI ) (cwV 1 B.1.2.2.2.2 gX12_readNumber_X12_fail rfl rfl rfl (by decide +kernel) ⟨Nat.le_of_ble_eq_true rfl, Nat.le_of_ble_eq_true rfl⟩) h_2 rfl rfl rfl rfl (Nat.le_of_ble_eq_true rfl) dX12_readNumber_10 ⟨Nat.le_of_ble_eq_true rfl, Nat.le_of_ble_eq_true rfl⟩ (fun r_5 Φ6 sz5 st5 hp5 hs5 => ?_)
    obtain ⟨rfl, hq5, hI6, hF5⟩ := hp5
    subst sz5
    replace hs5 : st5 = [.int 0] := hs5
    subst st5
    replace hI6 : Im G x (NN, NN, fl, pe, le, nx, il, qu, kn, 1, nu, va) Φ6 := hI6
    refine z_ret_z B dX12_readNumber_13 (by decide) ⟨(Or.inl rfl), rfl, ⟨nx, kn, 1, nu, va, ?_, ?_, hI6⟩, ?_⟩
    · exact (show nx ≤ nx by omega)
    · exact (Or.inl ⟨rfl, by decide⟩)
    · exact (fun b9 h9 => ((hF5 b9 (fun j9 h8 h7 => h9 j9 h8 (show j9 = 0 by have h6 : j9 = 0 := h7; omega))).trans rfl))

set_option maxHeartbeats 4000000 in
set_option maxRecDepth 100000 in
theorem r_readEnd (G : EnvG) (l : Launch) (Φ : Hm) (sz x : Nat) (fl : Nat) (pe : Nat) (le : Nat) (nx : Nat) (il : Nat) (qu : Nat) (kn : Int32) (ec : Int32) (nu : Int32) (va : Int64)  (hx : G.2.2.2 ≤ x) (hI : Im G x (NN, NN, fl, pe, le, nx, il, qu, kn, ec, nu, va) Φ)  : Ct G l yX12_readEnd wsX12_readEnd ({ frames := 3, cells := 0, slots := 0, locals := 66 }) 0 0 [.ref x] Φ sz (fun v Φ1 sz1 => (v = some (.int 0) ∨ v = some (.int 1)) ∧ sz1 = sz ∧ (∃ (nx1 : Nat) (kn1 : Int32) (ec1 : Int32) (nu1 : Int32) (va1 : Int64), (nx ≤ nx1) ∧ ((v = some (.int 0) ∧ ¬ ec1 = 0) ∨ (v = some (.int 1) ∧ ec = ec1)) ∧ Im G x (NN, NN, fl, pe, le, nx1, il, qu, kn1, ec1, nu1, va1) Φ1) ∧ Fr x (fun j9 => j9 = 0) Φ Φ1) := by
  refine Ct.of (cc := cX12_readEnd) (maxL := 1) (ret := (some .boolean)) (by decide) rfl (Nat.le_of_ble_eq_true rfl) ?_
  intro p9 e9 s9 m9 w9 t9 k9 B
  show Z p9 l e9 _ s9 m9 _ w9 t9 k9 _ G 1 0 [(0, .ref x)] [] Φ sz 0 0
  refine z_aload_n B dX12_readEnd_0 rfl 0 rfl ?_
  obtain ⟨v_1, v_2, v_3, n_1, v_4, v_5, v_6, v_7, v_8, v_9, v_10, v_11, v_12, n_2, v_13, n_3, n_4, v_14, v_15, h_1, b_12, b_1, b_2, b_3, b_4, b_5, b_6, b_7, b_8, b_9, b_10, b_11⟩ := im0 hI
  replace b_1 : 1 ≤ n_1 := b_1
  replace b_2 : n_1 ≤ 1024 := b_2
  replace b_3 : fl ≤ 12 := b_3
  replace b_4 : pe ≤ 24 := b_4
  replace b_5 : le ≤ 700 := b_5
  replace b_6 : qu ≤ 12 := b_6
  replace b_7 : n_2 ≤ 8 := b_7
  replace b_8 : n_3 ≤ 24 := b_8
  replace b_9 : n_4 ≤ 24 := b_9
  replace b_10 : il ≤ 700 := b_10
  replace b_11 : nx ≤ 701 := b_11
  have h_2 : Φ x = some (o_ 14 [.int v_1, .ref (x + 1), .ref (x + 2), .int v_2, .int v_3, .int (nI n_1), .int v_4, .int v_5, .ref (x + 3), .ref (x + 4), .int v_6, .long v_7, .ref (x + 5), .int (nI fl), .int v_8, .long v_9, .long v_10, .long v_11, .long v_12, .ref (x + 6), .ref (x + 7), .int (nI pe), .ref (x + 8), .int (nI le), .ref (x + 9), .ref (x + 10), .int (nI qu), .ref (x + 11), .ref (x + 12), .ref (x + 13), .ref (x + 14), .ref (x + 15), .ref (x + 16), .int (nI n_2), .long v_13, .ref (x + 17), .ref (x + 18), .ref (x + 19), .ref (x + 20), .ref (x + 21), .ref (x + 22), .int (nI n_3), .ref (x + 23), .ref (x + 24), .int (nI n_4), .ref (x + 25), .int (nI il), .int (nI nx), .int ec, .int v_14, .int kn, .int v_15, .int nu, .long va]) := h_1
  refine z_get (ref := "FlowExporterModel") (C := RX12) (T := TX12) (N := 54) (ci := 14) (v := .int kn) B (by decide +kernel) rfl 50 (by decide) (by decide +kernel) rfl h_2 rfl dX12_readEnd_1 ?_
  refine z_iconst (v := 3) B dX12_readEnd_4 rfl ?_
  refine z_icmp_eq (tgt := 14) B dX12_readEnd_5 rfl (fun c_1 => ?_) (fun c_1 => ?_)
  · refine z_aload_n B dX12_readEnd_14 rfl 0 rfl ?_
    refine z_callV (As := []) (rest := []) B (r_advanceToken G l Φ sz x NN fl pe le nx il qu kn ec nu va  hx hI ) (cwV 0 B.1.2.2.2.2 gX12_readEnd_X12_advanceToken rfl rfl rfl (by decide +kernel) ⟨Nat.le_of_ble_eq_true rfl, Nat.le_of_ble_eq_true rfl⟩) h_2 rfl rfl rfl rfl (Nat.le_of_ble_eq_true rfl) dX12_readEnd_15 ⟨Nat.le_of_ble_eq_true rfl, Nat.le_of_ble_eq_true rfl⟩ (fun r_1 Φ1 sz1 st1 hp1 hs1 => ?_)
    obtain ⟨rfl, hq1, ⟨n_5, v_16, v_17, b_13, b_14, hI1⟩, hF1⟩ := hp1
    subst sz1
    replace hs1 : st1 = [] := hs1
    subst st1
    replace hI1 : Im G x (NN, NN, fl, pe, le, n_5, il, qu, v_16, ec, nu, v_17) Φ1 := hI1
    replace b_13 : nx ≤ n_5 := b_13
    replace b_14 : v_16 = 0 ∨ nx < n_5 := b_14
    refine z_iconst (v := 1) B dX12_readEnd_18 rfl ?_
    exact z_ret_z B dX12_readEnd_19 (by decide) ⟨(Or.inr rfl), rfl, ⟨n_5, v_16, ec, nu, v_17, (show nx ≤ n_5 by omega), (Or.inr ⟨rfl, rfl⟩), hI1⟩, (fun b9 h9 => ((hF1 b9 (fun j9 h8 h7 => h9 j9 h8 (show j9 = 0 by have h6 : j9 = 0 := h7; omega))).trans rfl))⟩
  · refine z_aload_n B dX12_readEnd_8 rfl 0 rfl ?_
    refine z_iconst (v := 1) B dX12_readEnd_9 rfl ?_
    refine z_callV (As := [.int 1]) (rest := []) B (r_fail G l Φ sz x NN fl pe le nx il qu kn ec nu va 1 hx hI ) (cwV 1 B.1.2.2.2.2 gX12_readEnd_X12_fail rfl rfl rfl (by decide +kernel) ⟨Nat.le_of_ble_eq_true rfl, Nat.le_of_ble_eq_true rfl⟩) h_2 rfl rfl rfl rfl (Nat.le_of_ble_eq_true rfl) dX12_readEnd_10 ⟨Nat.le_of_ble_eq_true rfl, Nat.le_of_ble_eq_true rfl⟩ (fun r_2 Φ2 sz2 st2 hp2 hs2 => ?_)
    obtain ⟨rfl, hq2, hI2, hF2⟩ := hp2
    subst sz2
    replace hs2 : st2 = [.int 0] := hs2
    subst st2
    replace hI2 : Im G x (NN, NN, fl, pe, le, nx, il, qu, kn, 1, nu, va) Φ2 := hI2
    exact z_ret_z B dX12_readEnd_13 (by decide) ⟨(Or.inl rfl), rfl, ⟨nx, kn, 1, nu, va, (show nx ≤ nx by omega), (Or.inl ⟨rfl, by decide⟩), hI2⟩, (fun b9 h9 => ((hF2 b9 (fun j9 h8 h7 => h9 j9 h8 (show j9 = 0 by have h6 : j9 = 0 := h7; omega))).trans rfl))⟩

set_option maxHeartbeats 4000000 in
set_option maxRecDepth 100000 in
theorem r_readInto (G : EnvG) (l : Launch) (Φ : Hm) (sz x : Nat) (fl : Nat) (pe : Nat) (le : Nat) (nx : Nat) (il : Nat) (qu : Nat) (kn : Int32) (ec : Int32) (nu : Int32) (va : Int64) (w : Nat) (a : Nat) (b : Int32) (hx : G.2.2.2 ≤ x) (hI : Im G x (NN, NN, fl, pe, le, nx, il, qu, kn, ec, nu, va) Φ) (ha : a < 2 ^ 31) (hw : w < 307) (hW : ∀ n : Nat, a ≤ n → (n : Int) ≤ (b : Int32).toInt → ∀ f : Nat → Int32, NN f → NN (upd f w (nI n))) : Ct G l yX12_readInto wsX12_readInto ({ frames := 4, cells := 0, slots := 0, locals := 88 }) 0 0 [.ref x, .int (nI w), .int (nI a), .int b] Φ sz (fun v Φ1 sz1 => (v = some (.int 0) ∨ v = some (.int 1)) ∧ sz1 = sz ∧ (∃ (nx1 : Nat) (kn1 : Int32) (ec1 : Int32) (nu1 : Int32) (va1 : Int64), (nx ≤ nx1) ∧ ((v = some (.int 0) ∧ ¬ ec1 = 0) ∨ (v = some (.int 1) ∧ kn = 2 ∧ ec = ec1)) ∧ Im G x (NN, NN, fl, pe, le, nx1, il, qu, kn1, ec1, nu1, va1) Φ1) ∧ Fr x (fun j9 => j9 = 0 ∨ j9 = 1) Φ Φ1) := by
  refine Ct.of (cc := cX12_readInto) (maxL := 4) (ret := (some .boolean)) (by decide) rfl (Nat.le_of_ble_eq_true rfl) ?_
  intro p9 e9 s9 m9 w9 t9 k9 B
  show Z p9 l e9 _ s9 m9 _ w9 t9 k9 _ G 4 0 [(0, .ref x), (1, .int (nI w)), (2, .int (nI a)), (3, .int b)] [] Φ sz 0 0
  refine z_aload_n B dX12_readInto_0 rfl 0 rfl ?_
  refine z_iload_n B dX12_readInto_1 rfl 2 rfl ?_
  refine z_iload_n B dX12_readInto_2 rfl 3 rfl ?_
  obtain ⟨v_1, v_2, v_3, n_1, v_4, v_5, v_6, v_7, v_8, v_9, v_10, v_11, v_12, n_2, v_13, n_3, n_4, v_14, v_15, h_1, b_12, b_1, b_2, b_3, b_4, b_5, b_6, b_7, b_8, b_9, b_10, b_11⟩ := im0 hI
  replace b_1 : 1 ≤ n_1 := b_1
  replace b_2 : n_1 ≤ 1024 := b_2
  replace b_3 : fl ≤ 12 := b_3
  replace b_4 : pe ≤ 24 := b_4
  replace b_5 : le ≤ 700 := b_5
  replace b_6 : qu ≤ 12 := b_6
  replace b_7 : n_2 ≤ 8 := b_7
  replace b_8 : n_3 ≤ 24 := b_8
  replace b_9 : n_4 ≤ 24 := b_9
  replace b_10 : il ≤ 700 := b_10
  replace b_11 : nx ≤ 701 := b_11
  have h_2 : Φ x = some (o_ 14 [.int v_1, .ref (x + 1), .ref (x + 2), .int v_2, .int v_3, .int (nI n_1), .int v_4, .int v_5, .ref (x + 3), .ref (x + 4), .int v_6, .long v_7, .ref (x + 5), .int (nI fl), .int v_8, .long v_9, .long v_10, .long v_11, .long v_12, .ref (x + 6), .ref (x + 7), .int (nI pe), .ref (x + 8), .int (nI le), .ref (x + 9), .ref (x + 10), .int (nI qu), .ref (x + 11), .ref (x + 12), .ref (x + 13), .ref (x + 14), .ref (x + 15), .ref (x + 16), .int (nI n_2), .long v_13, .ref (x + 17), .ref (x + 18), .ref (x + 19), .ref (x + 20), .ref (x + 21), .ref (x + 22), .int (nI n_3), .ref (x + 23), .ref (x + 24), .int (nI n_4), .ref (x + 25), .int (nI il), .int (nI nx), .int ec, .int v_14, .int kn, .int v_15, .int nu, .long va]) := h_1
  refine z_callV (As := [.int (nI a), .int b]) (rest := []) B (r_readNumber G l Φ sz x fl pe le nx il qu kn ec nu va a b hx hI (show a < 2 ^ 31 by omega)) (cwV 2 B.1.2.2.2.2 gX12_readInto_X12_readNumber rfl rfl rfl (by decide +kernel) ⟨Nat.le_of_ble_eq_true rfl, Nat.le_of_ble_eq_true rfl⟩) h_2 rfl rfl rfl rfl (Nat.le_of_ble_eq_true rfl) dX12_readInto_3 ⟨Nat.le_of_ble_eq_true rfl, Nat.le_of_ble_eq_true rfl⟩ (fun r_1 Φ1 sz1 st1 hp1 hs1 => ?_)
  obtain ⟨-, hq1, ⟨n_5, v_16, v_17, v_18, v_19, b_13, b_14, hI1⟩, hF1⟩ := hp1
  subst sz1
  replace hI1 : Im G x (NN, NN, fl, pe, le, n_5, il, qu, v_16, v_17, v_18, v_19) Φ1 := hI1
  replace b_13 : nx ≤ n_5 := b_13
  replace b_14 : (r_1 = some (.int 0) ∧ ¬ v_17 = 0) ∨ (r_1 = some (.int 1) ∧ kn = 2 ∧ ec = v_17 ∧ ∃ n9 : Nat, a ≤ n9 ∧ (n9 : Int) ≤ (b : Int32).toInt ∧ v_18 = nI n9) := b_14
  rcases b_14 with ⟨rfl, q_2⟩ | ⟨rfl, q_1, rfl, n_6, b_15, b_16, rfl⟩
  · replace hs1 : st1 = [.int 0] := hs1
    subst st1
    refine z_if_ne (tgt := 11) B dX12_readInto_6 rfl (fun h9 => absurd (by decide) h9) (fun c_1 => ?_)
    refine z_iconst (v := 0) B dX12_readInto_9 rfl ?_
    exact z_ret_z B dX12_readInto_10 (by decide) ⟨(Or.inl rfl), rfl, ⟨n_5, v_16, v_17, v_18, v_19, (show nx ≤ n_5 by omega), (Or.inl ⟨rfl, q_2⟩), hI1⟩, (fun b9 h9 => ((hF1 b9 (fun j9 h8 h7 => h9 j9 h8 (show j9 = 0 ∨ j9 = 1 by have h6 : j9 = 0 := h7; omega))).trans rfl))⟩
  · replace hs1 : st1 = [.int 1] := hs1
    subst st1
    have b_17 := Int32.toInt_lt (b)
    refine z_if_ne (tgt := 11) B dX12_readInto_6 rfl (fun c_2 => ?_) (fun h9 => absurd h9 (by decide))
    refine z_aload_n B dX12_readInto_11 rfl 0 rfl ?_
    obtain ⟨v_20, v_21, v_22, n_7, v_23, v_24, v_25, v_26, v_27, v_28, v_29, v_30, v_31, n_8, v_32, n_9, n_10, v_33, v_34, h_3, b_29, b_18, b_19, b_20, b_21, b_22, b_23, b_24, b_25, b_26, b_27, b_28⟩ := im0 hI1
    replace b_18 : 1 ≤ n_7 := b_18
    replace b_19 : n_7 ≤ 1024 := b_19
    replace b_20 : fl ≤ 12 := b_20
    replace b_21 : pe ≤ 24 := b_21
    replace b_22 : le ≤ 700 := b_22
    replace b_23 : qu ≤ 12 := b_23
    replace b_24 : n_8 ≤ 8 := b_24
    replace b_25 : n_9 ≤ 24 := b_25
    replace b_26 : n_10 ≤ 24 := b_26
    replace b_27 : il ≤ 700 := b_27
    replace b_28 : n_5 ≤ 701 := b_28
    have h_4 : Φ1 x = some (o_ 14 [.int v_20, .ref (x + 1), .ref (x + 2), .int v_21, .int v_22, .int (nI n_7), .int v_23, .int v_24, .ref (x + 3), .ref (x + 4), .int v_25, .long v_26, .ref (x + 5), .int (nI fl), .int v_27, .long v_28, .long v_29, .long v_30, .long v_31, .ref (x + 6), .ref (x + 7), .int (nI pe), .ref (x + 8), .int (nI le), .ref (x + 9), .ref (x + 10), .int (nI qu), .ref (x + 11), .ref (x + 12), .ref (x + 13), .ref (x + 14), .ref (x + 15), .ref (x + 16), .int (nI n_8), .long v_32, .ref (x + 17), .ref (x + 18), .ref (x + 19), .ref (x + 20), .ref (x + 21), .ref (x + 22), .int (nI n_9), .ref (x + 23), .ref (x + 24), .int (nI n_10), .ref (x + 25), .int (nI il), .int (nI n_5), .int ec, .int v_33, .int v_16, .int v_34, .int (nI n_6), .long v_19]) := h_3
    refine z_get (ref := "FlowExporterModel") (C := RX12) (T := TX12) (N := 54) (ci := 14) (v := .ref (x + 1)) B (by decide +kernel) rfl 1 (by decide) (by decide +kernel) rfl h_4 rfl dX12_readInto_12 ?_
    refine z_iload_n B dX12_readInto_15 rfl 1 rfl ?_
    refine z_aload_n B dX12_readInto_16 rfl 0 rfl ?_
    refine z_get (ref := "FlowExporterModel") (C := RX12) (T := TX12) (N := 54) (ci := 14) (v := .int (nI n_6)) B (by decide +kernel) rfl 52 (by decide) (by decide +kernel) rfl h_4 rfl dX12_readInto_17 ?_
    obtain ⟨f_1, h_5, r_2⟩ := imk (k := 1) hI1
    replace r_2 : NN f_1 := r_2
    have h_6 : Φ1 (x + 1) = some (ai_ G 307 f_1) := h_5
    refine z_iast B h_6 (Nat.le_trans hx (Nat.le_add_right x 1)) (vp_in_nI (by omega) (by omega)) dX12_readInto_20 (fun Φ2 hΦ1 => ?_)
    have h_7 : Φ2 (x + 1) = some (ai_ G 307 (upd f_1 (nI w).toNatClampNeg (nI n_6))) := fset_at hΦ1
    have hI2 : Im G x (NN, NN, fl, pe, le, n_5, il, qu, v_16, ec, nI n_6, v_19) Φ2 := Im.put1 (rd1 := NN) hI1 hΦ1 (by rw [nI_clamp (n := w) (by omega)]; exact hW n_6 (by omega) (by omega) _ r_2)
    refine z_iconst (v := 1) B dX12_readInto_21 rfl ?_
    exact z_ret_z B dX12_readInto_22 (by decide) ⟨(Or.inr rfl), rfl, ⟨n_5, v_16, ec, nI n_6, v_19, (show nx ≤ n_5 by omega), (Or.inr ⟨rfl, q_1, rfl⟩), hI2⟩, (fun b9 h9 => ((fset_fr hΦ1 (fun h8 => h9 (1) h8 (show 1 = 0 ∨ 1 = 1 by omega))).trans ((hF1 b9 (fun j9 h8 h7 => h9 j9 h8 (show j9 = 0 ∨ j9 = 1 by have h6 : j9 = 0 := h7; omega))).trans rfl)))⟩

set_option maxHeartbeats 4000000 in
set_option maxRecDepth 100000 in
theorem r_readSetting (G : EnvG) (l : Launch) (Φ : Hm) (sz x : Nat) (fl : Nat) (pe : Nat) (le : Nat) (nx : Nat) (il : Nat) (qu : Nat) (kn : Int32) (ec : Int32) (nu : Int32) (va : Int64) (w : Nat) (a : Nat) (b : Int32) (hx : G.2.2.2 ≤ x) (hI : Im G x (NN, NN, fl, pe, le, nx, il, qu, kn, ec, nu, va) Φ) (ha : a < 2 ^ 31) (hw : w < 307) (hW : ∀ n : Nat, a ≤ n → (n : Int) ≤ (b : Int32).toInt → ∀ f : Nat → Int32, NN f → NN (upd f w (nI n))) : Ct G l yX12_readSetting wsX12_readSetting ({ frames := 5, cells := 0, slots := 0, locals := 111 }) 0 0 [.ref x, .int (nI w), .int (nI a), .int b] Φ sz (fun v Φ1 sz1 => (∃ r9 : Int32, v = some (.int r9) ∧ (r9 = 0 ∨ r9 = 1)) ∧ sz1 = sz ∧ (∃ (nx1 : Nat) (kn1 : Int32) (ec1 : Int32) (nu1 : Int32) (va1 : Int64), (nx ≤ nx1) ∧ (¬ ec1 = 0 ∨ nx < nx1) ∧ Im G x (NN, NN, fl, pe, le, nx1, il, qu, kn1, ec1, nu1, va1) Φ1) ∧ Fr x (fun j9 => j9 = 0 ∨ j9 = 1) Φ Φ1) := by
  refine Ct.of (cc := cX12_readSetting) (maxL := 4) (ret := (some .boolean)) (by decide) rfl (Nat.le_of_ble_eq_true rfl) ?_
  intro p9 e9 s9 m9 w9 t9 k9 B
  show Z p9 l e9 _ s9 m9 _ w9 t9 k9 _ G 4 0 [(0, .ref x), (1, .int (nI w)), (2, .int (nI a)), (3, .int b)] [] Φ sz 0 0
  refine z_aload_n B dX12_readSetting_0 rfl 0 rfl ?_
  obtain ⟨v_1, v_2, v_3, n_1, v_4, v_5, v_6, v_7, v_8, v_9, v_10, v_11, v_12, n_2, v_13, n_3, n_4, v_14, v_15, h_1, b_12, b_1, b_2, b_3, b_4, b_5, b_6, b_7, b_8, b_9, b_10, b_11⟩ := im0 hI
  replace b_1 : 1 ≤ n_1 := b_1
  replace b_2 : n_1 ≤ 1024 := b_2
  replace b_3 : fl ≤ 12 := b_3
  replace b_4 : pe ≤ 24 := b_4
  replace b_5 : le ≤ 700 := b_5
  replace b_6 : qu ≤ 12 := b_6
  replace b_7 : n_2 ≤ 8 := b_7
  replace b_8 : n_3 ≤ 24 := b_8
  replace b_9 : n_4 ≤ 24 := b_9
  replace b_10 : il ≤ 700 := b_10
  replace b_11 : nx ≤ 701 := b_11
  have h_2 : Φ x = some (o_ 14 [.int v_1, .ref (x + 1), .ref (x + 2), .int v_2, .int v_3, .int (nI n_1), .int v_4, .int v_5, .ref (x + 3), .ref (x + 4), .int v_6, .long v_7, .ref (x + 5), .int (nI fl), .int v_8, .long v_9, .long v_10, .long v_11, .long v_12, .ref (x + 6), .ref (x + 7), .int (nI pe), .ref (x + 8), .int (nI le), .ref (x + 9), .ref (x + 10), .int (nI qu), .ref (x + 11), .ref (x + 12), .ref (x + 13), .ref (x + 14), .ref (x + 15), .ref (x + 16), .int (nI n_2), .long v_13, .ref (x + 17), .ref (x + 18), .ref (x + 19), .ref (x + 20), .ref (x + 21), .ref (x + 22), .int (nI n_3), .ref (x + 23), .ref (x + 24), .int (nI n_4), .ref (x + 25), .int (nI il), .int (nI nx), .int ec, .int v_14, .int kn, .int v_15, .int nu, .long va]) := h_1
  refine z_callV (As := []) (rest := []) B (r_advanceToken G l Φ sz x NN fl pe le nx il qu kn ec nu va  hx hI ) (cwV 0 B.1.2.2.2.2 gX12_readSetting_X12_advanceToken rfl rfl rfl (by decide +kernel) ⟨Nat.le_of_ble_eq_true rfl, Nat.le_of_ble_eq_true rfl⟩) h_2 rfl rfl rfl rfl (Nat.le_of_ble_eq_true rfl) dX12_readSetting_1 ⟨Nat.le_of_ble_eq_true rfl, Nat.le_of_ble_eq_true rfl⟩ (fun r_1 Φ1 sz1 st1 hp1 hs1 => ?_)
  obtain ⟨rfl, hq1, ⟨n_5, v_16, v_17, b_13, b_14, hI1⟩, hF1⟩ := hp1
  subst sz1
  replace hs1 : st1 = [] := hs1
  subst st1
  replace hI1 : Im G x (NN, NN, fl, pe, le, n_5, il, qu, v_16, ec, nu, v_17) Φ1 := hI1
  replace b_13 : nx ≤ n_5 := b_13
  replace b_14 : v_16 = 0 ∨ nx < n_5 := b_14
  refine z_aload_n B dX12_readSetting_4 rfl 0 rfl ?_
  refine z_iload_n B dX12_readSetting_5 rfl 1 rfl ?_
  refine z_iload_n B dX12_readSetting_6 rfl 2 rfl ?_
  refine z_iload_n B dX12_readSetting_7 rfl 3 rfl ?_
  obtain ⟨v_18, v_19, v_20, n_6, v_21, v_22, v_23, v_24, v_25, v_26, v_27, v_28, v_29, n_7, v_30, n_8, n_9, v_31, v_32, h_3, b_26, b_15, b_16, b_17, b_18, b_19, b_20, b_21, b_22, b_23, b_24, b_25⟩ := im0 hI1
  replace b_15 : 1 ≤ n_6 := b_15
  replace b_16 : n_6 ≤ 1024 := b_16
  replace b_17 : fl ≤ 12 := b_17
  replace b_18 : pe ≤ 24 := b_18
  replace b_19 : le ≤ 700 := b_19
  replace b_20 : qu ≤ 12 := b_20
  replace b_21 : n_7 ≤ 8 := b_21
  replace b_22 : n_8 ≤ 24 := b_22
  replace b_23 : n_9 ≤ 24 := b_23
  replace b_24 : il ≤ 700 := b_24
  replace b_25 : n_5 ≤ 701 := b_25
  have h_4 : Φ1 x = some (o_ 14 [.int v_18, .ref (x + 1), .ref (x + 2), .int v_19, .int v_20, .int (nI n_6), .int v_21, .int v_22, .ref (x + 3), .ref (x + 4), .int v_23, .long v_24, .ref (x + 5), .int (nI fl), .int v_25, .long v_26, .long v_27, .long v_28, .long v_29, .ref (x + 6), .ref (x + 7), .int (nI pe), .ref (x + 8), .int (nI le), .ref (x + 9), .ref (x + 10), .int (nI qu), .ref (x + 11), .ref (x + 12), .ref (x + 13), .ref (x + 14), .ref (x + 15), .ref (x + 16), .int (nI n_7), .long v_30, .ref (x + 17), .ref (x + 18), .ref (x + 19), .ref (x + 20), .ref (x + 21), .ref (x + 22), .int (nI n_8), .ref (x + 23), .ref (x + 24), .int (nI n_9), .ref (x + 25), .int (nI il), .int (nI n_5), .int ec, .int v_31, .int v_16, .int v_32, .int nu, .long v_17]) := h_3
  refine z_callV (As := [.int (nI w), .int (nI a), .int b]) (rest := []) B (r_readInto G l Φ1 sz x fl pe le n_5 il qu v_16 ec nu v_17 w a b hx hI1 (show a < 2 ^ 31 by omega) (show w < 307 by omega) hW) (cwV 3 B.1.2.2.2.2 gX12_readSetting_X12_readInto rfl rfl rfl (by decide +kernel) ⟨Nat.le_of_ble_eq_true rfl, Nat.le_of_ble_eq_true rfl⟩) h_4 rfl rfl rfl rfl (Nat.le_of_ble_eq_true rfl) dX12_readSetting_8 ⟨Nat.le_of_ble_eq_true rfl, Nat.le_of_ble_eq_true rfl⟩ (fun r_2 Φ2 sz2 st2 hp2 hs2 => ?_)
  obtain ⟨-, hq2, ⟨n_10, v_33, v_34, v_35, v_36, b_27, b_28, hI2⟩, hF2⟩ := hp2
  subst sz2
  replace hI2 : Im G x (NN, NN, fl, pe, le, n_10, il, qu, v_33, v_34, v_35, v_36) Φ2 := hI2
  replace b_27 : n_5 ≤ n_10 := b_27
  replace b_28 : (r_2 = some (.int 0) ∧ ¬ v_34 = 0) ∨ (r_2 = some (.int 1) ∧ v_16 = 2 ∧ ec = v_34) := b_28
  rcases b_28 with ⟨rfl, q_2⟩ | ⟨rfl, q_1, rfl⟩
  · replace hs2 : st2 = [.int 0] := hs2
    subst st2
    refine z_if_eq (tgt := 25) B dX12_readSetting_11 rfl (fun c_1 => ?_) (fun h9 => absurd (by decide) h9)
    refine z_iconst (v := 0) B dX12_readSetting_25 rfl ?_
    exact z_ret_z B dX12_readSetting_26 (by decide) ⟨⟨_, rfl, by decide⟩, rfl, ⟨n_10, v_33, v_34, v_35, v_36, (show nx ≤ n_10 by omega), (Or.inl q_2), hI2⟩, (fun b9 h9 => ((hF2 b9 (fun j9 h8 h7 => h9 j9 h8 (show j9 = 0 ∨ j9 = 1 by have h6 : j9 = 0 ∨ j9 = 1 := h7; omega))).trans ((hF1 b9 (fun j9 h8 h7 => h9 j9 h8 (show j9 = 0 ∨ j9 = 1 by have h6 : j9 = 0 := h7; omega))).trans rfl)))⟩
  · have b_29 := Or.resolve_left b_14 (fun h9 => absurd (h9.symm.trans q_1) (by decide))
    replace hs2 : st2 = [.int 1] := hs2
    subst st2
    refine z_if_eq (tgt := 25) B dX12_readSetting_11 rfl (fun h9 => absurd h9 (by decide)) (fun c_2 => ?_)
    refine z_aload_n B dX12_readSetting_14 rfl 0 rfl ?_
    obtain ⟨v_37, v_38, v_39, n_11, v_40, v_41, v_42, v_43, v_44, v_45, v_46, v_47, v_48, n_12, v_49, n_13, n_14, v_50, v_51, h_5, b_41, b_30, b_31, b_32, b_33, b_34, b_35, b_36, b_37, b_38, b_39, b_40⟩ := im0 hI2
    replace b_30 : 1 ≤ n_11 := b_30
    replace b_31 : n_11 ≤ 1024 := b_31
    replace b_32 : fl ≤ 12 := b_32
    replace b_33 : pe ≤ 24 := b_33
    replace b_34 : le ≤ 700 := b_34
    replace b_35 : qu ≤ 12 := b_35
    replace b_36 : n_12 ≤ 8 := b_36
    replace b_37 : n_13 ≤ 24 := b_37
    replace b_38 : n_14 ≤ 24 := b_38
    replace b_39 : il ≤ 700 := b_39
    replace b_40 : n_10 ≤ 701 := b_40
    have h_6 : Φ2 x = some (o_ 14 [.int v_37, .ref (x + 1), .ref (x + 2), .int v_38, .int v_39, .int (nI n_11), .int v_40, .int v_41, .ref (x + 3), .ref (x + 4), .int v_42, .long v_43, .ref (x + 5), .int (nI fl), .int v_44, .long v_45, .long v_46, .long v_47, .long v_48, .ref (x + 6), .ref (x + 7), .int (nI pe), .ref (x + 8), .int (nI le), .ref (x + 9), .ref (x + 10), .int (nI qu), .ref (x + 11), .ref (x + 12), .ref (x + 13), .ref (x + 14), .ref (x + 15), .ref (x + 16), .int (nI n_12), .long v_49, .ref (x + 17), .ref (x + 18), .ref (x + 19), .ref (x + 20), .ref (x + 21), .ref (x + 22), .int (nI n_13), .ref (x + 23), .ref (x + 24), .int (nI n_14), .ref (x + 25), .int (nI il), .int (nI n_10), .int ec, .int v_50, .int v_33, .int v_51, .int v_35, .long v_36]) := h_5
    refine z_callV (As := []) (rest := []) B (r_readEnd G l Φ2 sz x fl pe le n_10 il qu v_33 ec v_35 v_36  hx hI2 ) (cwV 0 B.1.2.2.2.2 gX12_readSetting_X12_readEnd rfl rfl rfl (by decide +kernel) ⟨Nat.le_of_ble_eq_true rfl, Nat.le_of_ble_eq_true rfl⟩) h_6 rfl rfl rfl rfl (Nat.le_of_ble_eq_true rfl) dX12_readSetting_15 ⟨Nat.le_of_ble_eq_true rfl, Nat.le_of_ble_eq_true rfl⟩ (fun r_3 Φ3 sz3 st3 hp3 hs3 => ?_)
    obtain ⟨-, hq3, ⟨n_15, v_52, v_53, v_54, v_55, b_42, b_43, hI3⟩, hF3⟩ := hp3
    subst sz3
    replace hI3 : Im G x (NN, NN, fl, pe, le, n_15, il, qu, v_52, v_53, v_54, v_55) Φ3 := hI3
    replace b_42 : n_10 ≤ n_15 := b_42
    replace b_43 : (r_3 = some (.int 0) ∧ ¬ v_53 = 0) ∨ (r_3 = some (.int 1) ∧ ec = v_53) := b_43
    rcases b_43 with ⟨rfl, q_3⟩ | ⟨rfl, rfl⟩
    · replace hs3 : st3 = [.int 0] := hs3
      subst st3
      refine z_if_eq (tgt := 25) B dX12_readSetting_18 rfl (fun c_3 => ?_) (fun h9 => absurd (by decide) h9)
      refine z_iconst (v := 0) B dX12_readSetting_25 rfl ?_
      exact z_ret_z B dX12_readSetting_26 (by decide) ⟨⟨_, rfl, by decide⟩, rfl, ⟨n_15, v_52, v_53, v_54, v_55, (show nx ≤ n_15 by omega), (Or.inl q_3), hI3⟩, (fun b9 h9 => ((hF3 b9 (fun j9 h8 h7 => h9 j9 h8 (show j9 = 0 ∨ j9 = 1 by have h6 : j9 = 0 := h7; omega))).trans ((hF2 b9 (fun j9 h8 h7 => h9 j9 h8 (show j9 = 0 ∨ j9 = 1 by have h6 : j9 = 0 ∨ j9 = 1 := h7; omega))).trans ((hF1 b9 (fun j9 h8 h7 => h9 j9 h8 (show j9 = 0 ∨ j9 = 1 by have h6 : j9 = 0 := h7; omega))).trans rfl))))⟩
    · replace hs3 : st3 = [.int 1] := hs3
      subst st3
      refine z_if_eq (tgt := 25) B dX12_readSetting_18 rfl (fun h9 => absurd h9 (by decide)) (fun c_4 => ?_)
      refine z_iconst (v := 1) B dX12_readSetting_21 rfl ?_
      refine z_goto (tgt := 26) B dX12_readSetting_22 rfl ?_
      exact z_ret_z B dX12_readSetting_26 (by decide) ⟨⟨_, rfl, by decide⟩, rfl, ⟨n_15, v_52, ec, v_54, v_55, (show nx ≤ n_15 by omega), (Or.inr (show nx < n_15 by omega)), hI3⟩, (fun b9 h9 => ((hF3 b9 (fun j9 h8 h7 => h9 j9 h8 (show j9 = 0 ∨ j9 = 1 by have h6 : j9 = 0 := h7; omega))).trans ((hF2 b9 (fun j9 h8 h7 => h9 j9 h8 (show j9 = 0 ∨ j9 = 1 by have h6 : j9 = 0 ∨ j9 = 1 := h7; omega))).trans ((hF1 b9 (fun j9 h8 h7 => h9 j9 h8 (show j9 = 0 ∨ j9 = 1 by have h6 : j9 = 0 := h7; omega))).trans rfl))))⟩

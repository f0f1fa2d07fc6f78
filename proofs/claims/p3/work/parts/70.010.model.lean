set_option maxRecDepth 20000 in
theorem ggX12_readUse_X12_advanceToken : GoodIn wsX12_readUse wsX12_advanceToken := goodIn_ca (goodIn_r _ [7, 8, 9, 10, 11, 12, 13, 14, 15, 16, 17, 18, 6, 19, 20, 21, 22, 23, 24, 25, 26, 27, 28, 29, 30, 31, 32, 33, 52, 53, 54, 55, 56, 57, 58, 59, 60, 61, 62, 63, 64, 65, 66, 67, 68, 69, 70, 71, 72, 73, 74, 75, 76, 77, 78, 79, 80, 81, 82, 83, 84, 85, 86, 87, 88, 89, 90, 91, 92, 93, 94, 95, 96, 97, 98, 99, 100, 101, 102, 103, 104, 105] rfl (by decide +kernel)) (goodIn_sub (fun _ h => List.mem_cons_of_mem _ (List.mem_append_right _ h)) (by decide +kernel))
set_option maxRecDepth 20000 in
theorem gX12_readUse_X12_advanceToken : GoodIn wsX12_readUse (wsV RX12 489 RX12 yX12_advanceToken wsX12_advanceToken) := goodIn_app (goodIn_of _ (by decide +kernel)) ggX12_readUse_X12_advanceToken
set_option maxRecDepth 20000 in
theorem ggX12_readUse_X12_readNumber : GoodIn wsX12_readUse wsX12_readNumber := goodIn_ca (goodIn_r _ [37, 11, 10, 1, 38, 39, 40, 6, 41, 42, 9, 43, 27, 28, 29, 3, 4, 5, 7, 8, 12, 13, 14, 15, 16, 17, 18, 19, 20, 21, 22, 23, 24, 25, 26, 30, 31, 32, 33, 52, 53, 54, 55, 56, 57, 58, 59, 60, 61, 62, 63, 64, 65, 66, 67, 68, 69, 70, 71, 72, 73, 74, 75, 76, 77, 78, 79, 80, 81, 82, 83, 84, 85, 86, 87, 88, 89, 90, 91, 92, 93, 94, 95, 96, 97, 98, 99, 100, 101, 102, 103, 104, 105] rfl (by decide +kernel)) (goodIn_sub (fun _ h => List.mem_cons_of_mem _ (List.mem_append_right _ h)) (by decide +kernel))
set_option maxRecDepth 20000 in
theorem gX12_readUse_X12_readNumber : GoodIn wsX12_readUse (wsV RX12 492 RX12 yX12_readNumber wsX12_readNumber) := goodIn_app (goodIn_of _ (by decide +kernel)) ggX12_readUse_X12_readNumber
set_option maxRecDepth 20000 in
theorem ggX12_readUse_X12_readInto : GoodIn wsX12_readUse wsX12_readInto := goodIn_ca (goodIn_r _ [47, 2, 1, 34, 35, 36, 6, 37, 11, 10, 38, 39, 40, 41, 42, 9, 43, 27, 28, 29, 3, 4, 5, 7, 8, 12, 13, 14, 15, 16, 17, 18, 19, 20, 21, 22, 23, 24, 25, 26, 30, 31, 32, 33, 52, 53, 54, 55, 56, 57, 58, 59, 60, 61, 62, 63, 64, 65, 66, 67, 68, 69, 70, 71, 72, 73, 74, 75, 76, 77, 78, 79, 80, 81, 82, 83, 84, 85, 86, 87, 88, 89, 90, 91, 92, 93, 94, 95, 96, 97, 98, 99, 100, 101, 102, 103, 104, 105] rfl (by decide +kernel)) (goodIn_sub (fun _ h => List.mem_cons_of_mem _ (List.mem_append_right _ h)) (by decide +kernel))
set_option maxRecDepth 20000 in
theorem gX12_readUse_X12_readInto : GoodIn wsX12_readUse (wsV RX12 510 RX12 yX12_readInto wsX12_readInto) := goodIn_app (goodIn_of _ (by decide +kernel)) ggX12_readUse_X12_readInto
set_option maxRecDepth 20000 in
theorem ggX12_readUse_X12_readEnd : GoodIn wsX12_readUse wsX12_readEnd := goodIn_ca (goodIn_r _ [51, 11, 38, 39, 40, 6, 41, 42, 9, 43, 3, 4, 5, 7, 8, 10, 12, 13, 14, 15, 16, 17, 18, 19, 20, 21, 22, 23, 24, 25, 26, 27, 28, 29, 30, 31, 32, 33, 52, 53, 54, 55, 56, 57, 58, 59, 60, 61, 62, 63, 64, 65, 66, 67, 68, 69, 70, 71, 72, 73, 74, 75, 76, 77, 78, 79, 80, 81, 82, 83, 84, 85, 86, 87, 88, 89, 90, 91, 92, 93, 94, 95, 96, 97, 98, 99, 100, 101, 102, 103, 104, 105] rfl (by decide +kernel)) (goodIn_sub (fun _ h => List.mem_cons_of_mem _ (List.mem_append_right _ h)) (by decide +kernel))
set_option maxRecDepth 20000 in
theorem gX12_readUse_X12_readEnd : GoodIn wsX12_readUse (wsV RX12 506 RX12 yX12_readEnd wsX12_readEnd) := goodIn_app (goodIn_of _ (by decide +kernel)) ggX12_readUse_X12_readEnd
theorem dX12_readUse_0 : decode cX12_readUse 0 = .ok (.aload_n 0, 1) := by decide +kernel
theorem dX12_readUse_1 : decode cX12_readUse 1 = .ok (.invokevirtual 489, 3) := by decide +kernel
theorem dX12_readUse_4 : decode cX12_readUse 4 = .ok (.aload_n 0, 1) := by decide +kernel
theorem dX12_readUse_5 : decode cX12_readUse 5 = .ok (.iconst 0, 1) := by decide +kernel
theorem dX12_readUse_6 : decode cX12_readUse 6 = .ok (.sipush 255, 3) := by decide +kernel
theorem dX12_readUse_9 : decode cX12_readUse 9 = .ok (.invokevirtual 492, 3) := by decide +kernel
theorem dX12_readUse_12 : decode cX12_readUse 12 = .ok (.ifCond .ne 5, 3) := by decide +kernel
theorem dX12_readUse_15 : decode cX12_readUse 15 = .ok (.iconst 0, 1) := by decide +kernel
theorem dX12_readUse_16 : decode cX12_readUse 16 = .ok (.ireturn, 1) := by decide +kernel
theorem dX12_readUse_17 : decode cX12_readUse 17 = .ok (.aload_n 0, 1) := by decide +kernel
theorem dX12_readUse_18 : decode cX12_readUse 18 = .ok (.getfield 486, 3) := by decide +kernel
theorem dX12_readUse_21 : decode cX12_readUse 21 = .ok (.istore_n 1, 1) := by decide +kernel
theorem dX12_readUse_22 : decode cX12_readUse 22 = .ok (.aload_n 0, 1) := by decide +kernel
theorem dX12_readUse_23 : decode cX12_readUse 23 = .ok (.bipush 51, 2) := by decide +kernel
theorem dX12_readUse_25 : decode cX12_readUse 25 = .ok (.iload_n 1, 1) := by decide +kernel
theorem dX12_readUse_26 : decode cX12_readUse 26 = .ok (.iadd, 1) := by decide +kernel
theorem dX12_readUse_27 : decode cX12_readUse 27 = .ok (.iconst 0, 1) := by decide +kernel
theorem dX12_readUse_28 : decode cX12_readUse 28 = .ok (.aload_n 0, 1) := by decide +kernel
theorem dX12_readUse_29 : decode cX12_readUse 29 = .ok (.getfield 13, 3) := by decide +kernel
theorem dX12_readUse_32 : decode cX12_readUse 32 = .ok (.bipush 10, 2) := by decide +kernel
theorem dX12_readUse_34 : decode cX12_readUse 34 = .ok (.iaload, 1) := by decide +kernel
theorem dX12_readUse_35 : decode cX12_readUse 35 = .ok (.iconst 1, 1) := by decide +kernel
theorem dX12_readUse_36 : decode cX12_readUse 36 = .ok (.isub, 1) := by decide +kernel
theorem dX12_readUse_37 : decode cX12_readUse 37 = .ok (.invokevirtual 510, 3) := by decide +kernel
theorem dX12_readUse_40 : decode cX12_readUse 40 = .ok (.ifCond .eq 14, 3) := by decide +kernel
theorem dX12_readUse_43 : decode cX12_readUse 43 = .ok (.aload_n 0, 1) := by decide +kernel
theorem dX12_readUse_44 : decode cX12_readUse 44 = .ok (.invokevirtual 506, 3) := by decide +kernel
theorem dX12_readUse_47 : decode cX12_readUse 47 = .ok (.ifCond .eq 7, 3) := by decide +kernel
theorem dX12_readUse_50 : decode cX12_readUse 50 = .ok (.iconst 1, 1) := by decide +kernel
theorem dX12_readUse_51 : decode cX12_readUse 51 = .ok (.goto 4, 3) := by decide +kernel
theorem dX12_readUse_54 : decode cX12_readUse 54 = .ok (.iconst 0, 1) := by decide +kernel
theorem dX12_readUse_55 : decode cX12_readUse 55 = .ok (.ireturn, 1) := by decide +kernel
set_option maxRecDepth 20000 in
theorem ggX12_readDrop_X12_advanceToken : GoodIn wsX12_readDrop wsX12_advanceToken := goodIn_ca (goodIn_r _ [6, 7, 8, 9, 10, 11, 12, 13, 14, 15, 16, 17, 5, 18, 19, 20, 21, 22, 23, 24, 25, 26, 27, 28, 29, 30, 31, 32, 52, 53, 54, 55, 56, 57, 58, 59, 60, 61, 62, 63, 64, 65, 66, 67, 68, 69, 70, 71, 72, 73, 74, 75, 76, 77, 78, 79, 80, 81, 82, 83, 84, 85, 86, 87, 88, 89, 90, 91, 92, 93, 94, 95, 96, 97, 98, 99, 100, 101, 102, 103, 104, 105] rfl (by decide +kernel)) (goodIn_sub (fun _ h => List.mem_cons_of_mem _ (List.mem_append_right _ h)) (by decide +kernel))
set_option maxRecDepth 20000 in
theorem gX12_readDrop_X12_advanceToken : GoodIn wsX12_readDrop (wsV RX12 489 RX12 yX12_advanceToken wsX12_advanceToken) := goodIn_app (goodIn_of _ (by decide +kernel)) ggX12_readDrop_X12_advanceToken
set_option maxRecDepth 20000 in
theorem ggX12_readDrop_X12_fieldHere : GoodIn wsX12_readDrop wsX12_fieldHere := goodIn_r _ [36, 10, 9, 37, 38, 39, 40, 5, 41, 12, 11, 52, 53, 54, 55, 56, 57, 58, 59, 60, 61, 62, 63, 64, 65, 66, 67, 68, 69, 70, 71, 72, 73, 74, 75, 76, 77, 78, 79, 80, 81, 82, 83, 84, 85, 86, 87, 88, 89, 90, 91, 92, 93, 94, 95, 96, 97, 98, 99, 100, 101, 102, 103, 104, 105] rfl (by decide +kernel)
set_option maxRecDepth 20000 in
theorem gX12_readDrop_X12_fieldHere : GoodIn wsX12_readDrop (wsV RX12 503 RX12 yX12_fieldHere wsX12_fieldHere) := goodIn_app (goodIn_of _ (by decide +kernel)) ggX12_readDrop_X12_fieldHere
set_option maxRecDepth 20000 in
theorem ggX12_readDrop_X12_fail : GoodIn wsX12_readDrop wsX12_fail := goodIn_r _ [45, 46, 8, 47, 52, 53, 54, 55, 56, 57, 58, 59, 60, 61, 62, 63, 64, 65, 66, 67, 68, 69, 70, 71, 72, 73, 74, 75, 76, 77, 78, 79, 80, 81, 82, 83, 84, 85, 86, 87, 88, 89, 90, 91, 92, 93, 94, 95, 96, 97, 98, 99, 100, 101, 102, 103, 104, 105] rfl (by decide +kernel)
set_option maxRecDepth 20000 in
theorem gX12_readDrop_X12_fail : GoodIn wsX12_readDrop (wsV RX12 483 RX12 yX12_fail wsX12_fail) := goodIn_app (goodIn_of _ (by decide +kernel)) ggX12_readDrop_X12_fail
set_option maxRecDepth 20000 in
theorem ggX12_readDrop_X12_readEnd : GoodIn wsX12_readDrop wsX12_readEnd := goodIn_ca (goodIn_r _ [51, 10, 42, 43, 44, 5, 45, 46, 8, 47, 2, 3, 4, 6, 7, 9, 11, 12, 13, 14, 15, 16, 17, 18, 19, 20, 21, 22, 23, 24, 25, 26, 27, 28, 29, 30, 31, 32, 52, 53, 54, 55, 56, 57, 58, 59, 60, 61, 62, 63, 64, 65, 66, 67, 68, 69, 70, 71, 72, 73, 74, 75, 76, 77, 78, 79, 80, 81, 82, 83, 84, 85, 86, 87, 88, 89, 90, 91, 92, 93, 94, 95, 96, 97, 98, 99, 100, 101, 102, 103, 104, 105] rfl (by decide +kernel)) (goodIn_sub (fun _ h => List.mem_cons_of_mem _ (List.mem_append_right _ h)) (by decide +kernel))
set_option maxRecDepth 20000 in
theorem gX12_readDrop_X12_readEnd : GoodIn wsX12_readDrop (wsV RX12 506 RX12 yX12_readEnd wsX12_readEnd) := goodIn_app (goodIn_of _ (by decide +kernel)) ggX12_readDrop_X12_readEnd
theorem dX12_readDrop_0 : decode cX12_readDrop 0 = .ok (.aload_n 0, 1) := by decide +kernel
theorem dX12_readDrop_1 : decode cX12_readDrop 1 = .ok (.invokevirtual 489, 3) := by decide +kernel
theorem dX12_readDrop_4 : decode cX12_readDrop 4 = .ok (.aload_n 0, 1) := by decide +kernel
theorem dX12_readDrop_5 : decode cX12_readDrop 5 = .ok (.invokevirtual 503, 3) := by decide +kernel
theorem dX12_readDrop_8 : decode cX12_readDrop 8 = .ok (.iconst (-1), 1) := by decide +kernel
theorem dX12_readDrop_9 : decode cX12_readDrop 9 = .ok (.if_icmp .ne 9, 3) := by decide +kernel
theorem dX12_readDrop_12 : decode cX12_readDrop 12 = .ok (.aload_n 0, 1) := by decide +kernel
theorem dX12_readDrop_13 : decode cX12_readDrop 13 = .ok (.iconst 1, 1) := by decide +kernel
theorem dX12_readDrop_14 : decode cX12_readDrop 14 = .ok (.invokevirtual 483, 3) := by decide +kernel
theorem dX12_readDrop_17 : decode cX12_readDrop 17 = .ok (.ireturn, 1) := by decide +kernel
theorem dX12_readDrop_18 : decode cX12_readDrop 18 = .ok (.aload_n 0, 1) := by decide +kernel
theorem dX12_readDrop_19 : decode cX12_readDrop 19 = .ok (.getfield 13, 3) := by decide +kernel
theorem dX12_readDrop_22 : decode cX12_readDrop 22 = .ok (.bipush 9, 2) := by decide +kernel
theorem dX12_readDrop_24 : decode cX12_readDrop 24 = .ok (.dup2, 1) := by decide +kernel
theorem dX12_readDrop_25 : decode cX12_readDrop 25 = .ok (.iaload, 1) := by decide +kernel
theorem dX12_readDrop_26 : decode cX12_readDrop 26 = .ok (.iconst 1, 1) := by decide +kernel
theorem dX12_readDrop_27 : decode cX12_readDrop 27 = .ok (.aload_n 0, 1) := by decide +kernel
theorem dX12_readDrop_28 : decode cX12_readDrop 28 = .ok (.invokevirtual 503, 3) := by decide +kernel
theorem dX12_readDrop_31 : decode cX12_readDrop 31 = .ok (.ishl, 1) := by decide +kernel
theorem dX12_readDrop_32 : decode cX12_readDrop 32 = .ok (.iconst (-1), 1) := by decide +kernel
theorem dX12_readDrop_33 : decode cX12_readDrop 33 = .ok (.ixor, 1) := by decide +kernel
theorem dX12_readDrop_34 : decode cX12_readDrop 34 = .ok (.iand, 1) := by decide +kernel
theorem dX12_readDrop_35 : decode cX12_readDrop 35 = .ok (.iastore, 1) := by decide +kernel
theorem dX12_readDrop_36 : decode cX12_readDrop 36 = .ok (.aload_n 0, 1) := by decide +kernel
theorem dX12_readDrop_37 : decode cX12_readDrop 37 = .ok (.invokevirtual 489, 3) := by decide +kernel
theorem dX12_readDrop_40 : decode cX12_readDrop 40 = .ok (.aload_n 0, 1) := by decide +kernel
theorem dX12_readDrop_41 : decode cX12_readDrop 41 = .ok (.invokevirtual 506, 3) := by decide +kernel
theorem dX12_readDrop_44 : decode cX12_readDrop 44 = .ok (.ireturn, 1) := by decide +kernel
set_option maxHeartbeats 4000000 in
set_option maxRecDepth 100000 in
theorem r_readDrop (G : EnvG) (l : Launch) (Φ : Hm) (sz x : Nat) (fl : Nat) (pe : Nat) (le : Nat) (nx : Nat) (il : Nat) (qu : Nat) (kn : Int32) (ec : Int32) (nu : Int32) (va : Int64)  (hx : G.2.2.2 ≤ x) (hI : Im G x (NN, NN, fl, pe, le, nx, il, qu, kn, ec, nu, va) Φ)  : Ct G l yX12_readDrop wsX12_readDrop ({ frames := 4, cells := 0, slots := 0, locals := 86 }) 0 0 [.ref x] Φ sz (fun v Φ1 sz1 => (∃ r9 : Int32, v = some (.int r9) ∧ (r9 = 0 ∨ r9 = 1)) ∧ sz1 = sz ∧ (∃ (nx1 : Nat) (kn1 : Int32) (ec1 : Int32) (nu1 : Int32) (va1 : Int64), (nx ≤ nx1) ∧ (¬ ec1 = 0 ∨ nx < nx1) ∧ Im G x (NN, NN, fl, pe, le, nx1, il, qu, kn1, ec1, nu1, va1) Φ1) ∧ Fr x (fun j9 => j9 = 0 ∨ j9 = 1) Φ Φ1) := by
  refine Ct.of (cc := cX12_readDrop) (maxL := 1) (ret := (some .boolean)) (by decide) rfl (Nat.le_of_ble_eq_true rfl) ?_
  intro p9 e9 s9 m9 w9 t9 k9 B
  show Z p9 l e9 _ s9 m9 _ w9 t9 k9 _ G 1 0 [(0, .ref x)] [] Φ sz 0 0
  refine z_aload_n B dX12_readDrop_0 rfl 0 rfl ?_
  obtain ⟨v_1, v_2, v_3, n_1, v_4, v_5, v_6, v_7, v_8, v_9, v_10, v_11, v_12, n_2, v_13, n_3, n_4, v_14, v_15, h_1, b_12, b_1, b_2, b_3, b_4, b_5, b_6, b_7, b_8, b_9, b_10, b_11⟩ := im0 hI
  replace b_1 : 1 ≤ n_1 := b_1
  replace b_2 : n_1 ≤ 1024 := b_2
  replace b_3 : fl ≤ 12 := b_3
  replace b_4 : pe ≤ 24 := b_4
  replace b_5 : le ≤ 700 := b_5
  replace b_6 : qu ≤ 12 := b_6
  replace b_7 : n_2 ≤ 8 := b_7
  replace b_8 : n_3 ≤ 24 := b_8
  replace b_9 : n_4 ≤ 24 := b_9
  replace b_10 : il ≤ 700 := b_10
  replace b_11 : nx ≤ 701 := b_11
  have h_2 : Φ x = some (o_ 14 [.int v_1, .ref (x + 1), .ref (x + 2), .int v_2, .int v_3, .int (nI n_1), .int v_4, .int v_5, .ref (x + 3), .ref (x + 4), .int v_6, .long v_7, .ref (x + 5), .int (nI fl), .int v_8, .long v_9, .long v_10, .long v_11, .long v_12, .ref (x + 6), .ref (x + 7), .int (nI pe), .ref (x + 8), .int (nI le), .ref (x + 9), .ref (x + 10), .int (nI qu), .ref (x + 11), .ref (x + 12), .ref (x + 13), .ref (x + 14), .ref (x + 15), .ref (x + 16), .int (nI n_2), .long v_13, .ref (x + 17), .ref (x + 18), .ref (x + 19), .ref (x + 20), .ref (x + 21), .ref (x + 22), .int (nI n_3), .ref (x + 23), .ref (x + 24), .int (nI n_4), .ref (x + 25), .int (nI il), .int (nI nx), .int ec, .int v_14, .int kn, .int v_15, .int nu, .long va]) := h_1
  refine z_callV (As := []) (rest := []) B (r_advanceToken G l Φ sz x NN fl pe le nx il qu kn ec nu va  hx hI ) (cwV 0 B.1.2.2.2.2 gX12_readDrop_X12_advanceToken rfl rfl rfl (by decide +kernel) ⟨Nat.le_of_ble_eq_true rfl, Nat.le_of_ble_eq_true rfl⟩) h_2 rfl rfl rfl rfl (Nat.le_of_ble_eq_true rfl) dX12_readDrop_1 ⟨Nat.le_of_ble_eq_true rfl, Nat.le_of_ble_eq_true rfl⟩ (fun r_1 Φ1 sz1 st1 hp1 hs1 => ?_)
  obtain ⟨rfl, hq1, ⟨n_5, v_16, v_17, b_13, b_14, hI1⟩, hF1⟩ := hp1
  subst sz1
  replace hs1 : st1 = [] := hs1
  subst st1
  replace hI1 : Im G x (NN, NN, fl, pe, le, n_5, il, qu, v_16, ec, nu, v_17) Φ1 := hI1
  replace b_13 : nx ≤ n_5 := b_13
  replace b_14 : v_16 = 0 ∨ nx < n_5 := b_14
  refine z_aload_n B dX12_readDrop_4 rfl 0 rfl ?_
  obtain ⟨v_18, v_19, v_20, n_6, v_21, v_22, v_23, v_24, v_25, v_26, v_27, v_28, v_29, n_7, v_30, n_8, n_9, v_31, v_32, h_3, b_26, b_15, b_16, b_17, b_18, b_19, b_20, b_21, b_22, b_23, b_24, b_25⟩ := im0 hI1
  replace b_15 : 1 ≤ n_6 := b_15
  replace b_16 : n_6 ≤ 1024 := b_16
  replace b_17 : fl ≤ 12 := b_17
  replace b_18 : pe ≤ 24 := b_18
  replace b_19 : le ≤ 700 := b_19
  replace b_20 : qu ≤ 12 := b_20
  replace b_21 : n_7 ≤ 8 := b_21
  replace b_22 : n_8 ≤ 24 := b_22
  replace b_23 : n_9 ≤ 24 := b_23
  replace b_24 : il ≤ 700 := b_24
  replace b_25 : n_5 ≤ 701 := b_25
  have h_4 : Φ1 x = some (o_ 14 [.int v_18, .ref (x + 1), .ref (x + 2), .int v_19, .int v_20, .int (nI n_6), .int v_21, .int v_22, .ref (x + 3), .ref (x + 4), .int v_23, .long v_24, .ref (x + 5), .int (nI fl), .int v_25, .long v_26, .long v_27, .long v_28, .long v_29, .ref (x + 6), .ref (x + 7), .int (nI pe), .ref (x + 8), .int (nI le), .ref (x + 9), .ref (x + 10), .int (nI qu), .ref (x + 11), .ref (x + 12), .ref (x + 13), .ref (x + 14), .ref (x + 15), .ref (x + 16), .int (nI n_7), .long v_30, .ref (x + 17), .ref (x + 18), .ref (x + 19), .ref (x + 20), .ref (x + 21), .ref (x + 22), .int (nI n_8), .ref (x + 23), .ref (x + 24), .int (nI n_9), .ref (x + 25), .int (nI il), .int (nI n_5), .int ec, .int v_31, .int v_16, .int v_32, .int nu, .long v_17]) := h_3
  refine z_callV (As := []) (rest := []) B (r_fieldHere G l Φ1 sz x NN fl pe le n_5 il qu v_16 ec nu v_17  hx hI1 ) (cwV 0 B.1.2.2.2.2 gX12_readDrop_X12_fieldHere rfl rfl rfl (by decide +kernel) ⟨Nat.le_of_ble_eq_true rfl, Nat.le_of_ble_eq_true rfl⟩) h_4 rfl rfl rfl rfl (Nat.le_of_ble_eq_true rfl) dX12_readDrop_5 ⟨Nat.le_of_ble_eq_true rfl, Nat.le_of_ble_eq_true rfl⟩ (fun r_2 Φ2 sz2 st2 hp2 hs2 => ?_)
  obtain ⟨rfl, hq2, hI2, hF2⟩ := hp2
  subst sz2
  replace hs2 : st2 = [.int (fHf v_16 v_17)] := hs2
  subst st2
  replace hI2 : Im G x (NN, NN, fl, pe, le, n_5, il, qu, v_16, ec, nu, v_17) Φ2 := hI2
  refine z_iconst (v := (-1)) B dX12_readDrop_8 rfl ?_
  refine z_icmp_ne (tgt := 18) B dX12_readDrop_9 rfl (fun c_1 => ?_) (fun c_1 => ?_)
  · have b_27 := Or.resolve_left b_14 (fun h9 => absurd (h9.symm.trans (fHf_1 c_1)) (by decide))
    refine z_aload_n B dX12_readDrop_18 rfl 0 rfl ?_
    have h_5 : Φ2 x = some (o_ 14 [.int v_18, .ref (x + 1), .ref (x + 2), .int v_19, .int v_20, .int (nI n_6), .int v_21, .int v_22, .ref (x + 3), .ref (x + 4), .int v_23, .long v_24, .ref (x + 5), .int (nI fl), .int v_25, .long v_26, .long v_27, .long v_28, .long v_29, .ref (x + 6), .ref (x + 7), .int (nI pe), .ref (x + 8), .int (nI le), .ref (x + 9), .ref (x + 10), .int (nI qu), .ref (x + 11), .ref (x + 12), .ref (x + 13), .ref (x + 14), .ref (x + 15), .ref (x + 16), .int (nI n_7), .long v_30, .ref (x + 17), .ref (x + 18), .ref (x + 19), .ref (x + 20), .ref (x + 21), .ref (x + 22), .int (nI n_8), .ref (x + 23), .ref (x + 24), .int (nI n_9), .ref (x + 25), .int (nI il), .int (nI n_5), .int ec, .int v_31, .int v_16, .int v_32, .int nu, .long v_17]) := ((hF2 x (fun j9 h8 h7 => (show False from h7).elim)).trans h_4)
    refine z_get (ref := "FlowExporterModel") (C := RX12) (T := TX12) (N := 54) (ci := 14) (v := .ref (x + 1)) B (by decide +kernel) rfl 1 (by decide) (by decide +kernel) rfl h_5 rfl dX12_readDrop_19 ?_
    refine z_bipush (v := 9) B dX12_readDrop_22 rfl ?_
    refine z_dup2_11 B dX12_readDrop_24 rfl rfl ?_
    obtain ⟨f_1, h_6, r_3⟩ := imk (k := 1) hI2
    replace r_3 : NN f_1 := r_3
    have h_7 : Φ2 (x + 1) = some (ai_ G 307 f_1) := h_6
    refine z_iald B h_7 (vin rfl) dX12_readDrop_25 ?_
    refine z_fi (fun v_33 => ?_)
    refine z_iconst (v := 1) B dX12_readDrop_26 rfl ?_
    refine z_aload_n B dX12_readDrop_27 rfl 0 rfl ?_
    refine z_callV (As := []) (rest := [.int 1, .int v_33, .int 9, .ref (x + 1)]) B (r_fieldHere G l Φ2 sz x NN fl pe le n_5 il qu v_16 ec nu v_17  hx hI2 ) (cwV 0 B.1.2.2.2.2 gX12_readDrop_X12_fieldHere rfl rfl rfl (by decide +kernel) ⟨Nat.le_of_ble_eq_true rfl, Nat.le_of_ble_eq_true rfl⟩) h_5 rfl rfl rfl rfl (Nat.le_of_ble_eq_true rfl) dX12_readDrop_28 ⟨Nat.le_of_ble_eq_true rfl, Nat.le_of_ble_eq_true rfl⟩ (fun r_4 Φ3 sz3 st3 hp3 hs3 => ?_)
    obtain ⟨rfl, hq3, hI3, hF3⟩ := hp3
    subst sz3
    replace hs3 : st3 = [.int (fHf v_16 v_17), .int 1, .int v_33, .int 9, .ref (x + 1)] := hs3
    subst st3
    replace hI3 : Im G x (NN, NN, fl, pe, le, n_5, il, qu, v_16, ec, nu, v_17) Φ3 := hI3
    refine z_ishl B dX12_readDrop_31 ?_
    refine z_fi (fun v_34 => ?_)
    refine z_iconst (v := (-1)) B dX12_readDrop_32 rfl ?_
    refine z_ixor B dX12_readDrop_33 ?_
    refine z_fi (fun v_35 => ?_)
    refine z_iand B dX12_readDrop_34 ?_
    refine z_fi (fun v_36 => ?_)
    have h_8 : Φ3 (x + 1) = some (ai_ G 307 f_1) := ((hF3 (x + 1) (fun j9 h8 h7 => (show False from h7).elim)).trans h_7)
    refine z_iast B h_8 (Nat.le_trans hx (Nat.le_add_right x 1)) (vin rfl) dX12_readDrop_35 (fun Φ4 hΦ1 => ?_)
    have h_9 : Φ4 (x + 1) = some (ai_ G 307 (upd f_1 (9 : Int32).toNatClampNeg v_36)) := fset_at hΦ1
    have hI4 : Im G x (NN, NN, fl, pe, le, n_5, il, qu, v_16, ec, nu, v_17) Φ4 := Im.put1 (rd1 := NN) hI3 hΦ1 (NN.free r_3 (by decide))
    refine z_aload_n B dX12_readDrop_36 rfl 0 rfl ?_
    have h_10 : Φ4 x = some (o_ 14 [.int v_18, .ref (x + 1), .ref (x + 2), .int v_19, .int v_20, .int (nI n_6), .int v_21, .int v_22, .ref (x + 3), .ref (x + 4), .int v_23, .long v_24, .ref (x + 5), .int (nI fl), .int v_25, .long v_26, .long v_27, .long v_28, .long v_29, .ref (x + 6), .ref (x + 7), .int (nI pe), .ref (x + 8), .int (nI le), .ref (x + 9), .ref (x + 10), .int (nI qu), .ref (x + 11), .ref (x + 12), .ref (x + 13), .ref (x + 14), .ref (x + 15), .ref (x + 16), .int (nI n_7), .long v_30, .ref (x + 17), .ref (x + 18), .ref (x + 19), .ref (x + 20), .ref (x + 21), .ref (x + 22), .int (nI n_8), .ref (x + 23), .ref (x + 24), .int (nI n_9), .ref (x + 25), .int (nI il), .int (nI n_5), .int ec, .int v_31, .int v_16, .int v_32, .int nu, .long v_17]) := ((fset_fr hΦ1 (ne_off (x := x) (i := 0) (j := 1) rfl)).trans ((hF3 x (fun j9 h8 h7 => (show False from h7).elim)).trans h_5))
    refine z_callV (As := []) (rest := []) B (r_advanceToken G l Φ4 sz x NN fl pe le n_5 il qu v_16 ec nu v_17  hx hI4 ) (cwV 0 B.1.2.2.2.2 gX12_readDrop_X12_advanceToken rfl rfl rfl (by decide +kernel) ⟨Nat.le_of_ble_eq_true rfl, Nat.le_of_ble_eq_true rfl⟩) h_10 rfl rfl rfl rfl (Nat.le_of_ble_eq_true rfl) dX12_readDrop_37 ⟨Nat.le_of_ble_eq_true rfl, Nat.le_of_ble_eq_true rfl⟩ (fun r_5 Φ5 sz4 st4 hp4 hs4 => ?_)
    obtain ⟨rfl, hq4, ⟨n_10, v_37, v_38, b_28, b_29, hI5⟩, hF4⟩ := hp4
    subst sz4
    replace hs4 : st4 = [] := hs4
    subst st4
    replace hI5 : Im G x (NN, NN, fl, pe, le, n_10, il, qu, v_37, ec, nu, v_38) Φ5 := hI5
    replace b_28 : n_5 ≤ n_10 := b_28
    replace b_29 : v_37 = 0 ∨ n_5 < n_10 := b_29
    refine z_aload_n B dX12_readDrop_40 rfl 0 rfl ?_
    obtain ⟨v_39, v_40, v_41, n_11, v_42, v_43, v_44, v_45, v_46, v_47, v_48, v_49, v_50, n_12, v_51, n_13, n_14, v_52, v_53, h_11, b_41, b_30, b_31, b_32, b_33, b_34, b_35, b_36, b_37, b_38, b_39, b_40⟩ := im0 hI5
    replace b_30 : 1 ≤ n_11 := b_30
    replace b_31 : n_11 ≤ 1024 := b_31
    replace b_32 : fl ≤ 12 := b_32
    replace b_33 : pe ≤ 24 := b_33
    replace b_34 : le ≤ 700 := b_34
    replace b_35 : qu ≤ 12 := b_35
    replace b_36 : n_12 ≤ 8 := b_36
    replace b_37 : n_13 ≤ 24 := b_37
    replace b_38 : n_14 ≤ 24 := b_38
    replace b_39 : il ≤ 700 := b_39
    replace b_40 : n_10 ≤ 701 := b_40
    have h_12 : Φ5 x = some (o_ 14 [.int v_39, .ref (x + 1), .ref (x + 2), .int v_40, .int v_41, .int (nI n_11), .int v_42, .int v_43, .ref (x + 3), .ref (x + 4), .int v_44, .long v_45, .ref (x + 5), .int (nI fl), .int v_46, .long v_47, .long v_48, .long v_49, .long v_50, .ref (x + 6), .ref (x + 7), .int (nI pe), .ref (x + 8), .int (nI le), .ref (x + 9), .ref (x + 10), .int (nI qu), .ref (x + 11), .ref (x + 12), .ref (x + 13), .ref (x + 14), .ref (x + 15), .ref (x + 16), .int (nI n_12), .long v_51, .ref (x + 17), .ref (x + 18), .ref (x + 19), .ref (x + 20), .ref (x + 21), .ref (x + 22), .int (nI n_13), .ref (x + 23), .ref (x + 24), .int (nI n_14), .ref (x + 25), .int (nI il), .int (nI n_10), .int ec, .int v_52, .int v_37, .int v_53, .int nu, .long v_38]) := h_11
    refine z_callV (As := []) (rest := []) B (r_readEnd G l Φ5 sz x fl pe le n_10 il qu v_37 ec nu v_38  hx hI5 ) (cwV 0 B.1.2.2.2.2 gX12_readDrop_X12_readEnd rfl rfl rfl (by decide +kernel) ⟨Nat.le_of_ble_eq_true rfl, Nat.le_of_ble_eq_true rfl⟩) h_12 rfl rfl rfl rfl (Nat.le_of_ble_eq_true rfl) dX12_readDrop_41 ⟨Nat.le_of_ble_eq_true rfl, Nat.le_of_ble_eq_true rfl⟩ (fun r_6 Φ6 sz5 st5 hp5 hs5 => ?_)
    obtain ⟨-, hq5, ⟨n_15, v_54, v_55, v_56, v_57, b_42, b_43, hI6⟩, hF5⟩ := hp5
    subst sz5
    replace hI6 : Im G x (NN, NN, fl, pe, le, n_15, il, qu, v_54, v_55, v_56, v_57) Φ6 := hI6
    replace b_42 : n_10 ≤ n_15 := b_42
    replace b_43 : (r_6 = some (.int 0) ∧ ¬ v_55 = 0) ∨ (r_6 = some (.int 1) ∧ ec = v_55) := b_43
    rcases b_43 with ⟨rfl, q_1⟩ | ⟨rfl, rfl⟩
    · replace hs5 : st5 = [.int 0] := hs5
      subst st5
      exact z_ret_z B dX12_readDrop_44 (by decide) ⟨⟨_, rfl, by decide⟩, rfl, ⟨n_15, v_54, v_55, v_56, v_57, (show nx ≤ n_15 by omega), (Or.inl q_1), hI6⟩, (fun b9 h9 => ((hF5 b9 (fun j9 h8 h7 => h9 j9 h8 (show j9 = 0 ∨ j9 = 1 by have h6 : j9 = 0 := h7; omega))).trans ((hF4 b9 (fun j9 h8 h7 => h9 j9 h8 (show j9 = 0 ∨ j9 = 1 by have h6 : j9 = 0 := h7; omega))).trans ((fset_fr hΦ1 (fun h8 => h9 (1) h8 (show 1 = 0 ∨ 1 = 1 by omega))).trans ((hF3 b9 (fun j9 h8 h7 => (show False from h7).elim)).trans ((hF2 b9 (fun j9 h8 h7 => (show False from h7).elim)).trans ((hF1 b9 (fun j9 h8 h7 => h9 j9 h8 (show j9 = 0 ∨ j9 = 1 by have h6 : j9 = 0 := h7; omega))).trans rfl)))))))⟩
    · replace hs5 : st5 = [.int 1] := hs5
      subst st5
      exact z_ret_z B dX12_readDrop_44 (by decide) ⟨⟨_, rfl, by decide⟩, rfl, ⟨n_15, v_54, ec, v_56, v_57, (show nx ≤ n_15 by omega), (Or.inr (show nx < n_15 by omega)), hI6⟩, (fun b9 h9 => ((hF5 b9 (fun j9 h8 h7 => h9 j9 h8 (show j9 = 0 ∨ j9 = 1 by have h6 : j9 = 0 := h7; omega))).trans ((hF4 b9 (fun j9 h8 h7 => h9 j9 h8 (show j9 = 0 ∨ j9 = 1 by have h6 : j9 = 0 := h7; omega))).trans ((fset_fr hΦ1 (fun h8 => h9 (1) h8 (show 1 = 0 ∨ 1 = 1 by omega))).trans ((hF3 b9 (fun j9 h8 h7 => (show False from h7).elim)).trans ((hF2 b9 (fun j9 h8 h7 => (show False from h7).elim)).trans ((hF1 b9 (fun j9 h8 h7 => h9 j9 h8 (show j9 = 0 ∨ j9 = 1 by have h6 : j9 = 0 := h7; omega))).trans rfl)))))))⟩
  · refine z_aload_n B dX12_readDrop_12 rfl 0 rfl ?_
    refine z_iconst (v := 1) B dX12_readDrop_13 rfl ?_
    have h_13 : Φ2 x = some (o_ 14 [.int v_18, .ref (x + 1), .ref (x + 2), .int v_19, .int v_20, .int (nI n_6), .int v_21, .int v_22, .ref (x + 3), .ref (x + 4), .int v_23, .long v_24, .ref (x + 5), .int (nI fl), .int v_25, .long v_26, .long v_27, .long v_28, .long v_29, .ref (x + 6), .ref (x + 7), .int (nI pe), .ref (x + 8), .int (nI le), .ref (x + 9), .ref (x + 10), .int (nI qu), .ref (x + 11), .ref (x + 12), .ref (x + 13), .ref (x + 14), .ref (x + 15), .ref (x + 16), .int (nI n_7), .long v_30, .ref (x + 17), .ref (x + 18), .ref (x + 19), .ref (x + 20), .ref (x + 21), .ref (x + 22), .int (nI n_8), .ref (x + 23), .ref (x + 24), .int (nI n_9), .ref (x + 25), .int (nI il), .int (nI n_5), .int ec, .int v_31, .int v_16, .int v_32, .int nu, .long v_17]) := ((hF2 x (fun j9 h8 h7 => (show False from h7).elim)).trans h_4)
    refine z_callV (As := [.int 1]) (rest := []) B (r_fail G l Φ2 sz x NN fl pe le n_5 il qu v_16 ec nu v_17 1 hx hI2 ) (cwV 1 B.1.2.2.2.2 gX12_readDrop_X12_fail rfl rfl rfl (by decide +kernel) ⟨Nat.le_of_ble_eq_true rfl, Nat.le_of_ble_eq_true rfl⟩) h_13 rfl rfl rfl rfl (Nat.le_of_ble_eq_true rfl) dX12_readDrop_14 ⟨Nat.le_of_ble_eq_true rfl, Nat.le_of_ble_eq_true rfl⟩ (fun r_7 Φ7 sz6 st6 hp6 hs6 => ?_)
    obtain ⟨rfl, hq6, hI7, hF6⟩ := hp6
    subst sz6
    replace hs6 : st6 = [.int 0] := hs6
    subst st6
    replace hI7 : Im G x (NN, NN, fl, pe, le, n_5, il, qu, v_16, 1, nu, v_17) Φ7 := hI7
    exact z_ret_z B dX12_readDrop_17 (by decide) ⟨⟨_, rfl, by decide⟩, rfl, ⟨n_5, v_16, 1, nu, v_17, (show nx ≤ n_5 by omega), (Or.inl (by decide)), hI7⟩, (fun b9 h9 => ((hF6 b9 (fun j9 h8 h7 => h9 j9 h8 (show j9 = 0 ∨ j9 = 1 by have h6 : j9 = 0 := h7; omega))).trans ((hF2 b9 (fun j9 h8 h7 => (show False from h7).elim)).trans ((hF1 b9 (fun j9 h8 h7 => h9 j9 h8 (show j9 = 0 ∨ j9 = 1 by have h6 : j9 = 0 := h7; omega))).trans rfl))))⟩

set_option maxHeartbeats 4000000 in
set_option maxRecDepth 100000 in
theorem r_readUse (G : EnvG) (l : Launch) (Φ : Hm) (sz x : Nat) (fl : Nat) (pe : Nat) (le : Nat) (nx : Nat) (il : Nat) (qu : Nat) (kn : Int32) (ec : Int32) (nu : Int32) (va : Int64)  (hx : G.2.2.2 ≤ x) (hI : Im G x (NN, NN, fl, pe, le, nx, il, qu, kn, ec, nu, va) Φ)  : Ct G l yX12_readUse wsX12_readUse ({ frames := 5, cells := 0, slots := 0, locals := 111 }) 0 0 [.ref x] Φ sz (fun v Φ1 sz1 => (∃ r9 : Int32, v = some (.int r9) ∧ (r9 = 0 ∨ r9 = 1)) ∧ sz1 = sz ∧ (∃ (nx1 : Nat) (kn1 : Int32) (ec1 : Int32) (nu1 : Int32) (va1 : Int64), (nx ≤ nx1) ∧ (¬ ec1 = 0 ∨ nx < nx1) ∧ Im G x (NN, NN, fl, pe, le, nx1, il, qu, kn1, ec1, nu1, va1) Φ1) ∧ Fr x (fun j9 => j9 = 0 ∨ j9 = 1) Φ Φ1) := by
  refine Ct.of (cc := cX12_readUse) (maxL := 2) (ret := (some .boolean)) (by decide) rfl (Nat.le_of_ble_eq_true rfl) ?_
  intro p9 e9 s9 m9 w9 t9 k9 B
  show Z p9 l e9 _ s9 m9 _ w9 t9 k9 _ G 2 0 [(0, .ref x)] [] Φ sz 0 0
  refine z_aload_n B dX12_readUse_0 rfl 0 rfl ?_
  obtain ⟨v_1, v_2, v_3, n_1, v_4, v_5, v_6, v_7, v_8, v_9, v_10, v_11, v_12, n_2, v_13, n_3, n_4, v_14, v_15, h_1, b_12, b_1, b_2, b_3, b_4, b_5, b_6, b_7, b_8, b_9, b_10, b_11⟩ := im0 hI
  replace b_1 : 1 ≤ n_1 := b_1
  replace b_2 : n_1 ≤ 1024 := b_2
  replace b_3 : fl ≤ 12 := b_3
  replace b_4 : pe ≤ 24 := b_4
  replace b_5 : le ≤ 700 := b_5
  replace b_6 : qu ≤ 12 := b_6
  replace b_7 : n_2 ≤ 8 := b_7
  replace b_8 : n_3 ≤ 24 := b_8
  replace b_9 : n_4 ≤ 24 := b_9
  replace b_10 : il ≤ 700 := b_10
  replace b_11 : nx ≤ 701 := b_11
  have h_2 : Φ x = some (o_ 14 [.int v_1, .ref (x + 1), .ref (x + 2), .int v_2, .int v_3, .int (nI n_1), .int v_4, .int v_5, .ref (x + 3), .ref (x + 4), .int v_6, .long v_7, .ref (x + 5), .int (nI fl), .int v_8, .long v_9, .long v_10, .long v_11, .long v_12, .ref (x + 6), .ref (x + 7), .int (nI pe), .ref (x + 8), .int (nI le), .ref (x + 9), .ref (x + 10), .int (nI qu), .ref (x + 11), .ref (x + 12), .ref (x + 13), .ref (x + 14), .ref (x + 15), .ref (x + 16), .int (nI n_2), .long v_13, .ref (x + 17), .ref (x + 18), .ref (x + 19), .ref (x + 20), .ref (x + 21), .ref (x + 22), .int (nI n_3), .ref (x + 23), .ref (x + 24), .int (nI n_4), .ref (x + 25), .int (nI il), .int (nI nx), .int ec, .int v_14, .int kn, .int v_15, .int nu, .long va]) := h_1
  refine z_callV (As := []) (rest := []) B (r_advanceToken G l Φ sz x NN fl pe le nx il qu kn ec nu va  hx hI ) (cwV 0 B.1.2.2.2.2 gX12_readUse_X12_advanceToken rfl rfl rfl (by decide +kernel) ⟨Nat.le_of_ble_eq_true rfl, Nat.le_of_ble_eq_true rfl⟩) h_2 rfl rfl rfl rfl (Nat.le_of_ble_eq_true rfl) dX12_readUse_1 ⟨Nat.le_of_ble_eq_true rfl, Nat.le_of_ble_eq_true rfl⟩ (fun r_1 Φ1 sz1 st1 hp1 hs1 => ?_)
  obtain ⟨rfl, hq1, ⟨n_5, v_16, v_17, b_13, b_14, hI1⟩, hF1⟩ := hp1
  subst sz1
  replace hs1 : st1 = [] := hs1
  subst st1
  replace hI1 : Im G x (NN, NN, fl, pe, le, n_5, il, qu, v_16, ec, nu, v_17) Φ1 := hI1
  replace b_13 : nx ≤ n_5 := b_13
  replace b_14 : v_16 = 0 ∨ nx < n_5 := b_14
  refine z_aload_n B dX12_readUse_4 rfl 0 rfl ?_
  refine z_iconst (v := 0) B dX12_readUse_5 rfl ?_
  refine z_sipush (v := 255) B dX12_readUse_6 rfl ?_
  obtain ⟨v_18, v_19, v_20, n_6, v_21, v_22, v_23, v_24, v_25, v_26, v_27, v_28, v_29, n_7, v_30, n_8, n_9, v_31, v_32, h_3, b_26, b_15, b_16, b_17, b_18, b_19, b_20, b_21, b_22, b_23, b_24, b_25⟩ := im0 hI1
  replace b_15 : 1 ≤ n_6 := b_15
  replace b_16 : n_6 ≤ 1024 := b_16
  replace b_17 : fl ≤ 12 := b_17
  replace b_18 : pe ≤ 24 := b_18
  replace b_19 : le ≤ 700 := b_19
  replace b_20 : qu ≤ 12 := b_20
  replace b_21 : n_7 ≤ 8 := b_21
  replace b_22 : n_8 ≤ 24 := b_22
  replace b_23 : n_9 ≤ 24 := b_23
  replace b_24 : il ≤ 700 := b_24
  replace b_25 : n_5 ≤ 701 := b_25
  have h_4 : Φ1 x = some (o_ 14 [.int v_18, .ref (x + 1), .ref (x + 2), .int v_19, .int v_20, .int (nI n_6), .int v_21, .int v_22, .ref (x + 3), .ref (x + 4), .int v_23, .long v_24, .ref (x + 5), .int (nI fl), .int v_25, .long v_26, .long v_27, .long v_28, .long v_29, .ref (x + 6), .ref (x + 7), .int (nI pe), .ref (x + 8), .int (nI le), .ref (x + 9), .ref (x + 10), .int (nI qu), .ref (x + 11), .ref (x + 12), .ref (x + 13), .ref (x + 14), .ref (x + 15), .ref (x + 16), .int (nI n_7), .long v_30, .ref (x + 17), .ref (x + 18), .ref (x + 19), .ref (x + 20), .ref (x + 21), .ref (x + 22), .int (nI n_8), .ref (x + 23), .ref (x + 24), .int (nI n_9), .ref (x + 25), .int (nI il), .int (nI n_5), .int ec, .int v_31, .int v_16, .int v_32, .int nu, .long v_17]) := h_3
  refine z_callV (As := [.int 0, .int 255]) (rest := []) B (r_readNumber G l Φ1 sz x fl pe le n_5 il qu v_16 ec nu v_17 0 255 hx hI1 (show 0 < 2 ^ 31 by omega)) (cwV 2 B.1.2.2.2.2 gX12_readUse_X12_readNumber rfl rfl rfl (by decide +kernel) ⟨Nat.le_of_ble_eq_true rfl, Nat.le_of_ble_eq_true rfl⟩) h_4 rfl rfl rfl rfl (Nat.le_of_ble_eq_true rfl) dX12_readUse_9 ⟨Nat.le_of_ble_eq_true rfl, Nat.le_of_ble_eq_true rfl⟩ (fun r_2 Φ2 sz2 st2 hp2 hs2 => ?_)
  obtain ⟨-, hq2, ⟨n_10, v_33, v_34, v_35, v_36, b_27, b_28, hI2⟩, hF2⟩ := hp2
  subst sz2
  replace hI2 : Im G x (NN, NN, fl, pe, le, n_10, il, qu, v_33, v_34, v_35, v_36) Φ2 := hI2
  replace b_27 : n_5 ≤ n_10 := b_27
  replace b_28 : (r_2 = some (.int 0) ∧ ¬ v_34 = 0) ∨ (r_2 = some (.int 1) ∧ v_16 = 2 ∧ ec = v_34 ∧ ∃ n9 : Nat, 0 ≤ n9 ∧ (n9 : Int) ≤ (255 : Int32).toInt ∧ v_35 = nI n9) := b_28
  rcases b_28 with ⟨rfl, q_2⟩ | ⟨rfl, q_1, rfl, n_11, b_29, b_30, rfl⟩
  · replace hs2 : st2 = [.int 0] := hs2
    subst st2
    refine z_if_ne (tgt := 17) B dX12_readUse_12 rfl (fun h9 => absurd (by decide) h9) (fun c_1 => ?_)
    refine z_iconst (v := 0) B dX12_readUse_15 rfl ?_
    exact z_ret_z B dX12_readUse_16 (by decide) ⟨⟨_, rfl, by decide⟩, rfl, ⟨n_10, v_33, v_34, v_35, v_36, (show nx ≤ n_10 by omega), (Or.inl q_2), hI2⟩, (fun b9 h9 => ((hF2 b9 (fun j9 h8 h7 => h9 j9 h8 (show j9 = 0 ∨ j9 = 1 by have h6 : j9 = 0 := h7; omega))).trans ((hF1 b9 (fun j9 h8 h7 => h9 j9 h8 (show j9 = 0 ∨ j9 = 1 by have h6 : j9 = 0 := h7; omega))).trans rfl)))⟩
  · have b_31 := Or.resolve_left b_14 (fun h9 => absurd (h9.symm.trans q_1) (by decide))
    replace hs2 : st2 = [.int 1] := hs2
    subst st2
    have b_32 : (255 : Int32).toInt = 255 := by decide
    refine z_if_ne (tgt := 17) B dX12_readUse_12 rfl (fun c_2 => ?_) (fun h9 => absurd h9 (by decide))
    refine z_aload_n B dX12_readUse_17 rfl 0 rfl ?_
    obtain ⟨v_37, v_38, v_39, n_12, v_40, v_41, v_42, v_43, v_44, v_45, v_46, v_47, v_48, n_13, v_49, n_14, n_15, v_50, v_51, h_5, b_44, b_33, b_34, b_35, b_36, b_37, b_38, b_39, b_40, b_41, b_42, b_43⟩ := im0 hI2
    replace b_33 : 1 ≤ n_12 := b_33
    replace b_34 : n_12 ≤ 1024 := b_34
    replace b_35 : fl ≤ 12 := b_35
    replace b_36 : pe ≤ 24 := b_36
    replace b_37 : le ≤ 700 := b_37
    replace b_38 : qu ≤ 12 := b_38
    replace b_39 : n_13 ≤ 8 := b_39
    replace b_40 : n_14 ≤ 24 := b_40
    replace b_41 : n_15 ≤ 24 := b_41
    replace b_42 : il ≤ 700 := b_42
    replace b_43 : n_10 ≤ 701 := b_43
    have h_6 : Φ2 x = some (o_ 14 [.int v_37, .ref (x + 1), .ref (x + 2), .int v_38, .int v_39, .int (nI n_12), .int v_40, .int v_41, .ref (x + 3), .ref (x + 4), .int v_42, .long v_43, .ref (x + 5), .int (nI fl), .int v_44, .long v_45, .long v_46, .long v_47, .long v_48, .ref (x + 6), .ref (x + 7), .int (nI pe), .ref (x + 8), .int (nI le), .ref (x + 9), .ref (x + 10), .int (nI qu), .ref (x + 11), .ref (x + 12), .ref (x + 13), .ref (x + 14), .ref (x + 15), .ref (x + 16), .int (nI n_13), .long v_49, .ref (x + 17), .ref (x + 18), .ref (x + 19), .ref (x + 20), .ref (x + 21), .ref (x + 22), .int (nI n_14), .ref (x + 23), .ref (x + 24), .int (nI n_15), .ref (x + 25), .int (nI il), .int (nI n_10), .int ec, .int v_50, .int v_33, .int v_51, .int (nI n_11), .long v_36]) := h_5
    refine z_get (ref := "FlowExporterModel") (C := RX12) (T := TX12) (N := 54) (ci := 14) (v := .int (nI n_11)) B (by decide +kernel) rfl 52 (by decide) (by decide +kernel) rfl h_6 rfl dX12_readUse_18 ?_
    refine z_istore_n (lv' := [(1, .int (nI n_11)), (0, .ref x)]) B dX12_readUse_21 rfl (Nat.le_of_ble_eq_true rfl) rfl ?_
    refine z_aload_n B dX12_readUse_22 rfl 1 rfl ?_
    refine z_bipush (v := 51) B dX12_readUse_23 rfl ?_
    refine z_iload_n B dX12_readUse_25 rfl 0 rfl ?_
    refine z_iadd B dX12_readUse_26 ?_
    refine z_top (st1 := [.int (nI (51 + n_11)), .ref x]) (congrArg (fun w9 : Int32 => ([.int w9, .ref x] : List Value)) (nI_add 51 n_11)) ?_
    refine z_iconst (v := 0) B dX12_readUse_27 rfl ?_
    refine z_aload_n B dX12_readUse_28 rfl 1 rfl ?_
    refine z_get (ref := "FlowExporterModel") (C := RX12) (T := TX12) (N := 54) (ci := 14) (v := .ref (x + 1)) B (by decide +kernel) rfl 1 (by decide) (by decide +kernel) rfl h_6 rfl dX12_readUse_29 ?_
    refine z_bipush (v := 10) B dX12_readUse_32 rfl ?_
    obtain ⟨f_1, h_7, r_3⟩ := imk (k := 1) hI2
    replace r_3 : NN f_1 := r_3
    have h_8 : Φ2 (x + 1) = some (ai_ G 307 f_1) := h_7
    refine z_iald B h_8 (vin rfl) dX12_readUse_34 ?_
    obtain ⟨n_16, b_45, e_1⟩ := r_3.2.2.2.2.1
    refine z_top (st1 := [.int (nI n_16), .int 0, .int (nI (51 + n_11)), .ref x]) (congrArg (fun w9 : Int32 => ([.int w9, .int 0, .int (nI (51 + n_11)), .ref x] : List Value)) (e_1)) ?_
    refine z_iconst (v := 1) B dX12_readUse_35 rfl ?_
    refine z_isub B dX12_readUse_36 ?_
    refine z_callV (As := [.int (nI (51 + n_11)), .int 0, .int ((nI n_16) - 1)]) (rest := []) B (r_readInto G l Φ2 sz x fl pe le n_10 il qu v_33 ec (nI n_11) v_36 (51 + n_11) 0 ((nI n_16) - 1) hx hI2 (show 0 < 2 ^ 31 by omega) (show (51 + n_11) < 307 by omega) (fun n h1 h2 f h => NN.up h (by omega) (fun e9 => absurd e9 (by omega)) (fun e9 => absurd e9 (by omega)) (fun e9 => absurd e9 (by omega)) (fun _ => ⟨n, by have h9 := predI (n := n_16) (by omega); omega, rfl⟩))) (cwV 3 B.1.2.2.2.2 gX12_readUse_X12_readInto rfl rfl rfl (by decide +kernel) ⟨Nat.le_of_ble_eq_true rfl, Nat.le_of_ble_eq_true rfl⟩) h_6 rfl rfl rfl rfl (Nat.le_of_ble_eq_true rfl) dX12_readUse_37 ⟨Nat.le_of_ble_eq_true rfl, Nat.le_of_ble_eq_true rfl⟩ (fun r_4 Φ3 sz3 st3 hp3 hs3 => ?_)
    obtain ⟨-, hq3, ⟨n_17, v_52, v_53, v_54, v_55, b_46, b_47, hI3⟩, hF3⟩ := hp3
    subst sz3
    replace hI3 : Im G x (NN, NN, fl, pe, le, n_17, il, qu, v_52, v_53, v_54, v_55) Φ3 := hI3
    replace b_46 : n_10 ≤ n_17 := b_46
    replace b_47 : (r_4 = some (.int 0) ∧ ¬ v_53 = 0) ∨ (r_4 = some (.int 1) ∧ v_33 = 2 ∧ ec = v_53) := b_47
    rcases b_47 with ⟨rfl, q_4⟩ | ⟨rfl, q_3, rfl⟩
    · replace hs3 : st3 = [.int 0] := hs3
      subst st3
      refine z_if_eq (tgt := 54) B dX12_readUse_40 rfl (fun c_3 => ?_) (fun h9 => absurd (by decide) h9)
      refine z_iconst (v := 0) B dX12_readUse_54 rfl ?_
      exact z_ret_z B dX12_readUse_55 (by decide) ⟨⟨_, rfl, by decide⟩, rfl, ⟨n_17, v_52, v_53, v_54, v_55, (show nx ≤ n_17 by omega), (Or.inl q_4), hI3⟩, (fun b9 h9 => ((hF3 b9 (fun j9 h8 h7 => h9 j9 h8 (show j9 = 0 ∨ j9 = 1 by have h6 : j9 = 0 ∨ j9 = 1 := h7; omega))).trans ((hF2 b9 (fun j9 h8 h7 => h9 j9 h8 (show j9 = 0 ∨ j9 = 1 by have h6 : j9 = 0 := h7; omega))).trans ((hF1 b9 (fun j9 h8 h7 => h9 j9 h8 (show j9 = 0 ∨ j9 = 1 by have h6 : j9 = 0 := h7; omega))).trans rfl))))⟩
    · replace hs3 : st3 = [.int 1] := hs3
      subst st3
      refine z_if_eq (tgt := 54) B dX12_readUse_40 rfl (fun h9 => absurd h9 (by decide)) (fun c_4 => ?_)
      refine z_aload_n B dX12_readUse_43 rfl 1 rfl ?_
      obtain ⟨v_56, v_57, v_58, n_18, v_59, v_60, v_61, v_62, v_63, v_64, v_65, v_66, v_67, n_19, v_68, n_20, n_21, v_69, v_70, h_9, b_59, b_48, b_49, b_50, b_51, b_52, b_53, b_54, b_55, b_56, b_57, b_58⟩ := im0 hI3
      replace b_48 : 1 ≤ n_18 := b_48
      replace b_49 : n_18 ≤ 1024 := b_49
      replace b_50 : fl ≤ 12 := b_50
      replace b_51 : pe ≤ 24 := b_51
      replace b_52 : le ≤ 700 := b_52
      replace b_53 : qu ≤ 12 := b_53
      replace b_54 : n_19 ≤ 8 := b_54
      replace b_55 : n_20 ≤ 24 := b_55
      replace b_56 : n_21 ≤ 24 := b_56
      replace b_57 : il ≤ 700 := b_57
      replace b_58 : n_17 ≤ 701 := b_58
      have h_10 : Φ3 x = some (o_ 14 [.int v_56, .ref (x + 1), .ref (x + 2), .int v_57, .int v_58, .int (nI n_18), .int v_59, .int v_60, .ref (x + 3), .ref (x + 4), .int v_61, .long v_62, .ref (x + 5), .int (nI fl), .int v_63, .long v_64, .long v_65, .long v_66, .long v_67, .ref (x + 6), .ref (x + 7), .int (nI pe), .ref (x + 8), .int (nI le), .ref (x + 9), .ref (x + 10), .int (nI qu), .ref (x + 11), .ref (x + 12), .ref (x + 13), .ref (x + 14), .ref (x + 15), .ref (x + 16), .int (nI n_19), .long v_68, .ref (x + 17), .ref (x + 18), .ref (x + 19), .ref (x + 20), .ref (x + 21), .ref (x + 22), .int (nI n_20), .ref (x + 23), .ref (x + 24), .int (nI n_21), .ref (x + 25), .int (nI il), .int (nI n_17), .int ec, .int v_69, .int v_52, .int v_70, .int v_54, .long v_55]) := h_9
      refine z_callV (As := []) (rest := []) B (r_readEnd G l Φ3 sz x fl pe le n_17 il qu v_52 ec v_54 v_55  hx hI3 ) (cwV 0 B.1.2.2.2.2 gX12_readUse_X12_readEnd rfl rfl rfl (by decide +kernel) ⟨Nat.le_of_ble_eq_true rfl, Nat.le_of_ble_eq_true rfl⟩) h_10 rfl rfl rfl rfl (Nat.le_of_ble_eq_true rfl) dX12_readUse_44 ⟨Nat.le_of_ble_eq_true rfl, Nat.le_of_ble_eq_true rfl⟩ (fun r_5 Φ4 sz4 st4 hp4 hs4 => ?_)
      obtain ⟨-, hq4, ⟨n_22, v_71, v_72, v_73, v_74, b_60, b_61, hI4⟩, hF4⟩ := hp4
      subst sz4
      replace hI4 : Im G x (NN, NN, fl, pe, le, n_22, il, qu, v_71, v_72, v_73, v_74) Φ4 := hI4
      replace b_60 : n_17 ≤ n_22 := b_60
      replace b_61 : (r_5 = some (.int 0) ∧ ¬ v_72 = 0) ∨ (r_5 = some (.int 1) ∧ ec = v_72) := b_61
      rcases b_61 with ⟨rfl, q_5⟩ | ⟨rfl, rfl⟩
      · replace hs4 : st4 = [.int 0] := hs4
        subst st4
        refine z_if_eq (tgt := 54) B dX12_readUse_47 rfl (fun c_5 => ?_) (fun h9 => absurd (by decide) h9)
        refine z_iconst (v := 0) B dX12_readUse_54 rfl ?_
        exact z_ret_z B dX12_readUse_55 (by decide) ⟨⟨_, rfl, by decide⟩, rfl, ⟨n_22, v_71, v_72, v_73, v_74, (show nx ≤ n_22 by omega), (Or.inl q_5), hI4⟩, (fun b9 h9 => ((hF4 b9 (fun j9 h8 h7 => h9 j9 h8 (show j9 = 0 ∨ j9 = 1 by have h6 : j9 = 0 := h7; omega))).trans ((hF3 b9 (fun j9 h8 h7 => h9 j9 h8 (show j9 = 0 ∨ j9 = 1 by have h6 : j9 = 0 ∨ j9 = 1 := h7; omega))).trans ((hF2 b9 (fun j9 h8 h7 => h9 j9 h8 (show j9 = 0 ∨ j9 = 1 by have h6 : j9 = 0 := h7; omega))).trans ((hF1 b9 (fun j9 h8 h7 => h9 j9 h8 (show j9 = 0 ∨ j9 = 1 by have h6 : j9 = 0 := h7; omega))).trans rfl)))))⟩
      · replace hs4 : st4 = [.int 1] := hs4
        subst st4
        refine z_if_eq (tgt := 54) B dX12_readUse_47 rfl (fun h9 => absurd h9 (by decide)) (fun c_6 => ?_)
        refine z_iconst (v := 1) B dX12_readUse_50 rfl ?_
        refine z_goto (tgt := 55) B dX12_readUse_51 rfl ?_
        exact z_ret_z B dX12_readUse_55 (by decide) ⟨⟨_, rfl, by decide⟩, rfl, ⟨n_22, v_71, ec, v_73, v_74, (show nx ≤ n_22 by omega), (Or.inr (show nx < n_22 by omega)), hI4⟩, (fun b9 h9 => ((hF4 b9 (fun j9 h8 h7 => h9 j9 h8 (show j9 = 0 ∨ j9 = 1 by have h6 : j9 = 0 := h7; omega))).trans ((hF3 b9 (fun j9 h8 h7 => h9 j9 h8 (show j9 = 0 ∨ j9 = 1 by have h6 : j9 = 0 ∨ j9 = 1 := h7; omega))).trans ((hF2 b9 (fun j9 h8 h7 => h9 j9 h8 (show j9 = 0 ∨ j9 = 1 by have h6 : j9 = 0 := h7; omega))).trans ((hF1 b9 (fun j9 h8 h7 => h9 j9 h8 (show j9 = 0 ∨ j9 = 1 by have h6 : j9 = 0 := h7; omega))).trans rfl)))))⟩

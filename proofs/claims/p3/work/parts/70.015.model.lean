set_option maxRecDepth 20000 in
theorem ggX12_load_X12_beginConfiguration : GoodIn wsX12_load wsX12_beginConfiguration := goodIn_ca (goodIn_r _ [11, 12, 123, 124, 125, 126, 127, 128, 129, 130, 131, 132, 133, 134, 135, 136, 137, 138, 139, 140, 141, 142, 143, 144, 145, 146, 147, 148, 149, 150, 151, 152, 153, 154, 155, 156, 157, 158, 159, 160, 161, 162, 163, 164, 165, 166, 167, 168, 169, 170, 171, 172, 173, 174, 175, 176] rfl (by decide +kernel)) (goodIn_sub (fun _ h => List.mem_cons_of_mem _ (List.mem_append_right _ h)) (by decide +kernel))
set_option maxRecDepth 20000 in
theorem gX12_load_X12_beginConfiguration : GoodIn wsX12_load (wsV RX12 95 RX12 yX12_beginConfiguration wsX12_beginConfiguration) := goodIn_app (goodIn_of _ (by decide +kernel)) ggX12_load_X12_beginConfiguration
set_option maxRecDepth 20000 in
theorem ggX12_load_X12_advanceToken : GoodIn wsX12_load wsX12_advanceToken := goodIn_ca (goodIn_r _ [16, 4, 17, 18, 5, 19, 20, 21, 22, 23, 24, 25, 10, 26, 6, 27, 28, 29, 30, 31, 32, 33, 34, 35, 36, 37, 38, 39, 123, 124, 125, 126, 127, 128, 129, 130, 131, 132, 133, 134, 135, 136, 137, 138, 139, 140, 141, 142, 143, 144, 145, 146, 147, 148, 149, 150, 151, 152, 153, 154, 155, 156, 157, 158, 159, 160, 161, 162, 163, 164, 165, 166, 167, 168, 169, 170, 171, 172, 173, 174, 175, 176] rfl (by decide +kernel)) (goodIn_sub (fun _ h => List.mem_cons_of_mem _ (List.mem_append_right _ h)) (by decide +kernel))
set_option maxRecDepth 20000 in
theorem gX12_load_X12_advanceToken : GoodIn wsX12_load (wsV RX12 489 RX12 yX12_advanceToken wsX12_advanceToken) := goodIn_app (goodIn_of _ (by decide +kernel)) ggX12_load_X12_advanceToken
set_option maxRecDepth 20000 in
theorem ggX12_load_X12_readStatement : GoodIn wsX12_load wsX12_readStatement := goodIn_ca (goodIn_r _ [43, 5, 18, 44, 45, 46, 47, 48, 10, 49, 2, 17, 3, 50, 51, 52, 20, 19, 53, 54, 55, 56, 13, 14, 15, 16, 4, 21, 22, 23, 24, 25, 26, 6, 27, 28, 29, 30, 31, 32, 33, 34, 35, 36, 37, 38, 39, 57, 58, 59, 60, 12, 61, 62, 63, 64, 65, 66, 67, 68, 69, 70, 71, 72, 73, 74, 75, 76, 77, 78, 79, 80, 81, 82, 83, 84, 85, 86, 123, 124, 125, 126, 127, 128, 129, 130, 131, 132, 133, 134, 135, 136, 137, 138, 139, 140, 141, 142, 143, 144, 145, 146, 147, 148, 149, 150, 151, 152, 153, 154, 155, 156, 157, 158, 159, 160, 161, 162, 163, 164, 165, 166, 167, 168, 169, 170, 171, 172, 173, 174, 175, 176] rfl (by decide +kernel)) (goodIn_sub (fun _ h => List.mem_cons_of_mem _ (List.mem_append_right _ h)) (by decide +kernel))
set_option maxRecDepth 20000 in
theorem gX12_load_X12_readStatement : GoodIn wsX12_load (wsV RX12 527 RX12 yX12_readStatement wsX12_readStatement) := goodIn_app (goodIn_of _ (by decide +kernel)) ggX12_load_X12_readStatement
set_option maxRecDepth 20000 in
theorem ggX12_load_X12_take : GoodIn wsX12_load wsX12_take := goodIn_ca (goodIn_r _ [90, 12, 91, 92, 93, 94, 95, 96, 97, 98, 99, 100, 101, 102, 103, 104, 105, 106, 107, 108, 109, 110, 111, 10, 112, 113, 114, 115, 116, 117, 118, 119, 120, 121, 122, 123, 124, 125, 126, 127, 128, 129, 130, 131, 132, 133, 134, 135, 136, 137, 138, 139, 140, 141, 142, 143, 144, 145, 146, 147, 148, 149, 150, 151, 152, 153, 154, 155, 156, 157, 158, 159, 160, 161, 162, 163, 164, 165, 166, 167, 168, 169, 170, 171, 172, 173, 174, 175, 176] rfl (by decide +kernel)) (goodIn_sub (fun _ h => List.mem_cons_of_mem _ (List.mem_append_right _ h)) (by decide +kernel))
set_option maxRecDepth 20000 in
theorem gX12_load_X12_take : GoodIn wsX12_load (wsV RX12 98 RX12 yX12_take wsX12_take) := goodIn_app (goodIn_of _ (by decide +kernel)) ggX12_load_X12_take
theorem dX12_load_0 : decode cX12_load 0 = .ok (.aload_n 0, 1) := by decide +kernel
theorem dX12_load_1 : decode cX12_load 1 = .ok (.iconst 0, 1) := by decide +kernel
theorem dX12_load_2 : decode cX12_load 2 = .ok (.putfield 1, 3) := by decide +kernel
theorem dX12_load_5 : decode cX12_load 5 = .ok (.aload_n 0, 1) := by decide +kernel
theorem dX12_load_6 : decode cX12_load 6 = .ok (.invokevirtual 95, 3) := by decide +kernel
theorem dX12_load_9 : decode cX12_load 9 = .ok (.aload_n 0, 1) := by decide +kernel
theorem dX12_load_10 : decode cX12_load 10 = .ok (.iconst 0, 1) := by decide +kernel
theorem dX12_load_11 : decode cX12_load 11 = .ok (.putfield 447, 3) := by decide +kernel
theorem dX12_load_14 : decode cX12_load 14 = .ok (.aload_n 0, 1) := by decide +kernel
theorem dX12_load_15 : decode cX12_load 15 = .ok (.iconst (-1), 1) := by decide +kernel
theorem dX12_load_16 : decode cX12_load 16 = .ok (.putfield 92, 3) := by decide +kernel
theorem dX12_load_19 : decode cX12_load 19 = .ok (.aload_n 0, 1) := by decide +kernel
theorem dX12_load_20 : decode cX12_load 20 = .ok (.iconst 0, 1) := by decide +kernel
theorem dX12_load_21 : decode cX12_load 21 = .ok (.putfield 458, 3) := by decide +kernel
theorem dX12_load_24 : decode cX12_load 24 = .ok (.aload_n 0, 1) := by decide +kernel
theorem dX12_load_25 : decode cX12_load 25 = .ok (.invokevirtual 489, 3) := by decide +kernel
theorem dX12_load_28 : decode cX12_load 28 = .ok (.iconst 0, 1) := by decide +kernel
theorem dX12_load_29 : decode cX12_load 29 = .ok (.istore_n 1, 1) := by decide +kernel
theorem dX12_load_30 : decode cX12_load 30 = .ok (.aload_n 0, 1) := by decide +kernel
theorem dX12_load_31 : decode cX12_load 31 = .ok (.getfield 447, 3) := by decide +kernel
theorem dX12_load_34 : decode cX12_load 34 = .ok (.ifCond .ne 23, 3) := by decide +kernel
theorem dX12_load_37 : decode cX12_load 37 = .ok (.aload_n 0, 1) := by decide +kernel
theorem dX12_load_38 : decode cX12_load 38 = .ok (.getfield 476, 3) := by decide +kernel
theorem dX12_load_41 : decode cX12_load 41 = .ok (.ifCond .eq 16, 3) := by decide +kernel
theorem dX12_load_44 : decode cX12_load 44 = .ok (.aload_n 0, 1) := by decide +kernel
theorem dX12_load_45 : decode cX12_load 45 = .ok (.invokevirtual 527, 3) := by decide +kernel
theorem dX12_load_48 : decode cX12_load 48 = .ok (.ifCond .eq (-18), 3) := by decide +kernel
theorem dX12_load_51 : decode cX12_load 51 = .ok (.iinc 1 1, 3) := by decide +kernel
theorem dX12_load_54 : decode cX12_load 54 = .ok (.goto (-24), 3) := by decide +kernel
theorem dX12_load_57 : decode cX12_load 57 = .ok (.aload_n 0, 1) := by decide +kernel
theorem dX12_load_58 : decode cX12_load 58 = .ok (.iconst 0, 1) := by decide +kernel
theorem dX12_load_59 : decode cX12_load 59 = .ok (.putfield 441, 3) := by decide +kernel
theorem dX12_load_62 : decode cX12_load 62 = .ok (.aload_n 0, 1) := by decide +kernel
theorem dX12_load_63 : decode cX12_load 63 = .ok (.getfield 447, 3) := by decide +kernel
theorem dX12_load_66 : decode cX12_load 66 = .ok (.ifCond .eq 6, 3) := by decide +kernel
theorem dX12_load_69 : decode cX12_load 69 = .ok (.bipush (-2), 2) := by decide +kernel
theorem dX12_load_71 : decode cX12_load 71 = .ok (.ireturn, 1) := by decide +kernel
theorem dX12_load_72 : decode cX12_load 72 = .ok (.aload_n 0, 1) := by decide +kernel
theorem dX12_load_73 : decode cX12_load 73 = .ok (.invokevirtual 98, 3) := by decide +kernel
theorem dX12_load_76 : decode cX12_load 76 = .ok (.iload_n 1, 1) := by decide +kernel
theorem dX12_load_77 : decode cX12_load 77 = .ok (.ireturn, 1) := by decide +kernel
set_option maxHeartbeats 4000000 in
set_option maxRecDepth 100000 in
theorem r_load (G : EnvG) (l : Launch) (Φ : Hm) (sz x : Nat) (rd : (Nat → Int32) → Prop) (fl : Nat) (le : Nat) (nx : Nat) (il : Nat) (qu : Nat) (kn : Int32) (ec : Int32) (nu : Int32) (va : Int64)  (hx : G.2.2.2 ≤ x) (hI : Im G x (rd, NN, fl, 0, le, nx, il, qu, kn, ec, nu, va) Φ)  : Ct G l yX12_load wsX12_load ({ frames := 7, cells := 0, slots := 0, locals := 154 }) 0 0 [.ref x] Φ sz (fun v Φ1 sz1 => (∃ r9 : Int32, v = some (.int r9)) ∧ sz1 = sz ∧ (∃ (fl1 : Nat) (qu1 : Nat) (nx1 : Nat) (kn1 : Int32) (ec1 : Int32) (nu1 : Int32) (va1 : Int64), Im G x (NN, NN, fl1, 0, le, nx1, 0, qu1, kn1, ec1, nu1, va1) Φ1) ∧ Fr x (fun j9 => j9 = 0 ∨ j9 = 1 ∨ j9 = 2 ∨ j9 = 3 ∨ j9 = 11 ∨ j9 = 12) Φ Φ1) := by
  refine Ct.of (cc := cX12_load) (maxL := 2) (ret := (some .int)) (by decide) rfl (Nat.le_of_ble_eq_true rfl) ?_
  intro p9 e9 s9 m9 w9 t9 k9 B
  show Z p9 l e9 _ s9 m9 _ w9 t9 k9 _ G 2 0 [(0, .ref x)] [] Φ sz 0 0
  refine z_aload_n B dX12_load_0 rfl 0 rfl ?_
  refine z_iconst (v := 0) B dX12_load_1 rfl ?_
  obtain ⟨v_1, v_2, v_3, n_1, v_4, v_5, v_6, v_7, v_8, v_9, v_10, v_11, v_12, n_2, v_13, n_3, n_4, v_14, v_15, h_1, b_12, b_1, b_2, b_3, b_4, b_5, b_6, b_7, b_8, b_9, b_10, b_11⟩ := im0 hI
  replace b_1 : 1 ≤ n_1 := b_1
  replace b_2 : n_1 ≤ 1024 := b_2
  replace b_3 : fl ≤ 12 := b_3
  replace b_4 : 0 ≤ 24 := b_4
  replace b_5 : le ≤ 700 := b_5
  replace b_6 : qu ≤ 12 := b_6
  replace b_7 : n_2 ≤ 8 := b_7
  replace b_8 : n_3 ≤ 24 := b_8
  replace b_9 : n_4 ≤ 24 := b_9
  replace b_10 : il ≤ 700 := b_10
  replace b_11 : nx ≤ 701 := b_11
  have h_2 : Φ x = some (o_ 14 [.int v_1, .ref (x + 1), .ref (x + 2), .int v_2, .int v_3, .int (nI n_1), .int v_4, .int v_5, .ref (x + 3), .ref (x + 4), .int v_6, .long v_7, .ref (x + 5), .int (nI fl), .int v_8, .long v_9, .long v_10, .long v_11, .long v_12, .ref (x + 6), .ref (x + 7), .int (nI 0), .ref (x + 8), .int (nI le), .ref (x + 9), .ref (x + 10), .int (nI qu), .ref (x + 11), .ref (x + 12), .ref (x + 13), .ref (x + 14), .ref (x + 15), .ref (x + 16), .int (nI n_2), .long v_13, .ref (x + 17), .ref (x + 18), .ref (x + 19), .ref (x + 20), .ref (x + 21), .ref (x + 22), .int (nI n_3), .ref (x + 23), .ref (x + 24), .int (nI n_4), .ref (x + 25), .int (nI il), .int (nI nx), .int ec, .int v_14, .int kn, .int v_15, .int nu, .long va]) := h_1
  refine z_put (ref := "FlowExporterModel") (C := RX12) (T := TX12) (N := 54) (ci := 14) (v := .int 0) B (by decide +kernel) tyX12 tyX12_ok nmX12 rfl 0 (by decide) (by decide +kernel) rfl (Or.inl rfl) h_2 hx rfl rfl (Nat.le_of_ble_eq_true rfl) dX12_load_2 (fun Φ1 hΦ1 => ?_)
  have h_3 : Φ1 x = some (o_ 14 [.int 0, .ref (x + 1), .ref (x + 2), .int v_2, .int v_3, .int (nI n_1), .int v_4, .int v_5, .ref (x + 3), .ref (x + 4), .int v_6, .long v_7, .ref (x + 5), .int (nI fl), .int v_8, .long v_9, .long v_10, .long v_11, .long v_12, .ref (x + 6), .ref (x + 7), .int (nI 0), .ref (x + 8), .int (nI le), .ref (x + 9), .ref (x + 10), .int (nI qu), .ref (x + 11), .ref (x + 12), .ref (x + 13), .ref (x + 14), .ref (x + 15), .ref (x + 16), .int (nI n_2), .long v_13, .ref (x + 17), .ref (x + 18), .ref (x + 19), .ref (x + 20), .ref (x + 21), .ref (x + 22), .int (nI n_3), .ref (x + 23), .ref (x + 24), .int (nI n_4), .ref (x + 25), .int (nI il), .int (nI nx), .int ec, .int v_14, .int kn, .int v_15, .int nu, .long va]) := fset_at hΦ1
  have hI1 : Im G x (rd, NN, fl, 0, le, nx, il, qu, kn, ec, nu, va) Φ1 := Im.put0 hI hΦ1 ⟨0, v_2, v_3, n_1, v_4, v_5, v_6, v_7, v_8, v_9, v_10, v_11, v_12, n_2, v_13, n_3, n_4, v_14, v_15, rfl, b_12, (show 1 ≤ n_1 by omega), (show n_1 ≤ 1024 by omega), (show fl ≤ 12 by omega), (show 0 ≤ 24 by omega), (show le ≤ 700 by omega), (show qu ≤ 12 by omega), (show n_2 ≤ 8 by omega), (show n_3 ≤ 24 by omega), (show n_4 ≤ 24 by omega), (show il ≤ 700 by omega), (show nx ≤ 701 by omega)⟩
  refine z_aload_n B dX12_load_5 rfl 0 rfl ?_
  refine z_callV (As := []) (rest := []) B (r_beginConfiguration G l Φ1 sz x rd NN fl 0 le nx il qu kn ec nu va  hx hI1 ) (cwV 0 B.1.2.2.2.2 gX12_load_X12_beginConfiguration rfl rfl rfl (by decide +kernel) ⟨Nat.le_of_ble_eq_true rfl, Nat.le_of_ble_eq_true rfl⟩) h_3 rfl rfl rfl rfl (Nat.le_of_ble_eq_true rfl) dX12_load_6 ⟨Nat.le_of_ble_eq_true rfl, Nat.le_of_ble_eq_true rfl⟩ (fun r_1 Φ2 sz1 st1 hp1 hs1 => ?_)
  obtain ⟨rfl, hq1, hI2, hF1⟩ := hp1
  subst sz1
  replace hs1 : st1 = [] := hs1
  subst st1
  replace hI2 : Im G x (NN, NN, fl, 0, le, nx, il, qu, kn, ec, nu, va) Φ2 := hI2
  refine z_aload_n B dX12_load_9 rfl 0 rfl ?_
  refine z_iconst (v := 0) B dX12_load_10 rfl ?_
  have h_4 : Φ2 x = some (o_ 14 [.int 0, .ref (x + 1), .ref (x + 2), .int v_2, .int v_3, .int (nI n_1), .int v_4, .int v_5, .ref (x + 3), .ref (x + 4), .int v_6, .long v_7, .ref (x + 5), .int (nI fl), .int v_8, .long v_9, .long v_10, .long v_11, .long v_12, .ref (x + 6), .ref (x + 7), .int (nI 0), .ref (x + 8), .int (nI le), .ref (x + 9), .ref (x + 10), .int (nI qu), .ref (x + 11), .ref (x + 12), .ref (x + 13), .ref (x + 14), .ref (x + 15), .ref (x + 16), .int (nI n_2), .long v_13, .ref (x + 17), .ref (x + 18), .ref (x + 19), .ref (x + 20), .ref (x + 21), .ref (x + 22), .int (nI n_3), .ref (x + 23), .ref (x + 24), .int (nI n_4), .ref (x + 25), .int (nI il), .int (nI nx), .int ec, .int v_14, .int kn, .int v_15, .int nu, .long va]) := ((hF1 x (fun j9 h8 h7 => by have h6 : j9 = 1 := h7; omega)).trans h_3)
  refine z_put (ref := "FlowExporterModel") (C := RX12) (T := TX12) (N := 54) (ci := 14) (v := .int 0) B (by decide +kernel) tyX12 tyX12_ok nmX12 rfl 48 (by decide) (by decide +kernel) rfl (Or.inl rfl) h_4 hx rfl rfl (Nat.le_of_ble_eq_true rfl) dX12_load_11 (fun Φ3 hΦ2 => ?_)
  have h_5 : Φ3 x = some (o_ 14 [.int 0, .ref (x + 1), .ref (x + 2), .int v_2, .int v_3, .int (nI n_1), .int v_4, .int v_5, .ref (x + 3), .ref (x + 4), .int v_6, .long v_7, .ref (x + 5), .int (nI fl), .int v_8, .long v_9, .long v_10, .long v_11, .long v_12, .ref (x + 6), .ref (x + 7), .int (nI 0), .ref (x + 8), .int (nI le), .ref (x + 9), .ref (x + 10), .int (nI qu), .ref (x + 11), .ref (x + 12), .ref (x + 13), .ref (x + 14), .ref (x + 15), .ref (x + 16), .int (nI n_2), .long v_13, .ref (x + 17), .ref (x + 18), .ref (x + 19), .ref (x + 20), .ref (x + 21), .ref (x + 22), .int (nI n_3), .ref (x + 23), .ref (x + 24), .int (nI n_4), .ref (x + 25), .int (nI il), .int (nI nx), .int 0, .int v_14, .int kn, .int v_15, .int nu, .long va]) := fset_at hΦ2
  have hI3 : Im G x (NN, NN, fl, 0, le, nx, il, qu, kn, 0, nu, va) Φ3 := Im.put0 hI2 hΦ2 ⟨0, v_2, v_3, n_1, v_4, v_5, v_6, v_7, v_8, v_9, v_10, v_11, v_12, n_2, v_13, n_3, n_4, v_14, v_15, rfl, b_12, (show 1 ≤ n_1 by omega), (show n_1 ≤ 1024 by omega), (show fl ≤ 12 by omega), (show 0 ≤ 24 by omega), (show le ≤ 700 by omega), (show qu ≤ 12 by omega), (show n_2 ≤ 8 by omega), (show n_3 ≤ 24 by omega), (show n_4 ≤ 24 by omega), (show il ≤ 700 by omega), (show nx ≤ 701 by omega)⟩
  refine z_aload_n B dX12_load_14 rfl 0 rfl ?_
  refine z_iconst (v := (-1)) B dX12_load_15 rfl ?_
  refine z_put (ref := "FlowExporterModel") (C := RX12) (T := TX12) (N := 54) (ci := 14) (v := .int (-1)) B (by decide +kernel) tyX12 tyX12_ok nmX12 rfl 49 (by decide) (by decide +kernel) rfl (Or.inl rfl) h_5 hx rfl rfl (Nat.le_of_ble_eq_true rfl) dX12_load_16 (fun Φ4 hΦ3 => ?_)
  have h_6 : Φ4 x = some (o_ 14 [.int 0, .ref (x + 1), .ref (x + 2), .int v_2, .int v_3, .int (nI n_1), .int v_4, .int v_5, .ref (x + 3), .ref (x + 4), .int v_6, .long v_7, .ref (x + 5), .int (nI fl), .int v_8, .long v_9, .long v_10, .long v_11, .long v_12, .ref (x + 6), .ref (x + 7), .int (nI 0), .ref (x + 8), .int (nI le), .ref (x + 9), .ref (x + 10), .int (nI qu), .ref (x + 11), .ref (x + 12), .ref (x + 13), .ref (x + 14), .ref (x + 15), .ref (x + 16), .int (nI n_2), .long v_13, .ref (x + 17), .ref (x + 18), .ref (x + 19), .ref (x + 20), .ref (x + 21), .ref (x + 22), .int (nI n_3), .ref (x + 23), .ref (x + 24), .int (nI n_4), .ref (x + 25), .int (nI il), .int (nI nx), .int 0, .int (-1), .int kn, .int v_15, .int nu, .long va]) := fset_at hΦ3
  have hI4 : Im G x (NN, NN, fl, 0, le, nx, il, qu, kn, 0, nu, va) Φ4 := Im.put0 hI3 hΦ3 ⟨0, v_2, v_3, n_1, v_4, v_5, v_6, v_7, v_8, v_9, v_10, v_11, v_12, n_2, v_13, n_3, n_4, (-1), v_15, rfl, b_12, (show 1 ≤ n_1 by omega), (show n_1 ≤ 1024 by omega), (show fl ≤ 12 by omega), (show 0 ≤ 24 by omega), (show le ≤ 700 by omega), (show qu ≤ 12 by omega), (show n_2 ≤ 8 by omega), (show n_3 ≤ 24 by omega), (show n_4 ≤ 24 by omega), (show il ≤ 700 by omega), (show nx ≤ 701 by omega)⟩
  refine z_aload_n B dX12_load_19 rfl 0 rfl ?_
  refine z_iconst (v := 0) B dX12_load_20 rfl ?_
  refine z_put (ref := "FlowExporterModel") (C := RX12) (T := TX12) (N := 54) (ci := 14) (v := .int 0) B (by decide +kernel) tyX12 tyX12_ok nmX12 rfl 47 (by decide) (by decide +kernel) rfl (Or.inl rfl) h_6 hx rfl rfl (Nat.le_of_ble_eq_true rfl) dX12_load_21 (fun Φ5 hΦ4 => ?_)
  have h_7 : Φ5 x = some (o_ 14 [.int 0, .ref (x + 1), .ref (x + 2), .int v_2, .int v_3, .int (nI n_1), .int v_4, .int v_5, .ref (x + 3), .ref (x + 4), .int v_6, .long v_7, .ref (x + 5), .int (nI fl), .int v_8, .long v_9, .long v_10, .long v_11, .long v_12, .ref (x + 6), .ref (x + 7), .int (nI 0), .ref (x + 8), .int (nI le), .ref (x + 9), .ref (x + 10), .int (nI qu), .ref (x + 11), .ref (x + 12), .ref (x + 13), .ref (x + 14), .ref (x + 15), .ref (x + 16), .int (nI n_2), .long v_13, .ref (x + 17), .ref (x + 18), .ref (x + 19), .ref (x + 20), .ref (x + 21), .ref (x + 22), .int (nI n_3), .ref (x + 23), .ref (x + 24), .int (nI n_4), .ref (x + 25), .int (nI il), .int 0, .int 0, .int (-1), .int kn, .int v_15, .int nu, .long va]) := fset_at hΦ4
  have hI5 : Im G x (NN, NN, fl, 0, le, 0, il, qu, kn, 0, nu, va) Φ5 := Im.put0 hI4 hΦ4 ⟨0, v_2, v_3, n_1, v_4, v_5, v_6, v_7, v_8, v_9, v_10, v_11, v_12, n_2, v_13, n_3, n_4, (-1), v_15, rfl, b_12, (show 1 ≤ n_1 by omega), (show n_1 ≤ 1024 by omega), (show fl ≤ 12 by omega), (show 0 ≤ 24 by omega), (show le ≤ 700 by omega), (show qu ≤ 12 by omega), (show n_2 ≤ 8 by omega), (show n_3 ≤ 24 by omega), (show n_4 ≤ 24 by omega), (show il ≤ 700 by omega), (show 0 ≤ 701 by omega)⟩
  refine z_aload_n B dX12_load_24 rfl 0 rfl ?_
  refine z_callV (As := []) (rest := []) B (r_advanceToken G l Φ5 sz x NN fl 0 le 0 il qu kn 0 nu va  hx hI5 ) (cwV 0 B.1.2.2.2.2 gX12_load_X12_advanceToken rfl rfl rfl (by decide +kernel) ⟨Nat.le_of_ble_eq_true rfl, Nat.le_of_ble_eq_true rfl⟩) h_7 rfl rfl rfl rfl (Nat.le_of_ble_eq_true rfl) dX12_load_25 ⟨Nat.le_of_ble_eq_true rfl, Nat.le_of_ble_eq_true rfl⟩ (fun r_2 Φ6 sz2 st2 hp2 hs2 => ?_)
  obtain ⟨rfl, hq2, ⟨n_5, v_16, v_17, b_13, b_14, hI6⟩, hF2⟩ := hp2
  subst sz2
  replace hs2 : st2 = [] := hs2
  subst st2
  replace hI6 : Im G x (NN, NN, fl, 0, le, n_5, il, qu, v_16, 0, nu, v_17) Φ6 := hI6
  replace b_13 : 0 ≤ n_5 := b_13
  replace b_14 : v_16 = 0 ∨ 0 < n_5 := b_14
  refine z_iconst (v := 0) B dX12_load_28 rfl ?_
  refine z_istore_n (lv' := [(1, .int 0), (0, .ref x)]) B dX12_load_29 rfl (Nat.le_of_ble_eq_true rfl) rfl ?_
  refine z_lv [0, 1] rfl ?_
  refine z_loop (α := Int32 × Nat × Int32 × Int32 × Int32 × Int64) (fun (a9 : Int32 × Nat × Int32 × Int32 × Int32 × Int64) Φi => Im G x (NN, NN, fl, 0, le, a9.2.1, il, qu, a9.2.2.1, a9.2.2.2.1, a9.2.2.2.2.1, a9.2.2.2.2.2) Φi ∧ Fr x (fun j9 => j9 = 0 ∨ j9 = 1) Φ6 Φi ∧ True) (fun a9 => [(1, .int a9.1), (0, .ref x)]) (fun a9 => (if a9.2.2.2.1 = 0 then 1 else 0) + 2 * (702 - a9.2.1)) ?_ (0, n_5, v_16, 0, nu, v_17) ⟨hI6, fun _ _ => rfl, trivial⟩
  rintro ⟨i_1, i_2, i_3, i_4, i_5, i_6⟩ Φl1 ⟨hI7, hF3, -⟩ ih1
  replace hI7 : Im G x (NN, NN, fl, 0, le, i_2, il, qu, i_3, i_4, i_5, i_6) Φl1 := hI7
  show Z p9 l e9 _ s9 m9 _ w9 t9 k9 _ G 2 30 [(1, .int i_1), (0, .ref x)] [] Φl1 _ _ _
  refine z_aload_n B dX12_load_30 rfl 1 rfl ?_
  obtain ⟨v_18, v_19, v_20, n_6, v_21, v_22, v_23, v_24, v_25, v_26, v_27, v_28, v_29, n_7, v_30, n_8, n_9, v_31, v_32, h_8, b_26, b_15, b_16, b_17, b_18, b_19, b_20, b_21, b_22, b_23, b_24, b_25⟩ := im0 hI7
  replace b_15 : 1 ≤ n_6 := b_15
  replace b_16 : n_6 ≤ 1024 := b_16
  replace b_17 : fl ≤ 12 := b_17
  replace b_18 : 0 ≤ 24 := b_18
  replace b_19 : le ≤ 700 := b_19
  replace b_20 : qu ≤ 12 := b_20
  replace b_21 : n_7 ≤ 8 := b_21
  replace b_22 : n_8 ≤ 24 := b_22
  replace b_23 : n_9 ≤ 24 := b_23
  replace b_24 : il ≤ 700 := b_24
  replace b_25 : i_2 ≤ 701 := b_25
  have h_9 : Φl1 x = some (o_ 14 [.int v_18, .ref (x + 1), .ref (x + 2), .int v_19, .int v_20, .int (nI n_6), .int v_21, .int v_22, .ref (x + 3), .ref (x + 4), .int v_23, .long v_24, .ref (x + 5), .int (nI fl), .int v_25, .long v_26, .long v_27, .long v_28, .long v_29, .ref (x + 6), .ref (x + 7), .int (nI 0), .ref (x + 8), .int (nI le), .ref (x + 9), .ref (x + 10), .int (nI qu), .ref (x + 11), .ref (x + 12), .ref (x + 13), .ref (x + 14), .ref (x + 15), .ref (x + 16), .int (nI n_7), .long v_30, .ref (x + 17), .ref (x + 18), .ref (x + 19), .ref (x + 20), .ref (x + 21), .ref (x + 22), .int (nI n_8), .ref (x + 23), .ref (x + 24), .int (nI n_9), .ref (x + 25), .int (nI il), .int (nI i_2), .int i_4, .int v_31, .int i_3, .int v_32, .int i_5, .long i_6]) := h_8
  refine z_get (ref := "FlowExporterModel") (C := RX12) (T := TX12) (N := 54) (ci := 14) (v := .int i_4) B (by decide +kernel) rfl 48 (by decide) (by decide +kernel) rfl h_9 rfl dX12_load_31 ?_
  refine z_if_ne (tgt := 57) B dX12_load_34 rfl (fun c_1 => ?_) (fun c_1 => ?_)
  · refine z_aload_n B dX12_load_57 rfl 1 rfl ?_
    refine z_iconst (v := 0) B dX12_load_58 rfl ?_
    refine z_put (ref := "FlowExporterModel") (C := RX12) (T := TX12) (N := 54) (ci := 14) (v := .int 0) B (by decide +kernel) tyX12 tyX12_ok nmX12 rfl 46 (by decide) (by decide +kernel) rfl (Or.inl rfl) h_9 hx rfl rfl (Nat.le_of_ble_eq_true rfl) dX12_load_59 (fun Φ7 hΦ5 => ?_)
    have h_10 : Φ7 x = some (o_ 14 [.int v_18, .ref (x + 1), .ref (x + 2), .int v_19, .int v_20, .int (nI n_6), .int v_21, .int v_22, .ref (x + 3), .ref (x + 4), .int v_23, .long v_24, .ref (x + 5), .int (nI fl), .int v_25, .long v_26, .long v_27, .long v_28, .long v_29, .ref (x + 6), .ref (x + 7), .int (nI 0), .ref (x + 8), .int (nI le), .ref (x + 9), .ref (x + 10), .int (nI qu), .ref (x + 11), .ref (x + 12), .ref (x + 13), .ref (x + 14), .ref (x + 15), .ref (x + 16), .int (nI n_7), .long v_30, .ref (x + 17), .ref (x + 18), .ref (x + 19), .ref (x + 20), .ref (x + 21), .ref (x + 22), .int (nI n_8), .ref (x + 23), .ref (x + 24), .int (nI n_9), .ref (x + 25), .int 0, .int (nI i_2), .int i_4, .int v_31, .int i_3, .int v_32, .int i_5, .long i_6]) := fset_at hΦ5
    have hI8 : Im G x (NN, NN, fl, 0, le, i_2, 0, qu, i_3, i_4, i_5, i_6) Φ7 := Im.put0 hI7 hΦ5 ⟨v_18, v_19, v_20, n_6, v_21, v_22, v_23, v_24, v_25, v_26, v_27, v_28, v_29, n_7, v_30, n_8, n_9, v_31, v_32, rfl, b_26, (show 1 ≤ n_6 by omega), (show n_6 ≤ 1024 by omega), (show fl ≤ 12 by omega), (show 0 ≤ 24 by omega), (show le ≤ 700 by omega), (show qu ≤ 12 by omega), (show n_7 ≤ 8 by omega), (show n_8 ≤ 24 by omega), (show n_9 ≤ 24 by omega), (show 0 ≤ 700 by omega), (show i_2 ≤ 701 by omega)⟩
    refine z_aload_n B dX12_load_62 rfl 1 rfl ?_
    refine z_get (ref := "FlowExporterModel") (C := RX12) (T := TX12) (N := 54) (ci := 14) (v := .int i_4) B (by decide +kernel) rfl 48 (by decide) (by decide +kernel) rfl h_10 rfl dX12_load_63 ?_
    refine z_if_eq (tgt := 72) B dX12_load_66 rfl (fun c_2 => ?_) (fun c_2 => ?_)
    · refine z_aload_n B dX12_load_72 rfl 1 rfl ?_
      refine z_callV (As := []) (rest := []) B (r_take G l Φ7 sz x NN fl 0 le i_2 0 qu i_3 i_4 i_5 i_6  hx hI8 ) (cwV 0 B.1.2.2.2.2 gX12_load_X12_take rfl rfl rfl (by decide +kernel) ⟨Nat.le_of_ble_eq_true rfl, Nat.le_of_ble_eq_true rfl⟩) h_10 rfl rfl rfl rfl (Nat.le_of_ble_eq_true rfl) dX12_load_73 ⟨Nat.le_of_ble_eq_true rfl, Nat.le_of_ble_eq_true rfl⟩ (fun r_3 Φ8 sz3 st3 hp3 hs3 => ?_)
      obtain ⟨rfl, hq3, hI9, hF4⟩ := hp3
      subst sz3
      replace hs3 : st3 = [] := hs3
      subst st3
      replace hI9 : Im G x (NN, NN, 0, 0, le, i_2, 0, 0, i_3, i_4, i_5, i_6) Φ8 := hI9
      refine z_iload_n B dX12_load_76 rfl 0 rfl ?_
      exact z_ret_i B dX12_load_77 ⟨⟨_, rfl⟩, rfl, ⟨0, 0, i_2, i_3, i_4, i_5, i_6, hI9⟩, (fun b9 h9 => ((hF4 b9 (fun j9 h8 h7 => h9 j9 h8 (show j9 = 0 ∨ j9 = 1 ∨ j9 = 2 ∨ j9 = 3 ∨ j9 = 11 ∨ j9 = 12 by have h6 : j9 = 0 ∨ j9 = 1 ∨ j9 = 2 ∨ j9 = 3 ∨ j9 = 11 ∨ j9 = 12 := h7; omega))).trans ((fset_fr hΦ5 (fun h8 => h9 (0) h8 (show 0 = 0 ∨ 0 = 1 ∨ 0 = 2 ∨ 0 = 3 ∨ 0 = 11 ∨ 0 = 12 by omega))).trans ((hF3 b9 (fun j9 h8 h7 => h9 j9 h8 (show j9 = 0 ∨ j9 = 1 ∨ j9 = 2 ∨ j9 = 3 ∨ j9 = 11 ∨ j9 = 12 by have h6 : j9 = 0 ∨ j9 = 1 := h7; omega))).trans ((hF2 b9 (fun j9 h8 h7 => h9 j9 h8 (show j9 = 0 ∨ j9 = 1 ∨ j9 = 2 ∨ j9 = 3 ∨ j9 = 11 ∨ j9 = 12 by have h6 : j9 = 0 := h7; omega))).trans ((fset_fr hΦ4 (fun h8 => h9 (0) h8 (show 0 = 0 ∨ 0 = 1 ∨ 0 = 2 ∨ 0 = 3 ∨ 0 = 11 ∨ 0 = 12 by omega))).trans ((fset_fr hΦ3 (fun h8 => h9 (0) h8 (show 0 = 0 ∨ 0 = 1 ∨ 0 = 2 ∨ 0 = 3 ∨ 0 = 11 ∨ 0 = 12 by omega))).trans ((fset_fr hΦ2 (fun h8 => h9 (0) h8 (show 0 = 0 ∨ 0 = 1 ∨ 0 = 2 ∨ 0 = 3 ∨ 0 = 11 ∨ 0 = 12 by omega))).trans ((hF1 b9 (fun j9 h8 h7 => h9 j9 h8 (show j9 = 0 ∨ j9 = 1 ∨ j9 = 2 ∨ j9 = 3 ∨ j9 = 11 ∨ j9 = 12 by have h6 : j9 = 1 := h7; omega))).trans ((fset_fr hΦ1 (fun h8 => h9 (0) h8 (show 0 = 0 ∨ 0 = 1 ∨ 0 = 2 ∨ 0 = 3 ∨ 0 = 11 ∨ 0 = 12 by omega))).trans rfl))))))))))⟩
    · refine z_bipush (v := (-2)) B dX12_load_69 rfl ?_
      exact z_ret_i B dX12_load_71 ⟨⟨_, rfl⟩, rfl, ⟨fl, qu, i_2, i_3, i_4, i_5, i_6, hI8⟩, (fun b9 h9 => ((fset_fr hΦ5 (fun h8 => h9 (0) h8 (show 0 = 0 ∨ 0 = 1 ∨ 0 = 2 ∨ 0 = 3 ∨ 0 = 11 ∨ 0 = 12 by omega))).trans ((hF3 b9 (fun j9 h8 h7 => h9 j9 h8 (show j9 = 0 ∨ j9 = 1 ∨ j9 = 2 ∨ j9 = 3 ∨ j9 = 11 ∨ j9 = 12 by have h6 : j9 = 0 ∨ j9 = 1 := h7; omega))).trans ((hF2 b9 (fun j9 h8 h7 => h9 j9 h8 (show j9 = 0 ∨ j9 = 1 ∨ j9 = 2 ∨ j9 = 3 ∨ j9 = 11 ∨ j9 = 12 by have h6 : j9 = 0 := h7; omega))).trans ((fset_fr hΦ4 (fun h8 => h9 (0) h8 (show 0 = 0 ∨ 0 = 1 ∨ 0 = 2 ∨ 0 = 3 ∨ 0 = 11 ∨ 0 = 12 by omega))).trans ((fset_fr hΦ3 (fun h8 => h9 (0) h8 (show 0 = 0 ∨ 0 = 1 ∨ 0 = 2 ∨ 0 = 3 ∨ 0 = 11 ∨ 0 = 12 by omega))).trans ((fset_fr hΦ2 (fun h8 => h9 (0) h8 (show 0 = 0 ∨ 0 = 1 ∨ 0 = 2 ∨ 0 = 3 ∨ 0 = 11 ∨ 0 = 12 by omega))).trans ((hF1 b9 (fun j9 h8 h7 => h9 j9 h8 (show j9 = 0 ∨ j9 = 1 ∨ j9 = 2 ∨ j9 = 3 ∨ j9 = 11 ∨ j9 = 12 by have h6 : j9 = 1 := h7; omega))).trans ((fset_fr hΦ1 (fun h8 => h9 (0) h8 (show 0 = 0 ∨ 0 = 1 ∨ 0 = 2 ∨ 0 = 3 ∨ 0 = 11 ∨ 0 = 12 by omega))).trans rfl)))))))))⟩
  · refine z_aload_n B dX12_load_37 rfl 1 rfl ?_
    refine z_get (ref := "FlowExporterModel") (C := RX12) (T := TX12) (N := 54) (ci := 14) (v := .int i_3) B (by decide +kernel) rfl 50 (by decide) (by decide +kernel) rfl h_9 rfl dX12_load_38 ?_
    refine z_if_eq (tgt := 57) B dX12_load_41 rfl (fun c_3 => ?_) (fun c_3 => ?_)
    · refine z_aload_n B dX12_load_57 rfl 1 rfl ?_
      refine z_iconst (v := 0) B dX12_load_58 rfl ?_
      refine z_put (ref := "FlowExporterModel") (C := RX12) (T := TX12) (N := 54) (ci := 14) (v := .int 0) B (by decide +kernel) tyX12 tyX12_ok nmX12 rfl 46 (by decide) (by decide +kernel) rfl (Or.inl rfl) h_9 hx rfl rfl (Nat.le_of_ble_eq_true rfl) dX12_load_59 (fun Φ9 hΦ6 => ?_)
      have h_11 : Φ9 x = some (o_ 14 [.int v_18, .ref (x + 1), .ref (x + 2), .int v_19, .int v_20, .int (nI n_6), .int v_21, .int v_22, .ref (x + 3), .ref (x + 4), .int v_23, .long v_24, .ref (x + 5), .int (nI fl), .int v_25, .long v_26, .long v_27, .long v_28, .long v_29, .ref (x + 6), .ref (x + 7), .int (nI 0), .ref (x + 8), .int (nI le), .ref (x + 9), .ref (x + 10), .int (nI qu), .ref (x + 11), .ref (x + 12), .ref (x + 13), .ref (x + 14), .ref (x + 15), .ref (x + 16), .int (nI n_7), .long v_30, .ref (x + 17), .ref (x + 18), .ref (x + 19), .ref (x + 20), .ref (x + 21), .ref (x + 22), .int (nI n_8), .ref (x + 23), .ref (x + 24), .int (nI n_9), .ref (x + 25), .int 0, .int (nI i_2), .int i_4, .int v_31, .int i_3, .int v_32, .int i_5, .long i_6]) := fset_at hΦ6
      have hI10 : Im G x (NN, NN, fl, 0, le, i_2, 0, qu, i_3, i_4, i_5, i_6) Φ9 := Im.put0 hI7 hΦ6 ⟨v_18, v_19, v_20, n_6, v_21, v_22, v_23, v_24, v_25, v_26, v_27, v_28, v_29, n_7, v_30, n_8, n_9, v_31, v_32, rfl, b_26, (show 1 ≤ n_6 by omega), (show n_6 ≤ 1024 by omega), (show fl ≤ 12 by omega), (show 0 ≤ 24 by omega), (show le ≤ 700 by omega), (show qu ≤ 12 by omega), (show n_7 ≤ 8 by omega), (show n_8 ≤ 24 by omega), (show n_9 ≤ 24 by omega), (show 0 ≤ 700 by omega), (show i_2 ≤ 701 by omega)⟩
      refine z_aload_n B dX12_load_62 rfl 1 rfl ?_
      refine z_get (ref := "FlowExporterModel") (C := RX12) (T := TX12) (N := 54) (ci := 14) (v := .int i_4) B (by decide +kernel) rfl 48 (by decide) (by decide +kernel) rfl h_11 rfl dX12_load_63 ?_
      refine z_if_eq (tgt := 72) B dX12_load_66 rfl (fun c_4 => ?_) (fun c_4 => ?_)
      · refine z_aload_n B dX12_load_72 rfl 1 rfl ?_
        refine z_callV (As := []) (rest := []) B (r_take G l Φ9 sz x NN fl 0 le i_2 0 qu i_3 i_4 i_5 i_6  hx hI10 ) (cwV 0 B.1.2.2.2.2 gX12_load_X12_take rfl rfl rfl (by decide +kernel) ⟨Nat.le_of_ble_eq_true rfl, Nat.le_of_ble_eq_true rfl⟩) h_11 rfl rfl rfl rfl (Nat.le_of_ble_eq_true rfl) dX12_load_73 ⟨Nat.le_of_ble_eq_true rfl, Nat.le_of_ble_eq_true rfl⟩ (fun r_4 Φ10 sz4 st4 hp4 hs4 => ?_)
        obtain ⟨rfl, hq4, hI11, hF5⟩ := hp4
        subst sz4
        replace hs4 : st4 = [] := hs4
        subst st4
        replace hI11 : Im G x (NN, NN, 0, 0, le, i_2, 0, 0, i_3, i_4, i_5, i_6) Φ10 := hI11
        refine z_iload_n B dX12_load_76 rfl 0 rfl ?_
        exact z_ret_i B dX12_load_77 ⟨⟨_, rfl⟩, rfl, ⟨0, 0, i_2, i_3, i_4, i_5, i_6, hI11⟩, (fun b9 h9 => ((hF5 b9 (fun j9 h8 h7 => h9 j9 h8 (show j9 = 0 ∨ j9 = 1 ∨ j9 = 2 ∨ j9 = 3 ∨ j9 = 11 ∨ j9 = 12 by have h6 : j9 = 0 ∨ j9 = 1 ∨ j9 = 2 ∨ j9 = 3 ∨ j9 = 11 ∨ j9 = 12 := h7; omega))).trans ((fset_fr hΦ6 (fun h8 => h9 (0) h8 (show 0 = 0 ∨ 0 = 1 ∨ 0 = 2 ∨ 0 = 3 ∨ 0 = 11 ∨ 0 = 12 by omega))).trans ((hF3 b9 (fun j9 h8 h7 => h9 j9 h8 (show j9 = 0 ∨ j9 = 1 ∨ j9 = 2 ∨ j9 = 3 ∨ j9 = 11 ∨ j9 = 12 by have h6 : j9 = 0 ∨ j9 = 1 := h7; omega))).trans ((hF2 b9 (fun j9 h8 h7 => h9 j9 h8 (show j9 = 0 ∨ j9 = 1 ∨ j9 = 2 ∨ j9 = 3 ∨ j9 = 11 ∨ j9 = 12 by have h6 : j9 = 0 := h7; omega))).trans ((fset_fr hΦ4 (fun h8 => h9 (0) h8 (show 0 = 0 ∨ 0 = 1 ∨ 0 = 2 ∨ 0 = 3 ∨ 0 = 11 ∨ 0 = 12 by omega))).trans ((fset_fr hΦ3 (fun h8 => h9 (0) h8 (show 0 = 0 ∨ 0 = 1 ∨ 0 = 2 ∨ 0 = 3 ∨ 0 = 11 ∨ 0 = 12 by omega))).trans ((fset_fr hΦ2 (fun h8 => h9 (0) h8 (show 0 = 0 ∨ 0 = 1 ∨ 0 = 2 ∨ 0 = 3 ∨ 0 = 11 ∨ 0 = 12 by omega))).trans ((hF1 b9 (fun j9 h8 h7 => h9 j9 h8 (show j9 = 0 ∨ j9 = 1 ∨ j9 = 2 ∨ j9 = 3 ∨ j9 = 11 ∨ j9 = 12 by have h6 : j9 = 1 := h7; omega))).trans ((fset_fr hΦ1 (fun h8 => h9 (0) h8 (show 0 = 0 ∨ 0 = 1 ∨ 0 = 2 ∨ 0 = 3 ∨ 0 = 11 ∨ 0 = 12 by omega))).trans rfl))))))))))⟩
      · refine z_bipush (v := (-2)) B dX12_load_69 rfl ?_
        exact z_ret_i B dX12_load_71 ⟨⟨_, rfl⟩, rfl, ⟨fl, qu, i_2, i_3, i_4, i_5, i_6, hI10⟩, (fun b9 h9 => ((fset_fr hΦ6 (fun h8 => h9 (0) h8 (show 0 = 0 ∨ 0 = 1 ∨ 0 = 2 ∨ 0 = 3 ∨ 0 = 11 ∨ 0 = 12 by omega))).trans ((hF3 b9 (fun j9 h8 h7 => h9 j9 h8 (show j9 = 0 ∨ j9 = 1 ∨ j9 = 2 ∨ j9 = 3 ∨ j9 = 11 ∨ j9 = 12 by have h6 : j9 = 0 ∨ j9 = 1 := h7; omega))).trans ((hF2 b9 (fun j9 h8 h7 => h9 j9 h8 (show j9 = 0 ∨ j9 = 1 ∨ j9 = 2 ∨ j9 = 3 ∨ j9 = 11 ∨ j9 = 12 by have h6 : j9 = 0 := h7; omega))).trans ((fset_fr hΦ4 (fun h8 => h9 (0) h8 (show 0 = 0 ∨ 0 = 1 ∨ 0 = 2 ∨ 0 = 3 ∨ 0 = 11 ∨ 0 = 12 by omega))).trans ((fset_fr hΦ3 (fun h8 => h9 (0) h8 (show 0 = 0 ∨ 0 = 1 ∨ 0 = 2 ∨ 0 = 3 ∨ 0 = 11 ∨ 0 = 12 by omega))).trans ((fset_fr hΦ2 (fun h8 => h9 (0) h8 (show 0 = 0 ∨ 0 = 1 ∨ 0 = 2 ∨ 0 = 3 ∨ 0 = 11 ∨ 0 = 12 by omega))).trans ((hF1 b9 (fun j9 h8 h7 => h9 j9 h8 (show j9 = 0 ∨ j9 = 1 ∨ j9 = 2 ∨ j9 = 3 ∨ j9 = 11 ∨ j9 = 12 by have h6 : j9 = 1 := h7; omega))).trans ((fset_fr hΦ1 (fun h8 => h9 (0) h8 (show 0 = 0 ∨ 0 = 1 ∨ 0 = 2 ∨ 0 = 3 ∨ 0 = 11 ∨ 0 = 12 by omega))).trans rfl)))))))))⟩
    · refine z_aload_n B dX12_load_44 rfl 1 rfl ?_
      refine z_callV (As := []) (rest := []) B (r_readStatement G l Φl1 sz x fl 0 le i_2 il qu i_3 i_4 i_5 i_6  hx hI7 ) (cwV 0 B.1.2.2.2.2 gX12_load_X12_readStatement rfl rfl rfl (by decide +kernel) ⟨Nat.le_of_ble_eq_true rfl, Nat.le_of_ble_eq_true rfl⟩) h_9 rfl rfl rfl rfl (Nat.le_of_ble_eq_true rfl) dX12_load_45 ⟨Nat.le_of_ble_eq_true rfl, Nat.le_of_ble_eq_true rfl⟩ (fun r_5 Φ11 sz5 st5 hp5 hs5 => ?_)
      obtain ⟨⟨v_37, rfl, b_29⟩, hq5, ⟨n_10, v_33, v_34, v_35, v_36, b_27, b_28, hI12⟩, hF6⟩ := hp5
      subst sz5
      replace hs5 : st5 = [.int v_37] := hs5
      subst st5
      replace hI12 : Im G x (NN, NN, fl, 0, le, n_10, il, qu, v_33, v_34, v_35, v_36) Φ11 := hI12
      replace b_27 : i_2 ≤ n_10 := b_27
      replace b_28 : ¬ v_34 = 0 ∨ i_2 < n_10 := b_28
      refine z_if_eq (tgt := 30) B dX12_load_48 rfl (fun c_5 => ?_) (fun c_5 => ?_)
      · refine z_lv [0, 1] rfl ?_
        obtain ⟨v_38, v_39, v_40, n_11, v_41, v_42, v_43, v_44, v_45, v_46, v_47, v_48, v_49, n_12, v_50, n_13, n_14, v_51, v_52, h_12, b_41, b_30, b_31, b_32, b_33, b_34, b_35, b_36, b_37, b_38, b_39, b_40⟩ := im0 hI12
        replace b_30 : 1 ≤ n_11 := b_30
        replace b_31 : n_11 ≤ 1024 := b_31
        replace b_32 : fl ≤ 12 := b_32
        replace b_33 : 0 ≤ 24 := b_33
        replace b_34 : le ≤ 700 := b_34
        replace b_35 : qu ≤ 12 := b_35
        replace b_36 : n_12 ≤ 8 := b_36
        replace b_37 : n_13 ≤ 24 := b_37
        replace b_38 : n_14 ≤ 24 := b_38
        replace b_39 : il ≤ 700 := b_39
        replace b_40 : n_10 ≤ 701 := b_40
        have h_13 : Φ11 x = some (o_ 14 [.int v_38, .ref (x + 1), .ref (x + 2), .int v_39, .int v_40, .int (nI n_11), .int v_41, .int v_42, .ref (x + 3), .ref (x + 4), .int v_43, .long v_44, .ref (x + 5), .int (nI fl), .int v_45, .long v_46, .long v_47, .long v_48, .long v_49, .ref (x + 6), .ref (x + 7), .int (nI 0), .ref (x + 8), .int (nI le), .ref (x + 9), .ref (x + 10), .int (nI qu), .ref (x + 11), .ref (x + 12), .ref (x + 13), .ref (x + 14), .ref (x + 15), .ref (x + 16), .int (nI n_12), .long v_50, .ref (x + 17), .ref (x + 18), .ref (x + 19), .ref (x + 20), .ref (x + 21), .ref (x + 22), .int (nI n_13), .ref (x + 23), .ref (x + 24), .int (nI n_14), .ref (x + 25), .int (nI il), .int (nI n_10), .int v_34, .int v_51, .int v_33, .int v_52, .int v_35, .long v_36]) := h_12
        exact ih1 (i_1, n_10, v_33, v_34, v_35, v_36) Φ11 (ld_dec c_1 (by omega) b_28 (by omega)) ⟨hI12, (fun b9 h9 => ((hF6 b9 (fun j9 h8 h7 => h9 j9 h8 (show j9 = 0 ∨ j9 = 1 by have h6 : j9 = 0 ∨ j9 = 1 := h7; omega))).trans ((hF3 b9 (fun j9 h8 h7 => h9 j9 h8 (show j9 = 0 ∨ j9 = 1 by have h6 : j9 = 0 ∨ j9 = 1 := h7; omega))).trans rfl))), trivial⟩
      · refine z_iinc (k := 0) (v := i_1 + 1) (lv' := [(1, .int (i_1 + 1)), (0, .ref x)]) B dX12_load_51 rfl rfl (Nat.le_of_ble_eq_true rfl) rfl ?_
        refine z_goto (tgt := 30) B dX12_load_54 rfl ?_
        refine z_lv [0, 1] rfl ?_
        obtain ⟨v_53, v_54, v_55, n_15, v_56, v_57, v_58, v_59, v_60, v_61, v_62, v_63, v_64, n_16, v_65, n_17, n_18, v_66, v_67, h_14, b_53, b_42, b_43, b_44, b_45, b_46, b_47, b_48, b_49, b_50, b_51, b_52⟩ := im0 hI12
        replace b_42 : 1 ≤ n_15 := b_42
        replace b_43 : n_15 ≤ 1024 := b_43
        replace b_44 : fl ≤ 12 := b_44
        replace b_45 : 0 ≤ 24 := b_45
        replace b_46 : le ≤ 700 := b_46
        replace b_47 : qu ≤ 12 := b_47
        replace b_48 : n_16 ≤ 8 := b_48
        replace b_49 : n_17 ≤ 24 := b_49
        replace b_50 : n_18 ≤ 24 := b_50
        replace b_51 : il ≤ 700 := b_51
        replace b_52 : n_10 ≤ 701 := b_52
        have h_15 : Φ11 x = some (o_ 14 [.int v_53, .ref (x + 1), .ref (x + 2), .int v_54, .int v_55, .int (nI n_15), .int v_56, .int v_57, .ref (x + 3), .ref (x + 4), .int v_58, .long v_59, .ref (x + 5), .int (nI fl), .int v_60, .long v_61, .long v_62, .long v_63, .long v_64, .ref (x + 6), .ref (x + 7), .int (nI 0), .ref (x + 8), .int (nI le), .ref (x + 9), .ref (x + 10), .int (nI qu), .ref (x + 11), .ref (x + 12), .ref (x + 13), .ref (x + 14), .ref (x + 15), .ref (x + 16), .int (nI n_16), .long v_65, .ref (x + 17), .ref (x + 18), .ref (x + 19), .ref (x + 20), .ref (x + 21), .ref (x + 22), .int (nI n_17), .ref (x + 23), .ref (x + 24), .int (nI n_18), .ref (x + 25), .int (nI il), .int (nI n_10), .int v_34, .int v_66, .int v_33, .int v_67, .int v_35, .long v_36]) := h_14
        exact ih1 (i_1 + 1, n_10, v_33, v_34, v_35, v_36) Φ11 (ld_dec c_1 (by omega) b_28 (by omega)) ⟨hI12, (fun b9 h9 => ((hF6 b9 (fun j9 h8 h7 => h9 j9 h8 (show j9 = 0 ∨ j9 = 1 by have h6 : j9 = 0 ∨ j9 = 1 := h7; omega))).trans ((hF3 b9 (fun j9 h8 h7 => h9 j9 h8 (show j9 = 0 ∨ j9 = 1 by have h6 : j9 = 0 ∨ j9 = 1 := h7; omega))).trans rfl))), trivial⟩

section ZLF
variable {p : Program} {l : Launch} {e : Env} {R : Room} {s : State} {m : MethodId} {args : Array Value} {below : List Frame} {meth : Method} {c : Code} {Q : State → Prop} {G : EnvG} {nL pc : Nat} {lv : List (Nat × Value)} {rest : List Value} {Φ : Hm} {sz cells slots : Nat}
variable {cc : ByteArray} {own : String} {ws : List Cond} {ret : Option FieldType} {nm : String}
theorem z_ldcwf (B : Bd p s m args meth c G cc nL own ws ret nm) {index : Nat} {v : UInt32} (hconst : Jvm.Cond.constantFloat own index v ∈ ws) (hdg : decode cc pc = .ok (.ldc_w index, 3)) (k : Z p l e R s m args below meth c Q G nL (pc + 3) lv (.float v :: rest) Φ sz cells slots) : Z p l e R s m args below meth c Q G nL pc lv rest Φ sz cells slots := by
  intro H locs ls hl hP hS T hT X
  obtain ⟨t, a, b⟩ := k H locs ls hl hP hS T hT X
  refine ⟨t, ?_, b⟩
  obtain ⟨k, cf, hk, hcf, hcp⟩ := Cond.constantFloat_spec B.1.2.2.2.1 (B.1.2.2.2.2 _ hconst)
  obtain ⟨k', hk', he⟩ := X.warmed.alike.2.2 _ _ hk
  have hdg' : decode c.code (F0 m pc ls rest).pc = .ok (.ldc_w index, 3) := by rw [B.1.2.1]; exact hdg
  jvm_step X.here [B.1.1, hdg', ldc_w.wp_float (s := T) (f := F0 m pc ls rest) X.here.top hk' (by rw [he]; exact hcf) hcp]
  exact a
end ZLF
theorem gt_nn {u : UInt32} (h : ¬ Op.cmpValue (FP.fcmp u FP.fconst0) .l ≤ 0) : nn32 u := by
  intro e
  apply h
  have h1 : Jvm.FP.Core.fcmp u FP.fconst0 = none := (Jvm.FP.Core.fcmp_none u FP.fconst0).mpr (Or.inl e)
  show Op.cmpValue (Jvm.FP.Core.fcmp u FP.fconst0) .l ≤ 0
  rw [h1]
  decide
theorem rec_up {f : Nat → Int64} {i : Nat} {v : Int64} (h : 0 ≤ f 4) (hv : i = 4 → 0 ≤ v) : 0 ≤ vp_updL f i v 4 := by
  show 0 ≤ (if 4 = i then v else f 4)
  by_cases e : 4 = i
  · rw [if_pos e]
    exact hv e.symm
  · rw [if_neg e]
    exact h

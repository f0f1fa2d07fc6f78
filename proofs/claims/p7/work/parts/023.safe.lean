set_option maxRecDepth 20000 in
theorem ggX11_deliverAll_X7_takeOut : GoodIn wsX11_deliverAll wsX7_takeOut := (goodIn_ca (goodIn_r _ [10, 11, 12, 13, 14, 15, 9, 16] rfl (by decide +kernel)) (goodIn_sub (fun _ h => List.mem_cons_of_mem _ (List.mem_append_left _ (List.mem_append_left _ (List.mem_append_left _ (List.mem_append_left _ (List.mem_append_left _ (List.mem_append_left _ (List.mem_append_left _ (List.mem_append_right _ h))))))))) gw_wsX70))
set_option maxRecDepth 20000 in
theorem gX11_deliverAll_X7_takeOut : GoodIn wsX11_deliverAll (wsV RX11 253 RX7 yX7_takeOut wsX7_takeOut) := goodIn_app (goodIn_of _ (by decide +kernel)) ggX11_deliverAll_X7_takeOut
set_option maxRecDepth 20000 in
theorem ggX11_deliverAll_X0_take : GoodIn wsX11_deliverAll wsX0_take := goodIn_ca ((goodIn_ca (goodIn_ca (goodIn_ca (goodIn_ca (goodIn_ca (goodIn_r _ [21, 22, 23, 24, 25, 26, 27, 28, 29, 30, 31, 32, 33, 34, 35, 36, 37, 38, 39, 40, 41, 20, 42, 43, 44, 45, 46, 47, 48, 49, 50, 51, 52, 53, 54, 55, 56, 57, 58, 59, 60, 61, 62, 63, 64, 65, 66, 67, 68, 69, 70, 71, 72, 73, 74, 75, 76, 77, 78, 79, 80, 81, 82, 83, 84, 85, 86, 87, 88, 89, 90, 91, 92, 93, 94, 95, 96, 97, 98, 99, 100, 101, 102, 103, 104, 105, 106, 107, 108, 109, 110, 111, 112, 113, 114, 115, 116, 117, 118, 119, 120, 121, 122, 123, 124, 125, 126, 127, 128, 129, 130, 131, 132, 133, 134, 135, 136, 137, 138, 139, 140, 141, 142, 143, 144, 145, 146, 147, 148, 149, 150, 151, 152, 153, 154, 155, 156, 157, 158, 159, 160, 161, 162, 163, 164, 165, 166, 167, 168, 169, 170, 171] rfl (by decide +kernel)) (goodIn_sub (fun _ h => List.mem_cons_of_mem _ (List.mem_append_left _ (List.mem_append_left _ (List.mem_append_left _ (List.mem_append_left _ (List.mem_append_left _ (List.mem_append_right _ h))))))) gw_wsX00)) (goodIn_sub (fun _ h => List.mem_cons_of_mem _ (List.mem_append_left _ (List.mem_append_left _ (List.mem_append_left _ (List.mem_append_left _ (List.mem_append_right _ h)))))) gw_wsX50)) (goodIn_sub (fun _ h => List.mem_cons_of_mem _ (List.mem_append_left _ (List.mem_append_left _ (List.mem_append_left _ (List.mem_append_right _ h))))) gw_wsX100)) (goodIn_sub (fun _ h => List.mem_cons_of_mem _ (List.mem_append_left _ (List.mem_append_left _ (List.mem_append_right _ h)))) gw_wsX10)) (goodIn_sub (fun _ h => List.mem_cons_of_mem _ (List.mem_append_left _ (List.mem_append_right _ h))) gw_wsX90))) (goodIn_sub (fun _ h => List.mem_cons_of_mem _ (List.mem_append_right _ h)) (all_fg _))
set_option maxRecDepth 20000 in
theorem gX11_deliverAll_X0_take : GoodIn wsX11_deliverAll (wsV RX11 256 RX0 yX0_take wsX0_take) := goodIn_app (goodIn_of _ (by decide +kernel)) ggX11_deliverAll_X0_take
theorem dX11_deliverAll_0 : decode cX11_deliverAll 0 = .ok (.iconst 0, 1) := by decide +kernel
theorem dX11_deliverAll_1 : decode cX11_deliverAll 1 = .ok (.istore_n 1, 1) := by decide +kernel
theorem dX11_deliverAll_2 : decode cX11_deliverAll 2 = .ok (.aload_n 0, 1) := by decide +kernel
theorem dX11_deliverAll_3 : decode cX11_deliverAll 3 = .ok (.getfield 37, 3) := by decide +kernel
theorem dX11_deliverAll_6 : decode cX11_deliverAll 6 = .ok (.getfield 231, 3) := by decide +kernel
theorem dX11_deliverAll_9 : decode cX11_deliverAll 9 = .ok (.istore_n 2, 1) := by decide +kernel
theorem dX11_deliverAll_10 : decode cX11_deliverAll 10 = .ok (.iload_n 2, 1) := by decide +kernel
theorem dX11_deliverAll_11 : decode cX11_deliverAll 11 = .ok (.ifCond .le 34, 3) := by decide +kernel
theorem dX11_deliverAll_14 : decode cX11_deliverAll 14 = .ok (.iload_n 1, 1) := by decide +kernel
theorem dX11_deliverAll_15 : decode cX11_deliverAll 15 = .ok (.aload_n 0, 1) := by decide +kernel
theorem dX11_deliverAll_16 : decode cX11_deliverAll 16 = .ok (.getfield 71, 3) := by decide +kernel
theorem dX11_deliverAll_19 : decode cX11_deliverAll 19 = .ok (.aload_n 0, 1) := by decide +kernel
theorem dX11_deliverAll_20 : decode cX11_deliverAll 20 = .ok (.getfield 37, 3) := by decide +kernel
theorem dX11_deliverAll_23 : decode cX11_deliverAll 23 = .ok (.iconst 0, 1) := by decide +kernel
theorem dX11_deliverAll_24 : decode cX11_deliverAll 24 = .ok (.invokevirtual 253, 3) := by decide +kernel
theorem dX11_deliverAll_27 : decode cX11_deliverAll 27 = .ok (.aload_n 0, 1) := by decide +kernel
theorem dX11_deliverAll_28 : decode cX11_deliverAll 28 = .ok (.getfield 55, 3) := by decide +kernel
theorem dX11_deliverAll_31 : decode cX11_deliverAll 31 = .ok (.getfield 110, 3) := by decide +kernel
theorem dX11_deliverAll_34 : decode cX11_deliverAll 34 = .ok (.invokevirtual 256, 3) := by decide +kernel
theorem dX11_deliverAll_37 : decode cX11_deliverAll 37 = .ok (.iadd, 1) := by decide +kernel
theorem dX11_deliverAll_38 : decode cX11_deliverAll 38 = .ok (.istore_n 1, 1) := by decide +kernel
theorem dX11_deliverAll_39 : decode cX11_deliverAll 39 = .ok (.iinc 2 (-1), 3) := by decide +kernel
theorem dX11_deliverAll_42 : decode cX11_deliverAll 42 = .ok (.goto (-32), 3) := by decide +kernel
theorem dX11_deliverAll_45 : decode cX11_deliverAll 45 = .ok (.iload_n 1, 1) := by decide +kernel
theorem dX11_deliverAll_46 : decode cX11_deliverAll 46 = .ok (.ireturn, 1) := by decide +kernel
set_option maxHeartbeats 4000000 in
set_option maxRecDepth 100000 in
theorem s_X11_deliverAll (G : EnvG) (l : Launch) (Φ : Hm) (sz x ca : Nat)  (hx : G.2.2.2 ≤ x) (hI : In G x ca Φ) (hca : ca < 900000) : Ct G l yX11_deliverAll wsX11_deliverAll ({ frames := 6, cells := 0, slots := 0, locals := 156 }) 0 0 [.ref x] Φ sz (fun v Φ1 sz1 => (∃ r9 : Int32, v = some (.int r9)) ∧ sz1 = sz ∧ In G x (ca + 12) Φ1 ∧ Fr x (fun j9 => (46 ≤ j9 ∧ j9 < 74) ∨ (121 ≤ j9 ∧ j9 < 149)) Φ Φ1) := by
  refine Ct.of (cc := cX11_deliverAll) (maxL := 3) (ret := (some .int)) (by decide) rfl (Nat.le_of_ble_eq_true rfl) ?_
  intro p9 e9 s9 m9 w9 t9 k9 B
  show Z p9 l e9 _ s9 m9 _ w9 t9 k9 _ G 3 0 [(0, .ref x)] [] Φ sz 0 0
  refine z_iconst (v := 0) B dX11_deliverAll_0 rfl ?_
  refine z_istore_n (lv' := [(1, .int 0), (0, .ref x)]) B dX11_deliverAll_1 rfl (Nat.le_of_ble_eq_true rfl) rfl ?_
  refine z_aload_n B dX11_deliverAll_2 rfl 1 rfl ?_
  have h_1 := in0 (k := 0) hI rfl
  have h_2 : Φ x = some (o_ 13 [.ref (x + 1), .ref (x + 3), .ref (x + 24), .ref (x + 46), .ref (x + 74), .ref (x + 80), .ref (x + 132), .ref (x + 121)]) := h_1
  refine z_get (ref := "FlowExporter") (C := RX11) (T := TX11) (N := 8) (ci := 13) (v := .ref (x + 46)) B (by decide +kernel) rfl 3 (by decide) (by decide +kernel) rfl h_2 rfl dX11_deliverAll_3 ?_
  obtain ⟨n_1, v_1, h_3, b_1⟩ := in11 (k := 46) hI rfl
  have h_4 : Φ (x + 46) = some (o_ 9 [.ref (x + 47), .int (nI n_1), .int v_1]) := h_3
  refine z_get (ref := "FlowExporter$Queue") (C := RX7) (T := TX7) (N := 3) (ci := 9) (v := .int (nI n_1)) B (by decide +kernel) rfl 1 (by decide) (by decide +kernel) rfl h_4 rfl dX11_deliverAll_6 ?_
  refine z_istore_n (lv' := [(2, .int (nI n_1)), (1, .int 0), (0, .ref x)]) B dX11_deliverAll_9 rfl (Nat.le_of_ble_eq_true rfl) rfl ?_
  refine z_lv [0, 1, 2] rfl ?_
  refine z_loop (α := Nat × Int32) (fun (a9 : Nat × Int32) Φi => In G x (ca + (12 - a9.1)) Φi ∧ Fr x (fun j9 => (46 ≤ j9 ∧ j9 < 74) ∨ (121 ≤ j9 ∧ j9 < 149)) Φ Φi ∧ (a9.1 ≤ 12) ∧ True) (fun a9 => [(2, .int (nI (a9.1))), (1, .int a9.2), (0, .ref x)]) (fun a9 => a9.1) ?_ (n_1, 0) ⟨(In.mono hI (by omega)), fun _ _ => rfl, (show n_1 ≤ 12 by omega), trivial⟩
  rintro ⟨i_1, i_2⟩ Φl1 ⟨hI1, hF1, b_2, -⟩ ih1
  replace hI1 : In G x (ca + (12 - i_1)) Φl1 := hI1
  replace b_2 : i_1 ≤ 12 := b_2
  show Z p9 l e9 _ s9 m9 _ w9 t9 k9 _ G 3 10 [(2, .int (nI i_1)), (1, .int i_2), (0, .ref x)] [] Φl1 _ _ _
  refine z_iload_n B dX11_deliverAll_10 rfl 0 rfl ?_
  refine z_if_le (tgt := 45) B dX11_deliverAll_11 rfl (fun c_1 => ?_) (fun c_1 => ?_)
  · have e_1 : i_1 ≤ 0 := (nI_leI (a := i_1) (b := 0) (by omega) (by omega)).mp c_1
    refine z_iload_n B dX11_deliverAll_45 rfl 1 rfl ?_
    exact z_ret_i B dX11_deliverAll_46 ⟨⟨_, rfl⟩, rfl, (In.mono hI1 (by omega)), (fun b9 h9 => ((hF1 b9 (fun j9 h8 h7 => h9 j9 h8 (show (46 ≤ j9 ∧ j9 < 74) ∨ (121 ≤ j9 ∧ j9 < 149) by have h6 : (46 ≤ j9 ∧ j9 < 74) ∨ (121 ≤ j9 ∧ j9 < 149) := h7; omega))).trans rfl))⟩
  · have e_2 : ¬ (i_1 ≤ 0) := fun h9 => c_1 ((nI_leI (a := i_1) (b := 0) (by omega) (by omega)).mpr h9)
    refine z_iload_n B dX11_deliverAll_14 rfl 1 rfl ?_
    refine z_aload_n B dX11_deliverAll_15 rfl 2 rfl ?_
    have h_5 : Φl1 x = some (o_ 13 [.ref (x + 1), .ref (x + 3), .ref (x + 24), .ref (x + 46), .ref (x + 74), .ref (x + 80), .ref (x + 132), .ref (x + 121)]) := ((hF1 x (fun j9 h8 h7 => by have h6 : (46 ≤ j9 ∧ j9 < 74) ∨ (121 ≤ j9 ∧ j9 < 149) := h7; omega)).trans h_2)
    refine z_get (ref := "FlowExporter") (C := RX11) (T := TX11) (N := 8) (ci := 13) (v := .ref (x + 132)) B (by decide +kernel) rfl 6 (by decide) (by decide +kernel) rfl h_5 rfl dX11_deliverAll_16 ?_
    refine z_aload_n B dX11_deliverAll_19 rfl 2 rfl ?_
    refine z_get (ref := "FlowExporter") (C := RX11) (T := TX11) (N := 8) (ci := 13) (v := .ref (x + 46)) B (by decide +kernel) rfl 3 (by decide) (by decide +kernel) rfl h_5 rfl dX11_deliverAll_20 ?_
    refine z_iconst (v := 0) B dX11_deliverAll_23 rfl ?_
    obtain ⟨n_2, v_2, h_6, b_3⟩ := in11 (k := 46) hI1 rfl
    have h_7 : Φl1 (x + 46) = some (o_ 9 [.ref (x + 47), .int (nI n_2), .int v_2]) := h_6
    refine z_callV (As := [.int 0]) (rest := [.ref (x + 132), .int i_2]) B (s_X7_takeOut G l Φl1 sz x (ca + (12 - i_1)) 0 hx hI1 ) (cwV 1 B.1.2.2.2.2 gX11_deliverAll_X7_takeOut rfl rfl rfl (by decide +kernel) ⟨Nat.le_of_ble_eq_true rfl, Nat.le_of_ble_eq_true rfl⟩) h_7 rfl rfl rfl rfl (Nat.le_of_ble_eq_true rfl) dX11_deliverAll_24 ⟨Nat.le_of_ble_eq_true rfl, Nat.le_of_ble_eq_true rfl⟩ (fun r_1 Φ1 sz1 st1 hp1 hs1 => ?_)
    obtain ⟨⟨m_1, hm_1, rfl⟩, hq1, hI2, hF2⟩ := hp1
    subst sz1
    replace hs1 : st1 = [.ref (x + (48 + 2 * m_1)), .ref (x + 132), .int i_2] := hs1
    subst st1
    replace hI2 : In G x (ca + (12 - i_1)) Φ1 := hI2
    replace hm_1 : m_1 < 13 := hm_1
    refine z_aload_n B dX11_deliverAll_27 rfl 2 rfl ?_
    have h_8 : Φ1 x = some (o_ 13 [.ref (x + 1), .ref (x + 3), .ref (x + 24), .ref (x + 46), .ref (x + 74), .ref (x + 80), .ref (x + 132), .ref (x + 121)]) := ((hF2 x (fun j9 h8 h7 => by have h6 : j9 = 46 ∨ j9 = 47 := h7; omega)).trans h_5)
    refine z_get (ref := "FlowExporter") (C := RX11) (T := TX11) (N := 8) (ci := 13) (v := .ref (x + 80)) B (by decide +kernel) rfl 5 (by decide) (by decide +kernel) rfl h_8 rfl dX11_deliverAll_28 ?_
    obtain ⟨v_3, v_4, v_5, v_6, v_7, v_8, v_9, v_10, v_11, h_9, b_4⟩ := in16 (k := 80) hI2 rfl
    have h_10 : Φ1 (x + 80) = some (o_ 4 [.ref (x + 3), .ref (x + 74), .ref (x + 81), .ref (x + 95), .int v_3, .int v_4, .int v_5, .int v_6, .int v_7, .int v_8, .long v_9, .long v_10, .long v_11]) := h_9
    refine z_get (ref := "FlowExporter$Exporter") (C := RX2) (T := TX2) (N := 13) (ci := 4) (v := .int v_3) B (by decide +kernel) rfl 4 (by decide) (by decide +kernel) rfl h_10 rfl dX11_deliverAll_31 ?_
    obtain ⟨n_3, v_12, v_13, h_11, b_5⟩ := in25 (k := 132) hI2 rfl
    have h_12 : Φ1 (x + 132) = some (o_ 2 [.ref (x + 3), .ref (x + 121), .ref (x + 133), .ref (x + 134), .ref (x + 135), .ref (x + 137), .ref (x + 138), .ref (x + 139), .ref (x + 140), .int (nI n_3), .int v_12, .int v_13]) := h_11
    refine z_callV (As := [.ref (x + (48 + 2 * m_1)), .int v_3]) (rest := [.int i_2]) B (s_X0_take G l Φ1 sz x (ca + (12 - i_1)) (48 + 2 * m_1) v_3 hx hI2 (kd_q hm_1) (show (ca + (12 - i_1)) < 1000000 by omega)) (cwV 2 B.1.2.2.2.2 gX11_deliverAll_X0_take rfl rfl rfl (by decide +kernel) ⟨Nat.le_of_ble_eq_true rfl, Nat.le_of_ble_eq_true rfl⟩) h_12 rfl rfl rfl rfl (Nat.le_of_ble_eq_true rfl) dX11_deliverAll_34 ⟨Nat.le_of_ble_eq_true rfl, Nat.le_of_ble_eq_true rfl⟩ (fun r_2 Φ2 sz2 st2 hp2 hs2 => ?_)
    obtain ⟨⟨v_14, rfl⟩, hq2, hI3, hF3⟩ := hp2
    subst sz2
    replace hs2 : st2 = [.int v_14, .int i_2] := hs2
    subst st2
    replace hI3 : In G x (ca + (12 - i_1) + 1) Φ2 := hI3
    refine z_iadd B dX11_deliverAll_37 ?_
    refine z_fi (fun v_15 => ?_)
    refine z_istore_n (lv' := [(1, .int v_15), (2, .int (nI i_1)), (0, .ref x)]) B dX11_deliverAll_38 rfl (Nat.le_of_ble_eq_true rfl) rfl ?_
    refine z_iinc (k := 1) (v := nI (i_1 - 1)) (lv' := [(2, .int (nI (i_1 - 1))), (1, .int v_15), (0, .ref x)]) B dX11_deliverAll_39 rfl (nI_m1 (show 1 ≤ i_1 by omega)) (Nat.le_of_ble_eq_true rfl) rfl ?_
    refine z_goto (tgt := 10) B dX11_deliverAll_42 rfl ?_
    refine z_lv [0, 1, 2] rfl ?_
    exact ih1 (i_1 - 1, v_15) Φ2 (show (i_1 - 1) < i_1 by omega) ⟨(In.mono hI3 (by omega)), (fun b9 h9 => ((hF3 b9 (fun j9 h8 h7 => h9 j9 h8 (show (46 ≤ j9 ∧ j9 < 74) ∨ (121 ≤ j9 ∧ j9 < 149) by have h6 : (121 ≤ j9 ∧ j9 < 149) := h7; omega))).trans ((hF2 b9 (fun j9 h8 h7 => h9 j9 h8 (show (46 ≤ j9 ∧ j9 < 74) ∨ (121 ≤ j9 ∧ j9 < 149) by have h6 : j9 = 46 ∨ j9 = 47 := h7; omega))).trans ((hF1 b9 (fun j9 h8 h7 => h9 j9 h8 (show (46 ≤ j9 ∧ j9 < 74) ∨ (121 ≤ j9 ∧ j9 < 149) by have h6 : (46 ≤ j9 ∧ j9 < 74) ∨ (121 ≤ j9 ∧ j9 < 149) := h7; omega))).trans rfl)))), (show (i_1 - 1) ≤ 12 by omega), trivial⟩

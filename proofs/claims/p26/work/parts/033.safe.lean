set_option maxRecDepth 20000 in
theorem ggX6_readText_X1_clear : GoodIn wsX6_readText wsX1_clear := (goodIn_ca (goodIn_ca (goodIn_r _ [11, 12, 13, 14, 15, 16, 17, 18, 19, 20, 21, 22, 23, 24, 25, 26, 27, 28, 29, 30, 31, 32] rfl (by decide +kernel)) (goodIn_sub (fun _ h => List.mem_cons_of_mem _ (List.mem_append_left _ (List.mem_append_left _ (List.mem_append_left _ (List.mem_append_left _ (List.mem_append_right _ h)))))) gw_wsX10)) (goodIn_sub (fun _ h => List.mem_cons_of_mem _ (List.mem_append_left _ (List.mem_append_left _ (List.mem_append_left _ (List.mem_append_right _ h))))) gw_wsX100))
set_option maxRecDepth 20000 in
theorem gX6_readText_X1_clear : GoodIn wsX6_readText (wsV RX6 41 RX1 yX1_clear wsX1_clear) := goodIn_app (goodIn_m (mem_cA (List.mem_cons_of_mem _ (List.mem_append_left _ (List.mem_append_left _ (List.mem_append_left _ (List.mem_append_left _ (List.mem_append_left _ (List.mem_append_left _ (List.mem_append_left _ (List.mem_of_getElem? (i := 6) rfl))))))))) (mem_cA (List.mem_cons_of_mem _ (List.mem_append_left _ (List.mem_append_left _ (List.mem_append_left _ (List.mem_append_left _ (List.mem_append_left _ (List.mem_append_left _ (List.mem_append_left _ (List.mem_of_getElem? (i := 7) rfl))))))))) (mem_cA (List.mem_cons_of_mem _ (List.mem_append_left _ (List.mem_append_left _ (List.mem_append_left _ (List.mem_append_left _ (List.mem_append_left _ (List.mem_append_left _ (List.mem_append_left _ (List.mem_of_getElem? (i := 8) rfl))))))))) (mem_cA (List.mem_cons_of_mem _ (List.mem_append_left _ (List.mem_append_left _ (List.mem_append_left _ (List.mem_append_left _ (List.mem_append_left _ (List.mem_append_left _ (List.mem_append_left _ (List.mem_of_getElem? (i := 9) rfl))))))))) mem_cZ)))) (by decide +kernel)) ggX6_readText_X1_clear
set_option maxRecDepth 20000 in
theorem ggX6_readText_X6_nextToken : GoodIn wsX6_readText wsX6_nextToken := goodIn_ca ((goodIn_ca (goodIn_ca (goodIn_r _ [37, 4, 38, 39, 40, 5, 41, 42, 43, 44, 45, 46, 47, 48, 49, 36, 50] rfl (by decide +kernel)) (goodIn_sub (fun _ h => List.mem_cons_of_mem _ (List.mem_append_left _ (List.mem_append_left _ (List.mem_append_left _ (List.mem_append_left _ (List.mem_append_left _ (List.mem_append_right _ h))))))) gw_wsX60)) (goodIn_sub (fun _ h => List.mem_cons_of_mem _ (List.mem_append_left _ (List.mem_append_left _ (List.mem_append_right _ h)))) gw_wsX50))) (goodIn_sub (fun _ h => List.mem_cons_of_mem _ (List.mem_append_right _ h)) (all_fg _))
set_option maxRecDepth 20000 in
theorem gX6_readText_X6_nextToken : GoodIn wsX6_readText (wsV RX6 44 RX6 yX6_nextToken wsX6_nextToken) := goodIn_app (goodIn_m (mem_cA (List.mem_cons_of_mem _ (List.mem_append_left _ (List.mem_append_left _ (List.mem_append_left _ (List.mem_append_left _ (List.mem_append_left _ (List.mem_append_left _ (List.mem_append_right _ (List.mem_append_left _ (List.mem_of_getElem? (i := 8) rfl)))))))))) (mem_cA (List.mem_cons_of_mem _ (List.mem_append_left _ (List.mem_append_left _ (List.mem_append_left _ (List.mem_append_left _ (List.mem_append_left _ (List.mem_append_left _ (List.mem_append_right _ (List.mem_append_left _ (List.mem_of_getElem? (i := 9) rfl)))))))))) (mem_cA (List.mem_cons_of_mem _ (List.mem_append_left _ (List.mem_append_left _ (List.mem_append_left _ (List.mem_append_left _ (List.mem_append_left _ (List.mem_append_left _ (List.mem_append_right _ (List.mem_append_left _ (List.mem_of_getElem? (i := 10) rfl)))))))))) (mem_cA (List.mem_cons_of_mem _ (List.mem_append_left _ (List.mem_append_left _ (List.mem_append_left _ (List.mem_append_left _ (List.mem_append_left _ (List.mem_append_left _ (List.mem_append_right _ (List.mem_append_left _ (List.mem_of_getElem? (i := 11) rfl)))))))))) mem_cZ)))) (by decide +kernel)) ggX6_readText_X6_nextToken
set_option maxRecDepth 20000 in
theorem ggX6_readText_X1_addUsualTemplate : GoodIn wsX6_readText wsX1_addUsualTemplate := goodIn_ca ((goodIn_ca (goodIn_ca (goodIn_r _ [54, 19, 18, 55, 56, 57, 28, 58, 30, 31, 59, 32] rfl (by decide +kernel)) (goodIn_sub (fun _ h => List.mem_cons_of_mem _ (List.mem_append_left _ (List.mem_append_left _ (List.mem_append_left _ (List.mem_append_left _ (List.mem_append_right _ h)))))) gw_wsX10)) (goodIn_sub (fun _ h => List.mem_cons_of_mem _ (List.mem_append_left _ (List.mem_append_left _ (List.mem_append_left _ (List.mem_append_right _ h))))) gw_wsX100))) (goodIn_sub (fun _ h => List.mem_cons_of_mem _ (List.mem_append_right _ h)) (all_fg _))
set_option maxRecDepth 20000 in
theorem gX6_readText_X1_addUsualTemplate : GoodIn wsX6_readText (wsV RX6 50 RX1 yX1_addUsualTemplate wsX1_addUsualTemplate) := goodIn_app (goodIn_m (mem_cA (List.mem_cons_of_mem _ (List.mem_append_left _ (List.mem_append_left _ (List.mem_append_left _ (List.mem_append_left _ (List.mem_append_left _ (List.mem_append_left _ (List.mem_append_right _ (List.mem_append_right _ (List.mem_append_left _ (List.mem_of_getElem? (i := 2) rfl))))))))))) (mem_cA (List.mem_cons_of_mem _ (List.mem_append_left _ (List.mem_append_left _ (List.mem_append_left _ (List.mem_append_left _ (List.mem_append_left _ (List.mem_append_left _ (List.mem_append_right _ (List.mem_append_right _ (List.mem_append_left _ (List.mem_of_getElem? (i := 3) rfl))))))))))) (mem_cA (List.mem_cons_of_mem _ (List.mem_append_left _ (List.mem_append_left _ (List.mem_append_left _ (List.mem_append_left _ (List.mem_append_left _ (List.mem_append_left _ (List.mem_append_right _ (List.mem_append_right _ (List.mem_append_left _ (List.mem_of_getElem? (i := 4) rfl))))))))))) (mem_cA (List.mem_cons_of_mem _ (List.mem_append_left _ (List.mem_append_left _ (List.mem_append_left _ (List.mem_append_left _ (List.mem_append_left _ (List.mem_append_left _ (List.mem_append_left _ (List.mem_of_getElem? (i := 9) rfl))))))))) mem_cZ)))) (by decide +kernel)) ggX6_readText_X1_addUsualTemplate
set_option maxRecDepth 20000 in
theorem ggX6_readText_X6_readStatement : GoodIn wsX6_readText wsX6_readStatement := goodIn_ca ((goodIn_ca (goodIn_ca (goodIn_ca (goodIn_ca (goodIn_ca (goodIn_r _ [63, 64, 65, 66, 36, 67, 5, 68, 69, 70, 71, 72, 73, 74, 75, 76, 77, 78, 79, 80, 81, 82, 83, 84, 85, 86, 87, 88, 89, 90, 91, 92, 93, 94, 95, 96, 97, 98, 99, 100, 101, 102, 103, 104, 105, 106, 107, 108, 109, 110, 111, 112, 113, 114, 115, 116, 117, 118, 119, 120, 4, 40, 38, 41, 42, 43, 44, 45, 46, 47, 121, 122, 123, 124, 2, 3, 125, 126, 127, 128, 1, 6, 129, 130, 131, 10, 132, 18, 33, 34, 35, 37, 39, 48, 49, 50, 133, 134, 135, 28, 136, 31, 137, 56, 57, 58, 30, 59, 32, 138, 139, 140, 141, 142, 143, 144, 145, 146, 147, 148, 149, 150, 17, 151, 152, 153, 154, 155, 156, 157, 158, 159, 160, 161, 162, 163, 164, 165, 166, 167, 12] rfl (by decide +kernel)) (goodIn_sub (fun _ h => List.mem_cons_of_mem _ (List.mem_append_left _ (List.mem_append_left _ (List.mem_append_left _ (List.mem_append_left _ (List.mem_append_left _ (List.mem_append_right _ h))))))) gw_wsX60)) (goodIn_sub (fun _ h => List.mem_cons_of_mem _ (List.mem_append_left _ (List.mem_append_right _ h))) gw_wsJ00)) (goodIn_sub (fun _ h => List.mem_cons_of_mem _ (List.mem_append_left _ (List.mem_append_left _ (List.mem_append_right _ h)))) gw_wsX50)) (goodIn_sub (fun _ h => List.mem_cons_of_mem _ (List.mem_append_left _ (List.mem_append_left _ (List.mem_append_left _ (List.mem_append_left _ (List.mem_append_right _ h)))))) gw_wsX10)) (goodIn_sub (fun _ h => List.mem_cons_of_mem _ (List.mem_append_left _ (List.mem_append_left _ (List.mem_append_left _ (List.mem_append_right _ h))))) gw_wsX100))) (goodIn_sub (fun _ h => List.mem_cons_of_mem _ (List.mem_append_right _ h)) (all_fg _))
set_option maxRecDepth 20000 in
theorem gX6_readText_X6_readStatement : GoodIn wsX6_readText (wsV RX6 53 RX6 yX6_readStatement wsX6_readStatement) := goodIn_app (goodIn_m (mem_cA (List.mem_cons_of_mem _ (List.mem_append_left _ (List.mem_append_left _ (List.mem_append_left _ (List.mem_append_left _ (List.mem_append_left _ (List.mem_append_left _ (List.mem_append_right _ (List.mem_append_right _ (List.mem_append_left _ (List.mem_of_getElem? (i := 11) rfl))))))))))) (mem_cA (List.mem_cons_of_mem _ (List.mem_append_left _ (List.mem_append_left _ (List.mem_append_left _ (List.mem_append_left _ (List.mem_append_left _ (List.mem_append_left _ (List.mem_append_right _ (List.mem_append_right _ (List.mem_append_left _ (List.mem_of_getElem? (i := 12) rfl))))))))))) (mem_cA (List.mem_cons_of_mem _ (List.mem_append_left _ (List.mem_append_left _ (List.mem_append_left _ (List.mem_append_left _ (List.mem_append_left _ (List.mem_append_left _ (List.mem_append_right _ (List.mem_append_right _ (List.mem_append_left _ (List.mem_of_getElem? (i := 13) rfl))))))))))) (mem_cA (List.mem_cons_of_mem _ (List.mem_append_left _ (List.mem_append_left _ (List.mem_append_left _ (List.mem_append_left _ (List.mem_append_left _ (List.mem_append_left _ (List.mem_append_right _ (List.mem_append_left _ (List.mem_of_getElem? (i := 11) rfl)))))))))) mem_cZ)))) (by decide +kernel)) ggX6_readText_X6_readStatement
theorem dX6_readText_0 : decode cX6_readText 0 = .ok (.aload_n 0, 1) := by decide +kernel
theorem dX6_readText_1 : decode cX6_readText 1 = .ok (.getfield 12, 3) := by decide +kernel
theorem dX6_readText_4 : decode cX6_readText 4 = .ok (.invokevirtual 41, 3) := by decide +kernel
theorem dX6_readText_7 : decode cX6_readText 7 = .ok (.aload_n 0, 1) := by decide +kernel
theorem dX6_readText_8 : decode cX6_readText 8 = .ok (.iconst 0, 1) := by decide +kernel
theorem dX6_readText_9 : decode cX6_readText 9 = .ok (.putfield 18, 3) := by decide +kernel
theorem dX6_readText_12 : decode cX6_readText 12 = .ok (.aload_n 0, 1) := by decide +kernel
theorem dX6_readText_13 : decode cX6_readText 13 = .ok (.iconst (-1), 1) := by decide +kernel
theorem dX6_readText_14 : decode cX6_readText 14 = .ok (.putfield 22, 3) := by decide +kernel
theorem dX6_readText_17 : decode cX6_readText 17 = .ok (.aload_n 0, 1) := by decide +kernel
theorem dX6_readText_18 : decode cX6_readText 18 = .ok (.iconst 0, 1) := by decide +kernel
theorem dX6_readText_19 : decode cX6_readText 19 = .ok (.putfield 25, 3) := by decide +kernel
theorem dX6_readText_22 : decode cX6_readText 22 = .ok (.iconst 0, 1) := by decide +kernel
theorem dX6_readText_23 : decode cX6_readText 23 = .ok (.istore_n 1, 1) := by decide +kernel
theorem dX6_readText_24 : decode cX6_readText 24 = .ok (.iload_n 1, 1) := by decide +kernel
theorem dX6_readText_25 : decode cX6_readText 25 = .ok (.sipush 700, 3) := by decide +kernel
theorem dX6_readText_28 : decode cX6_readText 28 = .ok (.if_icmp .gt 49, 3) := by decide +kernel
theorem dX6_readText_31 : decode cX6_readText 31 = .ok (.aload_n 0, 1) := by decide +kernel
theorem dX6_readText_32 : decode cX6_readText 32 = .ok (.invokevirtual 44, 3) := by decide +kernel
theorem dX6_readText_35 : decode cX6_readText 35 = .ok (.aload_n 0, 1) := by decide +kernel
theorem dX6_readText_36 : decode cX6_readText 36 = .ok (.getfield 28, 3) := by decide +kernel
theorem dX6_readText_39 : decode cX6_readText 39 = .ok (.ifCond .ne 22, 3) := by decide +kernel
theorem dX6_readText_42 : decode cX6_readText 42 = .ok (.aload_n 0, 1) := by decide +kernel
theorem dX6_readText_43 : decode cX6_readText 43 = .ok (.getfield 12, 3) := by decide +kernel
theorem dX6_readText_46 : decode cX6_readText 46 = .ok (.getfield 47, 3) := by decide +kernel
theorem dX6_readText_49 : decode cX6_readText 49 = .ok (.ifCond .ne 10, 3) := by decide +kernel
theorem dX6_readText_52 : decode cX6_readText 52 = .ok (.aload_n 0, 1) := by decide +kernel
theorem dX6_readText_53 : decode cX6_readText 53 = .ok (.getfield 12, 3) := by decide +kernel
theorem dX6_readText_56 : decode cX6_readText 56 = .ok (.invokevirtual 50, 3) := by decide +kernel
theorem dX6_readText_59 : decode cX6_readText 59 = .ok (.iload_n 1, 1) := by decide +kernel
theorem dX6_readText_60 : decode cX6_readText 60 = .ok (.ireturn, 1) := by decide +kernel
theorem dX6_readText_61 : decode cX6_readText 61 = .ok (.aload_n 0, 1) := by decide +kernel
theorem dX6_readText_62 : decode cX6_readText 62 = .ok (.invokevirtual 53, 3) := by decide +kernel
theorem dX6_readText_65 : decode cX6_readText 65 = .ok (.ifCond .ne 6, 3) := by decide +kernel
theorem dX6_readText_68 : decode cX6_readText 68 = .ok (.bipush (-2), 2) := by decide +kernel
theorem dX6_readText_70 : decode cX6_readText 70 = .ok (.ireturn, 1) := by decide +kernel
theorem dX6_readText_71 : decode cX6_readText 71 = .ok (.iinc 1 1, 3) := by decide +kernel
theorem dX6_readText_74 : decode cX6_readText 74 = .ok (.goto (-50), 3) := by decide +kernel
theorem dX6_readText_77 : decode cX6_readText 77 = .ok (.bipush (-2), 2) := by decide +kernel
theorem dX6_readText_79 : decode cX6_readText 79 = .ok (.ireturn, 1) := by decide +kernel
theorem fq_608 {x : Nat} : ∀ j9 : Nat, x + 24 = x + j9 → (25 ≤ j9 ∧ j9 < 46) → False := by
  intro j9 h1 h2
  omega

theorem hv_X6_readText_18 : Cond.fieldLink RX6 18 "FlowExporter$Parser" (TX6 1).2.1 (TX6 1).2.2.1 ∈ wsX6_readText := List.mem_cons_of_mem _ (List.mem_append_left _ (List.mem_append_left _ (List.mem_append_left _ (List.mem_append_left _ (List.mem_append_left _ (List.mem_append_left _ (List.mem_append_left _ (List.mem_of_getElem? (i := 1) rfl))))))))

theorem hv_X6_readText_22 : Cond.fieldLink RX6 22 "FlowExporter$Parser" (TX6 2).2.1 (TX6 2).2.2.1 ∈ wsX6_readText := List.mem_cons_of_mem _ (List.mem_append_left _ (List.mem_append_left _ (List.mem_append_left _ (List.mem_append_left _ (List.mem_append_left _ (List.mem_append_left _ (List.mem_append_left _ (List.mem_of_getElem? (i := 2) rfl))))))))

theorem hv_X6_readText_25 : Cond.fieldLink RX6 25 "FlowExporter$Parser" (TX6 4).2.1 (TX6 4).2.2.1 ∈ wsX6_readText := List.mem_cons_of_mem _ (List.mem_append_left _ (List.mem_append_left _ (List.mem_append_left _ (List.mem_append_left _ (List.mem_append_left _ (List.mem_append_left _ (List.mem_append_left _ (List.mem_of_getElem? (i := 3) rfl))))))))

theorem fq_612 : ∀ j9 : Nat, (25 ≤ j9 ∧ j9 < 46) → (24 ≤ j9 ∧ j9 < 46) := by
  intro j9 h
  omega

theorem fq_613 {x : Nat} : ∀ j9 : Nat, x + 1 = x + j9 → (25 ≤ j9 ∧ j9 < 46) → False := by
  intro j9 h1 h2
  omega

theorem fq_614 {x : Nat} : ∀ j9 : Nat, x + 2 = x + j9 → (25 ≤ j9 ∧ j9 < 46) → False := by
  intro j9 h1 h2
  omega

theorem hv_X6_readText_28 : Cond.fieldLink RX6 28 "FlowExporter$Parser" (TX6 5).2.1 (TX6 5).2.2.1 ∈ wsX6_readText := List.mem_cons_of_mem _ (List.mem_append_left _ (List.mem_append_left _ (List.mem_append_left _ (List.mem_append_left _ (List.mem_append_left _ (List.mem_append_left _ (List.mem_append_left _ (List.mem_of_getElem? (i := 4) rfl))))))))

theorem hu_X6_readText_X1 : ∀ w ∈ u_ws RX1 TX1 6, w ∈ wsX6_readText := fun _ h => List.mem_cons_of_mem _ (List.mem_append_left _ (List.mem_append_left _ (List.mem_append_left _ (List.mem_append_left _ (List.mem_append_right _ (h))))))

theorem hv_X6_readText_47 : Cond.fieldLink RX6 47 "FlowExporter$Config" (TX1 4).2.1 (TX1 4).2.2.1 ∈ wsX6_readText := List.mem_cons_of_mem _ (List.mem_append_left _ (List.mem_append_left _ (List.mem_append_left _ (List.mem_append_left _ (List.mem_append_left _ (List.mem_append_left _ (List.mem_append_left _ (List.mem_of_getElem? (i := 5) rfl))))))))

theorem fq_618 {x : Nat} : ∀ j9 : Nat, x + 24 = x + j9 → (j9 = 25 ∨ j9 = 30 ∨ j9 = 31) → False := by
  intro j9 h1 h2
  omega

theorem fq_619 : ∀ j9 : Nat, (j9 = 25 ∨ j9 = 30 ∨ j9 = 31) → (24 ≤ j9 ∧ j9 < 46) := by
  intro j9 h
  omega

set_option maxHeartbeats 4000000 in
set_option maxRecDepth 100000 in
theorem s_X6_readText (G : EnvG) (l : Launch) (Φ : Hm) (sz x ca : Nat) (n : Nat) (f : Nat → Int32) (co : Int32) (po : Int32) (nx : Nat) (ki : Nat) (sa : Nat) (nu : Nat) (hx : G.2.2.2 ≤ x) (hI : In G x ca Φ) (hc0 : Φ (x + 1) = some (o_ 7 [.ref (x + 2), .int (nI n)])) (hc1 : Φ (x + 2) = some (ab_ G 700 f)) (hc2 : Φ (x + 24) = some (o_ 8 [.ref (x + 25), .int co, .int po, .ref (x + 1), .int (nI nx), .int (nI ki), .int (nI sa), .int (nI nu)])) (hn : n ≤ 700) : Ct G l yX6_readText wsX6_readText ({ frames := 8, cells := 0, slots := 0, locals := 177 }) 0 0 [.ref (x + 24)] Φ sz (fun v Φ1 sz1 => ((∃ (m8 e8 k8 s8 u8 q8 t8 : Nat) (c8 : Cf), v = some (.int (nI m8)) ∧ txA (bA f n) 702 0 cB 0 = (0, q8, m8, c8) ∧ Φ1 (x + 24) = some (o_ 8 [.ref (x + 25), .int 0, .int (-1), .ref (x + 1), .int (nI e8), .int (nI k8), .int (nI s8), .int (nI u8)]) ∧ m8 ≤ 700 ∧ CfP G x 25 t8 4 (finC c8) Φ1) ∨ (∃ (er8 s8 e8 k8 u8 m8 : Nat) (c8 : Cf), v = some (.int (-2)) ∧ txA (bA f n) 702 0 cB 0 = (er8, s8, m8, c8) ∧ ¬ er8 = 0 ∧ Φ1 (x + 24) = some (o_ 8 [.ref (x + 25), .int (nI er8), .int (nI s8), .ref (x + 1), .int (nI e8), .int (nI k8), .int (nI s8), .int (nI u8)]))) ∧ sz1 = sz ∧ In G x (ca) Φ1 ∧ Fr x (fun j9 => 24 ≤ j9 ∧ j9 < 46) Φ Φ1) := by
  refine Ct.of (cc := cX6_readText) (maxL := 2) (ret := (some .int)) (by decide) rfl (Nat.le_of_ble_eq_true rfl) ?_
  intro p9 e9 s9 m9 w9 t9 k9 B
  show Z p9 l e9 _ s9 m9 _ w9 t9 k9 _ G 2 0 [(0, .ref (x + 24))] [] Φ sz 0 0
  refine z_aload_n B dX6_readText_0 rfl 0 rfl ?_
  refine z_get (ref := "FlowExporter$Parser") (C := RX6) (T := TX6) (N := 8) (ci := 8) (v := .ref (x + 25)) B hu_X6_readText_X6 rfl 0 (Nat.le_of_ble_eq_true rfl) hv_X6_readText_12 rfl hc2 rfl dX6_readText_1 ?_
  obtain ⟨v_1, v_2, h_1⟩ := in3 (k := 25) hI rfl
  have h_2 : Φ (x + 25) = some (o_ 3 [.ref (x + 26), .ref (x + 27), .ref (x + 28), .ref (x + 29), .int v_1, .int v_2]) := h_1
  refine z_callV (As := []) (rest := []) B (s_X1_clearF G l Φ sz x (ca)  hx hI ) (cwV 0 B.1.2.2.2.2 gX6_readText_X1_clear rfl rfl rfl (by decide +kernel) ⟨Nat.le_of_ble_eq_true rfl, Nat.le_of_ble_eq_true rfl⟩) h_2 rfl rfl rfl rfl (Nat.le_of_ble_eq_true rfl) dX6_readText_4 ⟨Nat.le_of_ble_eq_true rfl, Nat.le_of_ble_eq_true rfl⟩ (fun r_1 Φ1 sz1 st1 hp1 hs1 => ?_)
  obtain ⟨⟨rfl, hcg1⟩, hq1, hI1, hF1⟩ := hp1
  subst sz1
  replace hs1 : st1 = [] := hs1
  subst st1
  replace hI1 : In G x (ca) Φ1 := hI1
  refine z_aload_n B dX6_readText_7 rfl 0 rfl ?_
  refine z_iconst (v := 0) B dX6_readText_8 rfl ?_
  have h_3 : Φ1 (x + 24) = some (o_ 8 [.ref (x + 25), .int co, .int po, .ref (x + 1), .int (nI nx), .int (nI ki), .int (nI sa), .int (nI nu)]) := ((hF1 (x + 24) fq_608).trans hc2)
  refine z_put (ref := "FlowExporter$Parser") (C := RX6) (T := TX6) (N := 8) (ci := 8) (v := .int 0) B hu_X6_readText_X6 tyX6 tyX6_ok nmX6 rfl 1 (Nat.le_of_ble_eq_true rfl) hv_X6_readText_18 rfl (Or.inl rfl) h_3 (Nat.le_trans hx (Nat.le_add_right x 24)) rfl rfl (Nat.le_of_ble_eq_true rfl) dX6_readText_9 (fun Φ2 hΦ1 => ?_)
  have h_4 : Φ2 (x + 24) = some (o_ 8 [.ref (x + 25), .int 0, .int po, .ref (x + 1), .int (nI nx), .int (nI ki), .int (nI sa), .int (nI nu)]) := fset_at hΦ1
  have hI2 : In G x (ca) Φ2 := In.put (k := 24) hI1 hΦ1 (ok10 (k := 24) rfl ⟨0, po, nI nx, nI ki, nI sa, nI nu, rfl⟩)
  refine z_aload_n B dX6_readText_12 rfl 0 rfl ?_
  refine z_iconst (v := (-1)) B dX6_readText_13 rfl ?_
  refine z_put (ref := "FlowExporter$Parser") (C := RX6) (T := TX6) (N := 8) (ci := 8) (v := .int (-1)) B hu_X6_readText_X6 tyX6 tyX6_ok nmX6 rfl 2 (Nat.le_of_ble_eq_true rfl) hv_X6_readText_22 rfl (Or.inl rfl) h_4 (Nat.le_trans hx (Nat.le_add_right x 24)) rfl rfl (Nat.le_of_ble_eq_true rfl) dX6_readText_14 (fun Φ3 hΦ2 => ?_)
  have h_5 : Φ3 (x + 24) = some (o_ 8 [.ref (x + 25), .int 0, .int (-1), .ref (x + 1), .int (nI nx), .int (nI ki), .int (nI sa), .int (nI nu)]) := fset_at hΦ2
  have hI3 : In G x (ca) Φ3 := In.put (k := 24) hI2 hΦ2 (ok10 (k := 24) rfl ⟨0, (-1), nI nx, nI ki, nI sa, nI nu, rfl⟩)
  refine z_aload_n B dX6_readText_17 rfl 0 rfl ?_
  refine z_iconst (v := 0) B dX6_readText_18 rfl ?_
  refine z_put (ref := "FlowExporter$Parser") (C := RX6) (T := TX6) (N := 8) (ci := 8) (v := .int 0) B hu_X6_readText_X6 tyX6 tyX6_ok nmX6 rfl 4 (Nat.le_of_ble_eq_true rfl) hv_X6_readText_25 rfl (Or.inl rfl) h_5 (Nat.le_trans hx (Nat.le_add_right x 24)) rfl rfl (Nat.le_of_ble_eq_true rfl) dX6_readText_19 (fun Φ4 hΦ3 => ?_)
  have h_6 : Φ4 (x + 24) = some (o_ 8 [.ref (x + 25), .int 0, .int (-1), .ref (x + 1), .int 0, .int (nI ki), .int (nI sa), .int (nI nu)]) := fset_at hΦ3
  have hI4 : In G x (ca) Φ4 := In.put (k := 24) hI3 hΦ3 (ok10 (k := 24) rfl ⟨0, (-1), 0, nI ki, nI sa, nI nu, rfl⟩)
  refine z_iconst (v := 0) B dX6_readText_22 rfl ?_
  refine z_istore_n (lv' := [(1, .int 0), (0, .ref (x + 24))]) B dX6_readText_23 rfl (Nat.le_of_ble_eq_true rfl) rfl ?_
  refine z_lv [0, 1] rfl ?_
  have hcg2 : CfP G x 25 0 4 cB Φ4 := (CfP.off (k := 24) (CfP.off (k := 24) (CfP.off (k := 24) hcg1 hΦ1 (by intros; omega)) hΦ2 (by intros; omega)) hΦ3 (by intros; omega))
  refine z_loop (α := Nat × Nat × Nat × Nat × Nat × Nat × Cf) (fun (a9 : Nat × Nat × Nat × Nat × Nat × Nat × Cf) Φi => In G x (ca) Φi ∧ Fr x (fun j9 => 24 ≤ j9 ∧ j9 < 46) Φ4 Φi ∧ (a9.1 ≤ 701) ∧ (a9.1 ≤ a9.2.1 ∧ a9.2.1 ≤ n) ∧ (a9.2.2.2.2.2.1 ≤ 4) ∧ (txA (bA f n) 702 0 cB 0 = txA (bA f n) (702 - a9.1) a9.2.1 a9.2.2.2.2.2.2 a9.1) ∧ (CfP G x 25 a9.2.2.2.2.2.1 4 a9.2.2.2.2.2.2 Φi) ∧ (Φi (x + 24) = some (o_ 8 [.ref (x + 25), .int 0, .int (-1), .ref (x + 1), .int (nI a9.2.1), .int (nI a9.2.2.1), .int (nI a9.2.2.2.1), .int (nI a9.2.2.2.2.1)])) ∧ True) (fun a9 => [(1, .int (nI (a9.1))), (0, .ref (x + 24))]) (fun a9 => 702 - a9.1) ?_ (0, 0, ki, sa, nu, 0, cB) ⟨hI4, fun _ _ => rfl, (show 0 ≤ 701 by omega), (show 0 ≤ 0 ∧ 0 ≤ n by omega), (show 0 ≤ 4 by omega), rfl, hcg2, (h_6.trans (congrArg (fun w9 : Nat => some (o_ 8 [.ref (x + 25), .int 0, .int (-1), .ref (x + 1), .int (nI w9), .int (nI ki), .int (nI sa), .int (nI nu)])) (show 0 = 0 by omega))), trivial⟩
  rintro ⟨i_1, i_2, i_3, i_4, i_5, i_6, i_7⟩ Φl1 ⟨hI5, hF2, b_1, b_2, b_3, b_4, b_5, b_6, -⟩ ih1
  replace hI5 : In G x (ca) Φl1 := hI5
  replace b_1 : i_1 ≤ 701 := b_1
  replace b_2 : i_1 ≤ i_2 ∧ i_2 ≤ n := b_2
  replace b_3 : i_6 ≤ 4 := b_3
  replace b_4 : txA (bA f n) 702 0 cB 0 = txA (bA f n) (702 - i_1) i_2 i_7 i_1 := b_4
  replace b_5 : CfP G x 25 i_6 4 i_7 Φl1 := b_5
  replace b_6 : Φl1 (x + 24) = some (o_ 8 [.ref (x + 25), .int 0, .int (-1), .ref (x + 1), .int (nI i_2), .int (nI i_3), .int (nI i_4), .int (nI i_5)]) := b_6
  show Z p9 l e9 _ s9 m9 _ w9 t9 k9 _ G 2 24 [(1, .int (nI i_1)), (0, .ref (x + 24))] [] Φl1 _ _ _
  refine z_iload_n B dX6_readText_24 rfl 0 rfl ?_
  refine z_sipush (v := 700) B dX6_readText_25 rfl ?_
  refine z_icmp_gt (tgt := 77) B dX6_readText_28 rfl (fun c_1 => ?_) (fun c_1 => ?_)
  · have e_1 : 700 < i_1 := (nI_ltI (a := 700) (b := i_1) (by omega) (by omega)).mp c_1
    refine z_bipush (v := (-2)) B dX6_readText_77 rfl ?_
    exact z_ret_i B dX6_readText_79 ⟨((show False by omega).elim), rfl, hI5, (fun b9 h9 => ((hF2 b9 h9).trans ((fset_fr hΦ3 (fun h8 => h9 (24) h8 (show 24 ≤ 24 ∧ 24 < 46 by decide))).trans ((fset_fr hΦ2 (fun h8 => h9 (24) h8 (show 24 ≤ 24 ∧ 24 < 46 by decide))).trans ((fset_fr hΦ1 (fun h8 => h9 (24) h8 (show 24 ≤ 24 ∧ 24 < 46 by decide))).trans ((hF1 b9 (fun j9 h8 h7 => h9 j9 h8 (fq_612 j9 h7))).trans rfl))))))⟩
  · have e_2 : ¬ (700 < i_1) := fun h9 => c_1 ((nI_ltI (a := 700) (b := i_1) (by omega) (by omega)).mpr h9)
    refine z_aload_n B dX6_readText_31 rfl 1 rfl ?_
    have h_7 : Φl1 (x + 1) = some (o_ 7 [.ref (x + 2), .int (nI n)]) := ((hF2 (x + 1) fq_575).trans ((fset_fr hΦ3 (ne_off (x := x) (i := 1) (j := 24) rfl)).trans ((fset_fr hΦ2 (ne_off (x := x) (i := 1) (j := 24) rfl)).trans ((fset_fr hΦ1 (ne_off (x := x) (i := 1) (j := 24) rfl)).trans ((hF1 (x + 1) fq_613).trans hc0)))))
    have h_8 : Φl1 (x + 2) = some (ab_ G 700 f) := ((hF2 (x + 2) fq_576).trans ((fset_fr hΦ3 (ne_off (x := x) (i := 2) (j := 24) rfl)).trans ((fset_fr hΦ2 (ne_off (x := x) (i := 2) (j := 24) rfl)).trans ((fset_fr hΦ1 (ne_off (x := x) (i := 2) (j := 24) rfl)).trans ((hF1 (x + 2) fq_614).trans hc1)))))
    refine z_callV (As := []) (rest := []) B (s_X6_nextToken G l Φl1 sz x (ca) n f 0 (-1) i_2 i_3 i_4 i_5 hx hI5 h_7 h_8 b_6 (show n ≤ 700 by omega) (show i_2 ≤ n by omega)) (cwV 0 B.1.2.2.2.2 gX6_readText_X6_nextToken rfl rfl rfl (by decide +kernel) ⟨Nat.le_of_ble_eq_true rfl, Nat.le_of_ble_eq_true rfl⟩) b_6 rfl rfl rfl rfl (Nat.le_of_ble_eq_true rfl) dX6_readText_32 ⟨Nat.le_of_ble_eq_true rfl, Nat.le_of_ble_eq_true rfl⟩ (fun r_2 Φ5 sz2 st2 hp2 hs2 => ?_)
    obtain ⟨⟨rfl, k_1, s_1, e_3, h_9, hT1⟩, hq2, hI6, hF3⟩ := hp2
    subst sz2
    replace hs2 : st2 = [] := hs2
    subst st2
    replace hI6 : In G x (ca) Φ5 := hI6
    replace hT1 : Tk (bA f n) i_2 k_1 s_1 e_3 := hT1
    have b_7 : i_2 ≤ s_1 := (Tk_ok hT1 (by omega)).1
    have b_8 : s_1 ≤ e_3 := (Tk_ok hT1 (by omega)).2.1
    have b_9 : e_3 ≤ n := (Tk_ok hT1 (by omega)).2.2.1
    have b_10 : k_1 ≤ 5 := (Tk_ok hT1 (by omega)).2.2.2.1
    refine z_aload_n B dX6_readText_35 rfl 1 rfl ?_
    refine z_get (ref := "FlowExporter$Parser") (C := RX6) (T := TX6) (N := 8) (ci := 8) (v := .int (nI k_1)) B hu_X6_readText_X6 rfl 5 (Nat.le_of_ble_eq_true rfl) hv_X6_readText_28 rfl h_9 rfl dX6_readText_36 ?_
    refine z_if_ne (tgt := 61) B dX6_readText_39 rfl (fun c_2 => ?_) (fun c_2 => ?_)
    · have e_4 : ¬ (k_1 = 0) := fun h9 => c_2 ((nI_eq (a := k_1) (b := 0) (by omega) (by omega)).mpr h9)
      refine z_aload_n B dX6_readText_61 rfl 1 rfl ?_
      have h_10 : Φ5 (x + 1) = some (o_ 7 [.ref (x + 2), .int (nI n)]) := ((hF3 (x + 1) fq_545).trans h_7)
      have h_11 : Φ5 (x + 2) = some (ab_ G 700 f) := ((hF3 (x + 2) fq_549).trans h_8)
      have hcg3 : CfP G x 25 i_6 4 i_7 Φ5 := (CfP.fr b_5 hF3 (fun j9 h7 => by have h6 : j9 = 24 := h7; intros; omega))
      refine z_callV (As := []) (rest := []) B (s_X6_readStatement G l Φ5 sz x (ca) n f 0 (-1) e_3 k_1 s_1 i_5 i_6 i_7 hx hI6 h_10 h_11 h_9 hcg3 (show n ≤ 700 by omega) (show e_3 ≤ n by omega) (show s_1 ≤ e_3 by omega) (show k_1 ≤ 5 by omega) (show i_6 ≤ 4 by omega)) (cwV 0 B.1.2.2.2.2 gX6_readText_X6_readStatement rfl rfl rfl (by decide +kernel) ⟨Nat.le_of_ble_eq_true rfl, Nat.le_of_ble_eq_true rfl⟩) h_9 rfl rfl rfl rfl (Nat.le_of_ble_eq_true rfl) dX6_readText_62 ⟨Nat.le_of_ble_eq_true rfl, Nat.le_of_ble_eq_true rfl⟩ (fun r_3 Φ6 sz3 st3 hp3 hs3 => ?_)
      obtain ⟨ha1, hq3, hI7, hF4⟩ := hp3
      subst sz3
      replace hI7 : In G x (ca) Φ6 := hI7
      rcases ha1 with ⟨e_5, k_2, s_2, u_1, t_1, c_3, rfl, hN1, h_12, b_11, b_12, b_13, b_15, b_14, hp4⟩ | ⟨er_1, s_3, e_6, k_3, u_2, c_4, rfl, hN2, he1, h_13⟩
      · replace hN1 : stK (bA f n) k_1 s_1 e_3 i_7 = (0, e_5, c_3) := hN1
        replace b_11 : e_3 < e_5 := b_11
        replace b_13 : e_5 ≤ n := b_13
        replace b_12 : s_2 ≤ e_5 := b_12
        replace b_15 : k_2 ≤ 5 := b_15
        replace hs3 : st3 = [.int 1] := hs3
        subst st3
        refine z_if_ne (tgt := 71) B dX6_readText_65 rfl (fun c_5 => ?_) (fun h9 => absurd h9 (by decide))
        refine z_iinc (k := 0) (v := nI (i_1 + 1)) (lv' := [(1, .int (nI (i_1 + 1))), (0, .ref (x + 24))]) B dX6_readText_71 rfl (nI_add i_1 1) (Nat.le_of_ble_eq_true rfl) rfl ?_
        refine z_goto (tgt := 24) B dX6_readText_74 rfl ?_
        refine z_lv [0, 1] rfl ?_
        exact ih1 (i_1 + 1, e_5, k_2, s_2, u_1, t_1, c_3) Φ6 (show 702 - (i_1 + 1) < 702 - i_1 by omega) ⟨hI7, (fun b9 h9 => ((hF4 b9 h9).trans ((hF3 b9 (fun j9 h8 h7 => h9 j9 h8 (fq_565 j9 h7))).trans ((hF2 b9 h9).trans rfl)))), (show (i_1 + 1) ≤ 701 by omega), (show (i_1 + 1) ≤ e_5 ∧ e_5 ≤ n by omega), (show t_1 ≤ 4 by omega), (txS b_4 (by omega) hT1 (by omega) hN1), hp4, h_12, trivial⟩
      · replace hN2 : stK (bA f n) k_1 s_1 e_3 i_7 = (er_1, s_3, c_4) := hN2
        replace hs3 : st3 = [.int 0] := hs3
        subst st3
        refine z_if_ne (tgt := 71) B dX6_readText_65 rfl (fun h9 => absurd (by decide) h9) (fun c_6 => ?_)
        refine z_bipush (v := (-2)) B dX6_readText_68 rfl ?_
        exact z_ret_i B dX6_readText_70 ⟨(Or.inr ⟨er_1, s_3, e_6, k_3, u_2, i_1, c_4, rfl, (txF b_4 (by omega)).trans (txA_e hT1 (by omega) hN2 he1), he1, h_13⟩), rfl, hI7, (fun b9 h9 => ((hF4 b9 h9).trans ((hF3 b9 (fun j9 h8 h7 => h9 j9 h8 (fq_565 j9 h7))).trans ((hF2 b9 h9).trans ((fset_fr hΦ3 (fun h8 => h9 (24) h8 (show 24 ≤ 24 ∧ 24 < 46 by decide))).trans ((fset_fr hΦ2 (fun h8 => h9 (24) h8 (show 24 ≤ 24 ∧ 24 < 46 by decide))).trans ((fset_fr hΦ1 (fun h8 => h9 (24) h8 (show 24 ≤ 24 ∧ 24 < 46 by decide))).trans ((hF1 b9 (fun j9 h8 h7 => h9 j9 h8 (fq_612 j9 h7))).trans rfl))))))))⟩
    · have e_7 : k_1 = 0 := (nI_eq (a := k_1) (b := 0) (by omega) (by omega)).mp c_2
      refine z_aload_n B dX6_readText_42 rfl 1 rfl ?_
      refine z_get (ref := "FlowExporter$Parser") (C := RX6) (T := TX6) (N := 8) (ci := 8) (v := .ref (x + 25)) B hu_X6_readText_X6 rfl 0 (Nat.le_of_ble_eq_true rfl) hv_X6_readText_12 rfl h_9 rfl dX6_readText_43 ?_
      have hcg4 : CfP G x 25 i_6 4 i_7 Φ5 := (CfP.fr b_5 hF3 (fun j9 h7 => by have h6 : j9 = 24 := h7; intros; omega))
      have h_14 : Φ5 (x + 25) = some (o_ 3 [.ref (x + 26), .ref (x + 27), .ref (x + 28), .ref (x + 29), .int (nI i_6), .int (i_7 9)]) := CfP.obj hcg4
      refine z_get (ref := "FlowExporter$Config") (C := RX1) (T := TX1) (N := 6) (ci := 3) (v := .int (nI i_6)) B hu_X6_readText_X1 rfl 4 (Nat.le_of_ble_eq_true rfl) hv_X6_readText_47 rfl h_14 rfl dX6_readText_46 ?_
      refine z_if_ne (tgt := 59) B dX6_readText_49 rfl (fun c_7 => ?_) (fun c_7 => ?_)
      · have e_8 : ¬ (i_6 = 0) := fun h9 => c_7 ((nI_eq (a := i_6) (b := 0) (by omega) (by omega)).mpr h9)
        refine z_iload_n B dX6_readText_59 rfl 0 rfl ?_
        have ek9 : k_1 = 0 := by omega
        have hT9 := ek9 ▸ hT1
        exact z_ret_i B dX6_readText_60 ⟨(Or.inl ⟨i_1, e_3, k_1, s_1, i_5, _, i_6, i_7, rfl, (txF b_4 (by omega)).trans (txA_0 hT9), h_9, by omega, fin_t hcg4 (by omega)⟩), rfl, hI6, (fun b9 h9 => ((hF3 b9 (fun j9 h8 h7 => h9 j9 h8 (fq_565 j9 h7))).trans ((hF2 b9 h9).trans ((fset_fr hΦ3 (fun h8 => h9 (24) h8 (show 24 ≤ 24 ∧ 24 < 46 by decide))).trans ((fset_fr hΦ2 (fun h8 => h9 (24) h8 (show 24 ≤ 24 ∧ 24 < 46 by decide))).trans ((fset_fr hΦ1 (fun h8 => h9 (24) h8 (show 24 ≤ 24 ∧ 24 < 46 by decide))).trans ((hF1 b9 (fun j9 h8 h7 => h9 j9 h8 (fq_612 j9 h7))).trans rfl)))))))⟩
      · have e_9 : i_6 = 0 := (nI_eq (a := i_6) (b := 0) (by omega) (by omega)).mp c_7
        refine z_aload_n B dX6_readText_52 rfl 1 rfl ?_
        refine z_get (ref := "FlowExporter$Parser") (C := RX6) (T := TX6) (N := 8) (ci := 8) (v := .ref (x + 25)) B hu_X6_readText_X6 rfl 0 (Nat.le_of_ble_eq_true rfl) hv_X6_readText_12 rfl h_9 rfl dX6_readText_53 ?_
        have hcg5 : CfP G x 25 0 4 i_7 Φ5 := (show i_6 = 0 by omega) ▸ hcg4
        refine z_callV (As := []) (rest := []) B (s_X1_addUsualTemplateF G l Φ5 sz x (ca) i_7 hx hI6 hcg5) (cwV 0 B.1.2.2.2.2 gX6_readText_X1_addUsualTemplate rfl rfl rfl (by decide +kernel) ⟨Nat.le_of_ble_eq_true rfl, Nat.le_of_ble_eq_true rfl⟩) h_14 rfl rfl rfl rfl (Nat.le_of_ble_eq_true rfl) dX6_readText_56 ⟨Nat.le_of_ble_eq_true rfl, Nat.le_of_ble_eq_true rfl⟩ (fun r_4 Φ7 sz4 st4 hp5 hs4 => ?_)
        obtain ⟨⟨rfl, hcg6⟩, hq4, hI8, hF5⟩ := hp5
        subst sz4
        replace hs4 : st4 = [] := hs4
        subst st4
        replace hI8 : In G x (ca) Φ7 := hI8
        refine z_iload_n B dX6_readText_59 rfl 0 rfl ?_
        have h_15 : Φ7 (x + 24) = some (o_ 8 [.ref (x + 25), .int 0, .int (-1), .ref (x + 1), .int (nI e_3), .int (nI k_1), .int (nI s_1), .int (nI i_5)]) := ((hF5 (x + 24) fq_618).trans h_9)
        have ek9 : k_1 = 0 := by omega
        have hT9 := ek9 ▸ hT1
        exact z_ret_i B dX6_readText_60 ⟨(Or.inl ⟨i_1, e_3, k_1, s_1, i_5, _, 1, i_7, rfl, (txF b_4 (by omega)).trans (txA_0 hT9), h_15, by omega, fin_0 hcg5 hcg6⟩), rfl, hI8, (fun b9 h9 => ((hF5 b9 (fun j9 h8 h7 => h9 j9 h8 (fq_619 j9 h7))).trans ((hF3 b9 (fun j9 h8 h7 => h9 j9 h8 (fq_565 j9 h7))).trans ((hF2 b9 h9).trans ((fset_fr hΦ3 (fun h8 => h9 (24) h8 (show 24 ≤ 24 ∧ 24 < 46 by decide))).trans ((fset_fr hΦ2 (fun h8 => h9 (24) h8 (show 24 ≤ 24 ∧ 24 < 46 by decide))).trans ((fset_fr hΦ1 (fun h8 => h9 (24) h8 (show 24 ≤ 24 ∧ 24 < 46 by decide))).trans ((hF1 b9 (fun j9 h8 h7 => h9 j9 h8 (fq_612 j9 h7))).trans rfl))))))))⟩

/-! the input's bytes: what appendInput writes -/
noncomputable def bL (b : Int64) (k : Nat) : Int32 := (b >>> ((nI (8 * k)).toInt64 &&& 63)).toInt32.toInt8.toInt32
/-- c bytes at m: g t at m + t -/
noncomputable def PutP (f : Nat → Int32) (m c : Nat) (g : Nat → Int32) (f1 : Nat → Int32) : Prop := (∀ j, (j < m ∨ m + c ≤ j) → f1 j = f j) ∧ ∀ t, t < c → f1 (m + t) = g t
theorem PutP_0 {f : Nat → Int32} {m c : Nat} {g : Nat → Int32} (h : c = 0) : PutP f m c g f := ⟨fun _ _ => rfl, fun t ht => absurd ht (by omega)⟩
theorem PutP_s {f f1 : Nat → Int32} {m c c1 q : Nat} {g : Nat → Int32} {v : Int32} (h : PutP f m c g f1) (hq : q = m + c) (hc : c1 = c + 1) (hv : v = g c) : PutP f m c1 g (upd f1 q v) := by
  subst hq
  subst hc
  refine ⟨fun j hj => ?_, fun t ht => ?_⟩
  · rw [upd_ne (by omega)]
    exact h.1 j (by omega)
  · by_cases e : t = c
    · subst e
      rw [← hv]
      exact if_pos rfl
    · rw [upd_ne (by omega)]
      exact h.2 t (by omega)
theorem PutP_c {f f1 : Nat → Int32} {m c c1 : Nat} {g : Nat → Int32} (h : PutP f m c g f1) (e : c = c1) : PutP f m c1 g f1 := by
  subst e
  exact h
theorem byte2 (r : Int32) : vp_nar .byte r.toInt8.toInt32 = r.toInt8.toInt32 := by
  rw [vp_nar_byte]
  exact congrArg Int8.toInt32 (Int8.toInt8_toInt32 _)
theorem PutP_eq {f g f1 g1 : Nat → Int32} {m c : Nat} {u w : Nat → Int32} (h : PutP f m c u f1) (h2 : PutP g m c w g1) (he : ∀ j, j < m → f j = g j) (hu : ∀ t, t < c → u t = w t) : ∀ j, j < m + c → f1 j = g1 j := by
  intro j hj
  by_cases e : j < m
  · rw [h.1 j (Or.inl e), h2.1 j (Or.inl e)]
    exact he j e
  · have h3 := h.2 (j - m) (by omega)
    have h4 := h2.2 (j - m) (by omega)
    rw [show m + (j - m) = j by omega] at h3 h4
    rw [h3, h4]
    exact hu _ (by omega)
/-- five words -/
noncomputable def AppR (β : Int32 → Nat → Int32) (f : Nat → Int32) (m : Nat) (a b d p q : Int32) (f5 : Nat → Int32) : Prop := ∃ f1 f2 f3 f4 : Nat → Int32, PutP f m 4 (fun t => β a (3 - t)) f1 ∧ PutP f1 (m + 4) 4 (fun t => β b (3 - t)) f2 ∧ PutP f2 (m + 8) 4 (fun t => β d (3 - t)) f3 ∧ PutP f3 (m + 12) 4 (fun t => β p (3 - t)) f4 ∧ PutP f4 (m + 16) 4 (fun t => β q (3 - t)) f5
theorem AppR_eq {β γ : Int32 → Nat → Int32} {f g f5 g5 : Nat → Int32} {m : Nat} {a b d p q : Int32} (hb : ∀ w k, k ≤ 3 → β w k = γ w k) (h : AppR β f m a b d p q f5) (h2 : AppR γ g m a b d p q g5) (he : ∀ j, j < m → f j = g j) : ∀ j, j < m + 20 → f5 j = g5 j := by
  obtain ⟨f1, f2, f3, f4, h1, h3, h4, h5, h6⟩ := h
  obtain ⟨g1, g2, g3, g4, k1, k3, k4, k5, k6⟩ := h2
  have e1 := PutP_eq h1 k1 he (fun t ht => hb _ _ (by omega))
  have e2 := PutP_eq h3 k3 e1 (fun t ht => hb _ _ (by omega))
  have e3 := PutP_eq h4 k4 e2 (fun t ht => hb _ _ (by omega))
  have e4 := PutP_eq h5 k5 e3 (fun t ht => hb _ _ (by omega))
  have e5 := PutP_eq h6 k6 (fun j hj => e4 j (by omega)) (fun t ht => hb _ _ (by omega))
  exact fun j hj => e5 j (by omega)
noncomputable def bI (w : Int32) (k : Nat) : Int32 := (w >>> (nI (8 * k) &&& 31)).toInt8.toInt32
theorem shr_key (w : BitVec 32) (s : Nat) (hs : s ≤ 24) : ((BitVec.sshiftRight (w.signExtend 64) s).signExtend 32).signExtend 8 = (BitVec.sshiftRight w s).signExtend 8 := by
  apply BitVec.eq_of_getLsbD_eq
  intro i hi
  simp only [BitVec.getLsbD_signExtend, BitVec.getLsbD_sshiftRight]
  simp [show i < 8 from hi, show i < 32 by omega, show i < 64 by omega, show ¬ 64 ≤ i by omega, show ¬ 32 ≤ i by omega, show s + i < 64 by omega, show s + i < 32 by omega]
theorem shr64 (b : Int64) (k : Nat) (hk : k ≤ 3) : (b >>> ((nI (8 * k)).toInt64 &&& 63)).toBitVec = BitVec.sshiftRight b.toBitVec (8 * k) := by
  rw [Int64.toBitVec_shiftRight, BitVec.sshiftRight_eq']
  congr 1
  have h : ∀ k, k ≤ 3 → (((nI (8 * k)).toInt64 &&& 63).toBitVec.smod 64).toNat = 8 * k := by decide +kernel
  exact h k hk
theorem shr32 (w : Int32) (k : Nat) (hk : k ≤ 3) : (w >>> (nI (8 * k) &&& 31)).toBitVec = BitVec.sshiftRight w.toBitVec (8 * k) := by
  rw [Int32.toBitVec_shiftRight, BitVec.sshiftRight_eq']
  congr 1
  have h : ∀ k, k ≤ 3 → ((nI (8 * k) &&& 31).toBitVec.smod 32).toNat = 8 * k := by decide +kernel
  exact h k hk
theorem bL_bI (w : Int32) (k : Nat) (hk : k ≤ 3) : bL w.toInt64 k = bI w k := by
  unfold bL bI
  congr 1
  apply Int8.toBitVec_inj.mp
  rw [Int32.toBitVec_toInt8, Int32.toBitVec_toInt8, Int64.toBitVec_toInt32, shr64 _ k hk, shr32 _ k hk, Int32.toBitVec_toInt64]
  exact shr_key w.toBitVec (8 * k) (by omega)

theorem bL_at {b : Int64} {i n : Nat} (h1 : 1 ≤ i) (h2 : i ≤ n) : (b >>> ((8 * (nI i - 1)).toInt64 &&& 63)).toInt32.toInt8.toInt32 = bL b (n - 1 - (n - i)) := by
  have e1 : nI i - 1 = nI (i - 1) := nI_sub (a := i) (b := 1) h1
  have e2 : (8 : Int32) * nI (i - 1) = nI (8 * (i - 1)) := nI_mul 8 (i - 1)
  rw [e1, e2, show n - 1 - (n - i) = i - 1 by omega]
  rfl

set_option maxHeartbeats 4000000 in
set_option maxRecDepth 100000 in
theorem s_X5_putB (G : EnvG) (l : Launch) (Φ : Hm) (sz x ca : Nat) (m : Nat) (f : Nat → Int32) (b : Int64) (n : Nat) (hx : G.2.2.2 ≤ x) (hI : In G x ca Φ) (hc0 : Φ (x + 1) = some (o_ 7 [.ref (x + 2), .int (nI m)])) (hc1 : Φ (x + 2) = some (ab_ G 700 f)) (hn : n ≤ 8) (hm : m + n ≤ 700) (hfit : ∀ j9, fits .byte (.int (f j9)) = true) : Ct G l yX5_put wsX5_put ({ frames := 0, cells := 0, slots := 0, locals := 0 }) 0 0 [.ref (x + 1), .long b, .int (nI n)] Φ sz (fun v Φ1 sz1 => (v = none ∧ Φ1 (x + 1) = some (o_ 7 [.ref (x + 2), .int (nI (m + n))]) ∧ ∃ f9 : Nat → Int32, Φ1 (x + 2) = some (ab_ G 700 f9) ∧ (∀ j9, fits .byte (.int (f9 j9)) = true) ∧ PutP f m n (fun t9 => bL b (n - 1 - t9)) f9) ∧ sz1 = sz ∧ In G x (ca) Φ1 ∧ Fr x (fun j9 => j9 = 1 ∨ j9 = 2) Φ Φ1) := by
  refine Ct.of (cc := cX5_put) (maxL := 5) (ret := none) (by decide) rfl (Nat.le_of_ble_eq_true rfl) ?_
  intro p9 e9 s9 m9 w9 t9 k9 B
  show Z p9 l e9 _ s9 m9 _ w9 t9 k9 _ G 5 0 [(0, .ref (x + 1)), (1, .long b), (3, .int (nI n))] [] Φ sz 0 0
  refine z_iload_n B dX5_put_0 rfl 2 rfl ?_
  refine z_iconst (v := 1) B dX5_put_1 rfl ?_
  refine z_isub B dX5_put_2 ?_
  refine z_istore (lv' := [(4, .int (nI n - 1)), (0, .ref (x + 1)), (1, .long b), (3, .int (nI n))]) B dX5_put_3 (Nat.le_of_ble_eq_true rfl) rfl ?_
  refine z_lv [0, 1, 2, 3] rfl ?_
  refine z_loop (α := Nat) (fun (a9 : Nat) Φi => In G x (ca) Φi ∧ Fr x (fun j9 => j9 = 1 ∨ j9 = 2) Φ Φi ∧ (a9 ≤ n) ∧ (∃ f9 : Nat → Int32, Φi (x + 2) = some (ab_ G 700 f9) ∧ (∀ j9, fits .byte (.int (f9 j9)) = true) ∧ PutP f m (n - a9) (fun t9 => bL b (n - 1 - t9)) f9) ∧ (Φi (x + 1) = some (o_ 7 [.ref (x + 2), .int (nI (m + (n - a9)))])) ∧ True) (fun a9 => [(4, .int (nI a9 - 1)), (0, .ref (x + 1)), (1, .long b), (3, .int (nI n))]) (fun a9 => a9) ?_ (n) ⟨hI, fun _ _ => rfl, (show n ≤ n by omega), ⟨f, hc1, hfit, PutP_0 (by omega)⟩, (hc0.trans (congrArg (fun w9 : Nat => some (o_ 7 [.ref (x + 2), .int (nI w9)])) (show m = m + (n - n) by omega))), trivial⟩
  rintro i_1 Φl1 ⟨hI1, hF1, b_1, b_2, b_3, -⟩ ih1
  replace hI1 : In G x (ca) Φl1 := hI1
  replace b_1 : i_1 ≤ n := b_1
  replace b_2 : ∃ f9 : Nat → Int32, Φl1 (x + 2) = some (ab_ G 700 f9) ∧ (∀ j9, fits .byte (.int (f9 j9)) = true) ∧ PutP f m (n - i_1) (fun t9 => bL b (n - 1 - t9)) f9 := b_2
  replace b_3 : Φl1 (x + 1) = some (o_ 7 [.ref (x + 2), .int (nI (m + (n - i_1)))]) := b_3
  show Z p9 l e9 _ s9 m9 _ w9 t9 k9 _ G 5 5 [(4, .int (nI i_1 - 1)), (0, .ref (x + 1)), (1, .long b), (3, .int (nI n))] [] Φl1 _ _ _
  obtain ⟨f_1, h_1, r_1, hP1⟩ := b_2
  refine z_iload B dX5_put_5 0 rfl ?_
  refine z_if_lt (tgt := 56) B dX5_put_7 rfl (fun c_1 => ?_) (fun c_1 => ?_)
  · have e_1 : i_1 = 0 := pred_zero (by omega) c_1
    exact z_ret_v B dX5_put_56 ⟨⟨rfl, (b_3.trans (congrArg (fun w9 : Nat => some (o_ 7 [.ref (x + 2), .int (nI w9)])) (show m + (n - i_1) = m + n by omega))), f_1, h_1, r_1, PutP_c hP1 (show n - i_1 = n by omega)⟩, rfl, hI1, (fun b9 h9 => ((hF1 b9 h9).trans rfl))⟩
  · have e_2 : 1 ≤ i_1 := pred_pos c_1
    refine z_aload_n B dX5_put_10 rfl 1 rfl ?_
    refine z_get (ref := "FlowExporter$Message") (C := RX5) (T := TX5) (N := 2) (ci := 7) (v := .int (nI (m + (n - i_1)))) B hu_X5_put_X5 rfl 1 (Nat.le_of_ble_eq_true rfl) hv_X5_put_9 rfl b_3 rfl dX5_put_11 ?_
    refine z_aload_n B dX5_put_14 rfl 1 rfl ?_
    refine z_get (ref := "FlowExporter$Message") (C := RX5) (T := TX5) (N := 2) (ci := 7) (v := .ref (x + 2)) B hu_X5_put_X5 rfl 0 (Nat.le_of_ble_eq_true rfl) hv_X5_put_21 rfl b_3 rfl dX5_put_15 ?_
    refine z_alen (t := 2) (v := 700) B rfl h_1 rfl dX5_put_18 ?_
    refine z_icmp_ge (tgt := 50) B dX5_put_19 rfl (fun c_2 => ?_) (fun c_2 => ?_)
    · have e_3 : 700 ≤ m + (n - i_1) := (nI_leI (a := 700) (b := m + (n - i_1)) (by omega) (by omega)).mp c_2
      refine z_iinc (k := 0) (v := nI (i_1 - 1) - 1) (lv' := [(4, .int (nI (i_1 - 1) - 1)), (0, .ref (x + 1)), (1, .long b), (3, .int (nI n))]) B dX5_put_50 rfl (pred_dec (show 1 ≤ i_1 by omega)) (Nat.le_of_ble_eq_true rfl) rfl ?_
      refine z_goto (tgt := 5) B dX5_put_53 rfl ?_
      refine z_lv [0, 1, 2, 3] rfl ?_
      exact ih1 (i_1 - 1) Φl1 (show (i_1 - 1) < i_1 by omega) ⟨hI1, (fun b9 h9 => ((hF1 b9 h9).trans rfl)), (show (i_1 - 1) ≤ n by omega), ((show False by omega).elim), (b_3.trans (congrArg (fun w9 : Nat => some (o_ 7 [.ref (x + 2), .int (nI w9)])) (show m + (n - i_1) = m + (n - (i_1 - 1)) by omega))), trivial⟩
    · have e_4 : ¬ (700 ≤ m + (n - i_1)) := fun h9 => c_2 ((nI_leI (a := 700) (b := m + (n - i_1)) (by omega) (by omega)).mpr h9)
      refine z_aload_n B dX5_put_22 rfl 1 rfl ?_
      refine z_get (ref := "FlowExporter$Message") (C := RX5) (T := TX5) (N := 2) (ci := 7) (v := .ref (x + 2)) B hu_X5_put_X5 rfl 0 (Nat.le_of_ble_eq_true rfl) hv_X5_put_21 rfl b_3 rfl dX5_put_23 ?_
      refine z_aload_n B dX5_put_26 rfl 1 rfl ?_
      refine z_get (ref := "FlowExporter$Message") (C := RX5) (T := TX5) (N := 2) (ci := 7) (v := .int (nI (m + (n - i_1)))) B hu_X5_put_X5 rfl 1 (Nat.le_of_ble_eq_true rfl) hv_X5_put_9 rfl b_3 rfl dX5_put_27 ?_
      refine z_lload_n B dX5_put_30 rfl 2 rfl ?_
      refine z_bipush (v := 8) B dX5_put_31 rfl ?_
      refine z_iload B dX5_put_33 0 rfl ?_
      refine z_imul B dX5_put_35 ?_
      refine z_lshr (v := b >>> ((8 * (nI i_1 - 1) : Int32).toInt64 &&& 63)) B dX5_put_36 rfl ?_
      refine z_l2i (v := (b >>> ((8 * (nI i_1 - 1) : Int32).toInt64 &&& 63)).toInt32) B dX5_put_37 rfl ?_
      refine z_i2b (v := ((b >>> ((8 * (nI i_1 - 1) : Int32).toInt64 &&& 63)).toInt32).toInt8.toInt32) B dX5_put_38 rfl ?_
      refine z_bast B h_1 (Nat.le_trans hx (Nat.le_add_right x 2)) (vp_in_nI (by omega) (by omega)) dX5_put_39 (fun Φ1 hΦ1 => ?_)
      have h_2 : Φ1 (x + 2) = some (ab_ G 700 (upd f_1 (nI (m + (n - i_1))).toNatClampNeg (vp_nar .byte (((b >>> ((8 * (nI i_1 - 1) : Int32).toInt64 &&& 63)).toInt32).toInt8.toInt32)))) := fset_at hΦ1
      have hI2 : In G x (ca) Φ1 := In.put (k := 2) hI1 hΦ1 (ok2 (k := 2) rfl ⟨_, rfl, upd_fit r_1⟩)
      have h_3 : Φ1 (x + 2) = some (ab_ G 700 (upd f_1 (nI (m + (n - i_1))).toNatClampNeg (vp_nar .byte (((b >>> ((8 * (nI i_1 - 1) : Int32).toInt64 &&& 63)).toInt32).toInt8.toInt32)))) := fset_at hΦ1
      have r_2 : ∀ j9, fits .byte (.int ((upd f_1 (nI (m + (n - i_1))).toNatClampNeg (vp_nar .byte (((b >>> ((8 * (nI i_1 - 1) : Int32).toInt64 &&& 63)).toInt32).toInt8.toInt32))) j9)) = true := upd_fit r_1
      refine z_aload_n B dX5_put_40 rfl 1 rfl ?_
      refine z_dup B dX5_put_41 rfl ?_
      have h_4 : Φ1 (x + 1) = some (o_ 7 [.ref (x + 2), .int (nI (m + (n - i_1)))]) := ((fset_fr hΦ1 (ne_off (x := x) (i := 1) (j := 2) rfl)).trans b_3)
      refine z_get (ref := "FlowExporter$Message") (C := RX5) (T := TX5) (N := 2) (ci := 7) (v := .int (nI (m + (n - i_1)))) B hu_X5_put_X5 rfl 1 (Nat.le_of_ble_eq_true rfl) hv_X5_put_9 rfl h_4 rfl dX5_put_42 ?_
      refine z_iconst (v := 1) B dX5_put_45 rfl ?_
      refine z_iadd B dX5_put_46 ?_
      refine z_top (st1 := [.int (nI (m + (n - i_1) + 1)), .ref (x + 1)]) (congrArg (fun w9 : Int32 => ([.int w9, .ref (x + 1)] : List Value)) (nI_add (m + (n - i_1)) 1)) ?_
      refine z_put (ref := "FlowExporter$Message") (C := RX5) (T := TX5) (N := 2) (ci := 7) (v := .int (nI (m + (n - i_1) + 1))) B hu_X5_put_X5 tyX5 tyX5_ok nmX5 rfl 1 (Nat.le_of_ble_eq_true rfl) hv_X5_put_9 rfl (Or.inl rfl) h_4 (Nat.le_trans hx (Nat.le_add_right x 1)) rfl rfl (Nat.le_of_ble_eq_true rfl) dX5_put_47 (fun Φ2 hΦ2 => ?_)
      have h_5 : Φ2 (x + 1) = some (o_ 7 [.ref (x + 2), .int (nI (m + (n - i_1) + 1))]) := fset_at hΦ2
      have hI3 : In G x (ca) Φ2 := In.put (k := 1) hI2 hΦ2 (ok1 (k := 1) rfl ⟨m + (n - i_1) + 1, rfl, (show m + (n - i_1) + 1 ≤ 700 by omega)⟩)
      refine z_iinc (k := 0) (v := nI (i_1 - 1) - 1) (lv' := [(4, .int (nI (i_1 - 1) - 1)), (0, .ref (x + 1)), (1, .long b), (3, .int (nI n))]) B dX5_put_50 rfl (pred_dec (show 1 ≤ i_1 by omega)) (Nat.le_of_ble_eq_true rfl) rfl ?_
      refine z_goto (tgt := 5) B dX5_put_53 rfl ?_
      refine z_lv [0, 1, 2, 3] rfl ?_
      have h_6 : Φ2 (x + 2) = some (ab_ G 700 (upd f_1 (nI (m + (n - i_1))).toNatClampNeg (vp_nar .byte (((b >>> ((8 * (nI i_1 - 1) : Int32).toInt64 &&& 63)).toInt32).toInt8.toInt32)))) := ((fset_fr hΦ2 (ne_off (x := x) (i := 2) (j := 1) rfl)).trans h_3)
      exact ih1 (i_1 - 1) Φ2 (show (i_1 - 1) < i_1 by omega) ⟨hI3, (fun b9 h9 => ((fset_fr hΦ2 (fun h8 => h9 (1) h8 (show 1 = 1 ∨ 1 = 2 by decide))).trans ((fset_fr hΦ1 (fun h8 => h9 (2) h8 (show 2 = 1 ∨ 2 = 2 by decide))).trans ((hF1 b9 h9).trans rfl)))), (show (i_1 - 1) ≤ n by omega), ⟨_, h_6, r_2, PutP_s hP1 (nI_clamp (by omega)) (by omega) ((byte2 _).trans (bL_at (by omega) (by omega)))⟩, (h_5.trans (congrArg (fun w9 : Nat => some (o_ 7 [.ref (x + 2), .int (nI w9)])) (show m + (n - i_1) + 1 = m + (n - (i_1 - 1)) by omega))), trivial⟩

theorem App_of {f f1 f2 f3 f4 f5 : Nat → Int32} {m : Nat} {a b d p q : Int32} (h1 : PutP f m 4 (fun t9 => bL a.toInt64 (4 - 1 - t9)) f1) (h2 : PutP f1 (m + 4) 4 (fun t9 => bL b.toInt64 (4 - 1 - t9)) f2) (h3 : PutP f2 (m + 4 + 4) 4 (fun t9 => bL d.toInt64 (4 - 1 - t9)) f3) (h4 : PutP f3 (m + 4 + 4 + 4) 4 (fun t9 => bL p.toInt64 (4 - 1 - t9)) f4) (h5 : PutP f4 (m + 4 + 4 + 4 + 4) 4 (fun t9 => bL q.toInt64 (4 - 1 - t9)) f5) : AppR (fun w k => bL w.toInt64 k) f m a b d p q f5 := by
  rw [show m + 4 + 4 + 4 + 4 = m + 16 by omega] at h5
  rw [show m + 4 + 4 + 4 = m + 12 by omega] at h4
  rw [show m + 4 + 4 = m + 8 by omega] at h3
  exact ⟨f1, f2, f3, f4, h1, h2, h3, h4, h5⟩

set_option maxHeartbeats 4000000 in
set_option maxRecDepth 100000 in
theorem s_X11_appendInputB (G : EnvG) (l : Launch) (Φ : Hm) (sz x ca : Nat) (n : Nat) (fB : Nat → Int32) (a : Int32) (b : Int32) (d : Int32) (f : Int32) (g : Int32) (hx : G.2.2.2 ≤ x) (hI : In G x ca Φ) (hc0 : Φ (x + 1) = some (o_ 7 [.ref (x + 2), .int (nI n)])) (hc1 : Φ (x + 2) = some (ab_ G 700 fB)) (hn : n ≤ 700) (hfit : ∀ j9, fits .byte (.int (fB j9)) = true) : Ct G l yX11_appendInput wsX11_appendInput ({ frames := 1, cells := 0, slots := 0, locals := 24 }) 0 0 [.ref x, .int a, .int b, .int d, .int f, .int g] Φ sz (fun v Φ1 sz1 => (∃ (n9 : Nat) (f9 : Nat → Int32), Φ1 (x + 1) = some (o_ 7 [.ref (x + 2), .int (nI n9)]) ∧ Φ1 (x + 2) = some (ab_ G 700 f9) ∧ apV n v n9 ∧ (n9 = n → f9 = fB) ∧ (n ≤ 680 → AppR (fun w k => bL w.toInt64 k) fB n a b d f g f9)) ∧ sz1 = sz ∧ In G x (ca) Φ1 ∧ Fr x (fun j9 => 1 ≤ j9 ∧ j9 < 149) Φ Φ1) := by
  refine Ct.of (cc := cX11_appendInput) (maxL := 6) (ret := (some .int)) (by decide) rfl (Nat.le_of_ble_eq_true rfl) ?_
  intro p9 e9 s9 m9 w9 t9 k9 B
  show Z p9 l e9 _ s9 m9 _ w9 t9 k9 _ G 6 0 [(0, .ref x), (1, .int a), (2, .int b), (3, .int d), (4, .int f), (5, .int g)] [] Φ sz 0 0
  refine z_aload_n B dX11_appendInput_0 rfl 0 rfl ?_
  have h_1 := in0 (k := 0) hI rfl
  have h_2 : Φ x = some (o_ 13 [.ref (x + 1), .ref (x + 3), .ref (x + 24), .ref (x + 46), .ref (x + 74), .ref (x + 80), .ref (x + 132), .ref (x + 121)]) := h_1
  refine z_get (ref := "FlowExporter") (C := RX11) (T := TX11) (N := 8) (ci := 13) (v := .ref (x + 1)) B hu_X11_appendInput_X11 rfl 0 (Nat.le_of_ble_eq_true rfl) hv_X11_appendInput_14 rfl h_2 rfl dX11_appendInput_1 ?_
  refine z_get (ref := "FlowExporter$Message") (C := RX5) (T := TX5) (N := 2) (ci := 7) (v := .int (nI n)) B hu_X11_appendInput_X5 rfl 1 (Nat.le_of_ble_eq_true rfl) hv_X11_appendInput_97 rfl hc0 rfl dX11_appendInput_4 ?_
  refine z_bipush (v := 20) B dX11_appendInput_7 rfl ?_
  refine z_iadd B dX11_appendInput_9 ?_
  refine z_top (st1 := [.int (nI (n + 20))]) (congrArg (fun w9 : Int32 => ([.int w9] : List Value)) (nI_add n 20)) ?_
  refine z_sipush (v := 700) B dX11_appendInput_10 rfl ?_
  refine z_icmp_le (tgt := 18) B dX11_appendInput_13 rfl (fun c_1 => ?_) (fun c_1 => ?_)
  · have e_1 : n + 20 ≤ 700 := (nI_leI (a := n + 20) (b := 700) (by omega) (by omega)).mp c_1
    refine z_aload_n B dX11_appendInput_18 rfl 0 rfl ?_
    refine z_get (ref := "FlowExporter") (C := RX11) (T := TX11) (N := 8) (ci := 13) (v := .ref (x + 1)) B hu_X11_appendInput_X11 rfl 0 (Nat.le_of_ble_eq_true rfl) hv_X11_appendInput_14 rfl h_2 rfl dX11_appendInput_19 ?_
    refine z_iload_n B dX11_appendInput_22 rfl 1 rfl ?_
    refine z_i2l (v := a.toInt64) B dX11_appendInput_23 rfl ?_
    refine z_iconst (v := 4) B dX11_appendInput_24 rfl ?_
    refine z_callV (As := [.long a.toInt64, .int 4]) (rest := []) B (s_X5_putB G l Φ sz x (ca) n fB a.toInt64 4 hx hI hc0 hc1 (show 4 ≤ 8 by omega) (show n + 4 ≤ 700 by omega) hfit) (cwV 2 B.1.2.2.2.2 gX11_appendInput_X5_put rfl rfl rfl (by decide +kernel) ⟨Nat.le_of_ble_eq_true rfl, Nat.le_of_ble_eq_true rfl⟩) hc0 rfl rfl rfl rfl (Nat.le_of_ble_eq_true rfl) dX11_appendInput_25 ⟨Nat.le_of_ble_eq_true rfl, Nat.le_of_ble_eq_true rfl⟩ (fun r_1 Φ1 sz1 st1 hp1 hs1 => ?_)
    obtain ⟨⟨rfl, h_3, f_1, h_4, r_2, hP1⟩, hq1, hI1, hF1⟩ := hp1
    subst sz1
    replace hs1 : st1 = [] := hs1
    subst st1
    replace hI1 : In G x (ca) Φ1 := hI1
    refine z_aload_n B dX11_appendInput_28 rfl 0 rfl ?_
    have h_5 : Φ1 x = some (o_ 13 [.ref (x + 1), .ref (x + 3), .ref (x + 24), .ref (x + 46), .ref (x + 74), .ref (x + 80), .ref (x + 132), .ref (x + 121)]) := ((hF1 x fq_495).trans h_2)
    refine z_get (ref := "FlowExporter") (C := RX11) (T := TX11) (N := 8) (ci := 13) (v := .ref (x + 1)) B hu_X11_appendInput_X11 rfl 0 (Nat.le_of_ble_eq_true rfl) hv_X11_appendInput_14 rfl h_5 rfl dX11_appendInput_29 ?_
    refine z_iload_n B dX11_appendInput_32 rfl 2 rfl ?_
    refine z_i2l (v := b.toInt64) B dX11_appendInput_33 rfl ?_
    refine z_iconst (v := 4) B dX11_appendInput_34 rfl ?_
    refine z_callV (As := [.long b.toInt64, .int 4]) (rest := []) B (s_X5_putB G l Φ1 sz x (ca) (n + 4) f_1 b.toInt64 4 hx hI1 h_3 h_4 (show 4 ≤ 8 by omega) (show (n + 4) + 4 ≤ 700 by omega) r_2) (cwV 2 B.1.2.2.2.2 gX11_appendInput_X5_put rfl rfl rfl (by decide +kernel) ⟨Nat.le_of_ble_eq_true rfl, Nat.le_of_ble_eq_true rfl⟩) h_3 rfl rfl rfl rfl (Nat.le_of_ble_eq_true rfl) dX11_appendInput_35 ⟨Nat.le_of_ble_eq_true rfl, Nat.le_of_ble_eq_true rfl⟩ (fun r_3 Φ2 sz2 st2 hp2 hs2 => ?_)
    obtain ⟨⟨rfl, h_6, f_2, h_7, r_4, hP2⟩, hq2, hI2, hF2⟩ := hp2
    subst sz2
    replace hs2 : st2 = [] := hs2
    subst st2
    replace hI2 : In G x (ca) Φ2 := hI2
    refine z_aload_n B dX11_appendInput_38 rfl 0 rfl ?_
    have h_8 : Φ2 x = some (o_ 13 [.ref (x + 1), .ref (x + 3), .ref (x + 24), .ref (x + 46), .ref (x + 74), .ref (x + 80), .ref (x + 132), .ref (x + 121)]) := ((hF2 x fq_495).trans h_5)
    refine z_get (ref := "FlowExporter") (C := RX11) (T := TX11) (N := 8) (ci := 13) (v := .ref (x + 1)) B hu_X11_appendInput_X11 rfl 0 (Nat.le_of_ble_eq_true rfl) hv_X11_appendInput_14 rfl h_8 rfl dX11_appendInput_39 ?_
    refine z_iload_n B dX11_appendInput_42 rfl 3 rfl ?_
    refine z_i2l (v := d.toInt64) B dX11_appendInput_43 rfl ?_
    refine z_iconst (v := 4) B dX11_appendInput_44 rfl ?_
    refine z_callV (As := [.long d.toInt64, .int 4]) (rest := []) B (s_X5_putB G l Φ2 sz x (ca) ((n + 4) + 4) f_2 d.toInt64 4 hx hI2 h_6 h_7 (show 4 ≤ 8 by omega) (show ((n + 4) + 4) + 4 ≤ 700 by omega) r_4) (cwV 2 B.1.2.2.2.2 gX11_appendInput_X5_put rfl rfl rfl (by decide +kernel) ⟨Nat.le_of_ble_eq_true rfl, Nat.le_of_ble_eq_true rfl⟩) h_6 rfl rfl rfl rfl (Nat.le_of_ble_eq_true rfl) dX11_appendInput_45 ⟨Nat.le_of_ble_eq_true rfl, Nat.le_of_ble_eq_true rfl⟩ (fun r_5 Φ3 sz3 st3 hp3 hs3 => ?_)
    obtain ⟨⟨rfl, h_9, f_3, h_10, r_6, hP3⟩, hq3, hI3, hF3⟩ := hp3
    subst sz3
    replace hs3 : st3 = [] := hs3
    subst st3
    replace hI3 : In G x (ca) Φ3 := hI3
    refine z_aload_n B dX11_appendInput_48 rfl 0 rfl ?_
    have h_11 : Φ3 x = some (o_ 13 [.ref (x + 1), .ref (x + 3), .ref (x + 24), .ref (x + 46), .ref (x + 74), .ref (x + 80), .ref (x + 132), .ref (x + 121)]) := ((hF3 x fq_495).trans h_8)
    refine z_get (ref := "FlowExporter") (C := RX11) (T := TX11) (N := 8) (ci := 13) (v := .ref (x + 1)) B hu_X11_appendInput_X11 rfl 0 (Nat.le_of_ble_eq_true rfl) hv_X11_appendInput_14 rfl h_11 rfl dX11_appendInput_49 ?_
    refine z_iload B dX11_appendInput_52 4 rfl ?_
    refine z_i2l (v := f.toInt64) B dX11_appendInput_54 rfl ?_
    refine z_iconst (v := 4) B dX11_appendInput_55 rfl ?_
    refine z_callV (As := [.long f.toInt64, .int 4]) (rest := []) B (s_X5_putB G l Φ3 sz x (ca) (((n + 4) + 4) + 4) f_3 f.toInt64 4 hx hI3 h_9 h_10 (show 4 ≤ 8 by omega) (show (((n + 4) + 4) + 4) + 4 ≤ 700 by omega) r_6) (cwV 2 B.1.2.2.2.2 gX11_appendInput_X5_put rfl rfl rfl (by decide +kernel) ⟨Nat.le_of_ble_eq_true rfl, Nat.le_of_ble_eq_true rfl⟩) h_9 rfl rfl rfl rfl (Nat.le_of_ble_eq_true rfl) dX11_appendInput_56 ⟨Nat.le_of_ble_eq_true rfl, Nat.le_of_ble_eq_true rfl⟩ (fun r_7 Φ4 sz4 st4 hp4 hs4 => ?_)
    obtain ⟨⟨rfl, h_12, f_4, h_13, r_8, hP4⟩, hq4, hI4, hF4⟩ := hp4
    subst sz4
    replace hs4 : st4 = [] := hs4
    subst st4
    replace hI4 : In G x (ca) Φ4 := hI4
    refine z_aload_n B dX11_appendInput_59 rfl 0 rfl ?_
    have h_14 : Φ4 x = some (o_ 13 [.ref (x + 1), .ref (x + 3), .ref (x + 24), .ref (x + 46), .ref (x + 74), .ref (x + 80), .ref (x + 132), .ref (x + 121)]) := ((hF4 x fq_495).trans h_11)
    refine z_get (ref := "FlowExporter") (C := RX11) (T := TX11) (N := 8) (ci := 13) (v := .ref (x + 1)) B hu_X11_appendInput_X11 rfl 0 (Nat.le_of_ble_eq_true rfl) hv_X11_appendInput_14 rfl h_14 rfl dX11_appendInput_60 ?_
    refine z_iload B dX11_appendInput_63 5 rfl ?_
    refine z_i2l (v := g.toInt64) B dX11_appendInput_65 rfl ?_
    refine z_iconst (v := 4) B dX11_appendInput_66 rfl ?_
    refine z_callV (As := [.long g.toInt64, .int 4]) (rest := []) B (s_X5_putB G l Φ4 sz x (ca) ((((n + 4) + 4) + 4) + 4) f_4 g.toInt64 4 hx hI4 h_12 h_13 (show 4 ≤ 8 by omega) (show ((((n + 4) + 4) + 4) + 4) + 4 ≤ 700 by omega) r_8) (cwV 2 B.1.2.2.2.2 gX11_appendInput_X5_put rfl rfl rfl (by decide +kernel) ⟨Nat.le_of_ble_eq_true rfl, Nat.le_of_ble_eq_true rfl⟩) h_12 rfl rfl rfl rfl (Nat.le_of_ble_eq_true rfl) dX11_appendInput_67 ⟨Nat.le_of_ble_eq_true rfl, Nat.le_of_ble_eq_true rfl⟩ (fun r_9 Φ5 sz5 st5 hp5 hs5 => ?_)
    obtain ⟨⟨rfl, h_15, f_5, h_16, r_10, hP5⟩, hq5, hI5, hF5⟩ := hp5
    subst sz5
    replace hs5 : st5 = [] := hs5
    subst st5
    replace hI5 : In G x (ca) Φ5 := hI5
    refine z_aload_n B dX11_appendInput_70 rfl 0 rfl ?_
    have h_17 : Φ5 x = some (o_ 13 [.ref (x + 1), .ref (x + 3), .ref (x + 24), .ref (x + 46), .ref (x + 74), .ref (x + 80), .ref (x + 132), .ref (x + 121)]) := ((hF5 x fq_495).trans h_14)
    refine z_get (ref := "FlowExporter") (C := RX11) (T := TX11) (N := 8) (ci := 13) (v := .ref (x + 1)) B hu_X11_appendInput_X11 rfl 0 (Nat.le_of_ble_eq_true rfl) hv_X11_appendInput_14 rfl h_17 rfl dX11_appendInput_71 ?_
    refine z_get (ref := "FlowExporter$Message") (C := RX5) (T := TX5) (N := 2) (ci := 7) (v := .int (nI (((((n + 4) + 4) + 4) + 4) + 4))) B hu_X11_appendInput_X5 rfl 1 (Nat.le_of_ble_eq_true rfl) hv_X11_appendInput_97 rfl h_15 rfl dX11_appendInput_74 ?_
    exact z_ret_i B dX11_appendInput_77 ⟨⟨((((n + 4) + 4) + 4) + 4) + 4, f_5, h_15, h_16, Or.inr ⟨by omega, congrArg (fun w9 : Nat => some (Value.int (nI w9))) (show ((((n + 4) + 4) + 4) + 4) + 4 = n + 20 by omega), by omega⟩, fun h9 => absurd h9 (by omega), fun _ => App_of hP1 hP2 hP3 hP4 hP5⟩, rfl, hI5, (fun b9 h9 => ((hF5 b9 (fun j9 h8 h7 => h9 j9 h8 (fq_496 j9 h7))).trans ((hF4 b9 (fun j9 h8 h7 => h9 j9 h8 (fq_496 j9 h7))).trans ((hF3 b9 (fun j9 h8 h7 => h9 j9 h8 (fq_496 j9 h7))).trans ((hF2 b9 (fun j9 h8 h7 => h9 j9 h8 (fq_496 j9 h7))).trans ((hF1 b9 (fun j9 h8 h7 => h9 j9 h8 (fq_496 j9 h7))).trans rfl))))))⟩
  · have e_2 : ¬ (n + 20 ≤ 700) := fun h9 => c_1 ((nI_leI (a := n + 20) (b := 700) (by omega) (by omega)).mpr h9)
    refine z_iconst (v := (-1)) B dX11_appendInput_16 rfl ?_
    exact z_ret_i B dX11_appendInput_17 ⟨⟨n, fB, hc0, hc1, Or.inl ⟨by omega, rfl, by omega⟩, fun _ => rfl, fun h9 => absurd h9 (by omega)⟩, rfl, hI, (fun b9 h9 => rfl)⟩

/-- load: its answer, code and position -/
noncomputable def LdV (b : Nat → Int32) (v : Option Value) (co po : Int32) : Prop := (∃ (m q : Nat) (c : Cf), v = some (.int (nI m)) ∧ txA b 702 0 cB 0 = (0, q, m, c) ∧ co = 0 ∧ po = -1) ∨ (∃ (er s m : Nat) (c : Cf), v = some (.int (-2)) ∧ txA b 702 0 cB 0 = (er, s, m, c) ∧ ¬ er = 0 ∧ co = nI er ∧ po = nI s)
theorem LdV_fun {b : Nat → Int32} {v w : Option Value} {co po co2 po2 : Int32} (h : LdV b v co po) (h2 : LdV b w co2 po2) : v = w ∧ co = co2 ∧ po = po2 := by
  rcases h with ⟨m, q, c, rfl, e, rfl, rfl⟩ | ⟨er, s, m, c, rfl, e, he, rfl, rfl⟩ <;> rcases h2 with ⟨m2, q2, c2, rfl, e2, rfl, rfl⟩ | ⟨er2, s2, m2, c2, rfl, e2, he2, rfl, rfl⟩
  · have h3 := e.symm.trans e2
    injection h3 with h4 h5
    injection h5 with h5 h6
    injection h6 with h6 h7
    subst h6
    exact ⟨rfl, rfl, rfl⟩
  · have h3 := e.symm.trans e2
    injection h3 with h4 h5
    exact absurd h4.symm he2
  · have h3 := e.symm.trans e2
    injection h3 with h4 h5
    exact absurd h4 he
  · have h3 := e.symm.trans e2
    injection h3 with h4 h5
    injection h5 with h5 h6
    subst h4
    subst h5
    exact ⟨rfl, rfl, rfl⟩

/-! the configuration that is in force: c, and its effective templates, s being supported -/
noncomputable def CfA (G : EnvG) (x t s : Nat) (c : Cf) (Φ : Hm) : Prop := CfP G x 3 t 4 c Φ ∧ (s < 512 ∧ c 9 = nI s) ∧ ∀ u, u < 4 → ET G x (10 + 4 * u) t u s c Φ
theorem CfA.mv {G : EnvG} {x t s : Nat} {c : Cf} {Φ Φ1 : Hm} (h : CfA G x t s c Φ) (e : ∀ j, 3 ≤ j → j < 24 → Φ1 (x + j) = Φ (x + j)) : CfA G x t s c Φ1 :=
  ⟨CfP.mv h.1 (e 3 (by decide) (by decide)) (e 4 (by decide) (by decide)) (e 5 (by decide) (by decide)) (fun u hu _ => ⟨e _ (by omega) (by omega), e _ (by omega) (by omega)⟩), h.2.1, fun u hu => (h.2.2 u hu).eq (e _ (by omega) (by omega)) (e _ (by omega) (by omega))⟩
theorem CfA.fr {G : EnvG} {x t s : Nat} {c : Cf} {md : Nat → Prop} {Φ Φ1 : Hm} (h : CfA G x t s c Φ) (hF : Fr x md Φ Φ1) (hm : ∀ j, md j → ¬ (3 ≤ j ∧ j < 24)) : CfA G x t s c Φ1 :=
  h.mv (fun j h1 h2 => hF _ (fun i q hi => hm i hi (by omega)))
theorem CfA.off {G : EnvG} {x t s k : Nat} {c : Cf} {e : va_E} {Φ Φ1 : Hm} (h : CfA G x t s c Φ) (h1 : Φ1 = fset Φ (x + k) e) (hk : ¬ (3 ≤ k ∧ k < 24)) : CfA G x t s c Φ1 :=
  h.mv (fun j q1 q2 => fset_fr h1 (by omega))
theorem CfA.obj {G : EnvG} {x t s : Nat} {c : Cf} {Φ : Hm} (h : CfA G x t s c Φ) : Φ (x + 3) = some (o_ 3 [.ref (x + 4), .ref (x + 5), .ref (x + 6), .ref (x + 7), .int (nI t), .int (nI s)]) := by
  have h1 := h.1.obj
  rw [h.2.1.2] at h1
  exact h1
/-- what load leaves of the configuration: the text's own, or the one that was -/
noncomputable def CfL (b : Nat → Int32) (c0 c1 : Cf) : Prop := (∃ (q m : Nat) (c : Cf), txA b 702 0 cB 0 = (0, q, m, c) ∧ c1 = finC c) ∨ (∃ (er s m : Nat) (c : Cf), txA b 702 0 cB 0 = (er, s, m, c) ∧ ¬ er = 0 ∧ c1 = c0)
theorem CfL_fun {b : Nat → Int32} {c0 c1 c2 : Cf} (h : CfL b c0 c1) (h2 : CfL b c0 c2) : c1 = c2 := by
  rcases h with ⟨q, m, c, e, rfl⟩ | ⟨er, s, m, c, e, he, rfl⟩ <;> rcases h2 with ⟨q2, m2, d, g, rfl⟩ | ⟨er2, s2, m2, d, g, hg, rfl⟩
  · have h3 := e.symm.trans g
    injection h3 with _ h5
    injection h5 with _ h6
    injection h6 with _ h7
    rw [h7]
  · have h3 := e.symm.trans g
    injection h3 with h4 h5
    exact absurd h4.symm hg
  · have h3 := e.symm.trans g
    injection h3 with h4 h5
    exact absurd h4 he
  · rfl

set_option maxHeartbeats 4000000 in
set_option maxRecDepth 100000 in
theorem s_X11_startAnewE (G : EnvG) (l : Launch) (Φ : Hm) (sz x ca : Nat) (t : Nat) (c : Cf) (nw : Int32) (rt : Int32) (dw : Int32) (aq : Int32) (xp : Int32) (xb : Int32) (ob : Int64) (sm : Int64) (un : Int64) (hx : G.2.2.2 ≤ x) (hI : In G x ca Φ) (hc0 : Φ (x + 80) = some (o_ 4 [.ref (x + 3), .ref (x + 74), .ref (x + 81), .ref (x + 95), .int nw, .int rt, .int dw, .int aq, .int xp, .int xb, .long ob, .long sm, .long un])) (hcf0 : CfP G x 25 t 4 c Φ) (ht : t ≤ 4) (had : aq = 0 ∨ aq = 1) : Ct G l yX11_startAnew wsX11_startAnew ({ frames := 4, cells := 0, slots := 0, locals := 89 }) 0 0 [.ref x] Φ sz (fun v Φ1 sz1 => ((v = none ∧ ∃ s8 : Nat, CfA G x t s8 c Φ1) ∧ ∃ rt8 : Int32, Φ1 (x + 80) = some (o_ 4 [.ref (x + 3), .ref (x + 74), .ref (x + 81), .ref (x + 95), .int 0, .int rt8, .int 1, .int 0, .int 0, .int 0, .long 0, .long 0, .long 0])) ∧ sz1 = sz ∧ In G x (ca) Φ1 ∧ Fr x (fun j9 => (3 ≤ j9 ∧ j9 < 24) ∨ (46 ≤ j9 ∧ j9 < 149)) Φ Φ1) := by
  refine Ct.of (cc := cX11_startAnew) (maxL := 1) (ret := none) (by decide) rfl (Nat.le_of_ble_eq_true rfl) ?_
  intro p9 e9 s9 m9 w9 t9 k9 B
  show Z p9 l e9 _ s9 m9 _ w9 t9 k9 _ G 1 0 [(0, .ref x)] [] Φ sz 0 0
  refine z_aload_n B dX11_startAnew_0 rfl 0 rfl ?_
  have h_1 := in0 (k := 0) hI rfl
  have h_2 : Φ x = some (o_ 13 [.ref (x + 1), .ref (x + 3), .ref (x + 24), .ref (x + 46), .ref (x + 74), .ref (x + 80), .ref (x + 132), .ref (x + 121)]) := h_1
  refine z_get (ref := "FlowExporter") (C := RX11) (T := TX11) (N := 8) (ci := 13) (v := .ref (x + 3)) B hu_X11_startAnew_X11 rfl 1 (Nat.le_of_ble_eq_true rfl) hv_X11_startAnew_21 rfl h_2 rfl dX11_startAnew_1 ?_
  refine z_aload_n B dX11_startAnew_4 rfl 0 rfl ?_
  refine z_get (ref := "FlowExporter") (C := RX11) (T := TX11) (N := 8) (ci := 13) (v := .ref (x + 24)) B hu_X11_startAnew_X11 rfl 2 (Nat.le_of_ble_eq_true rfl) hv_X11_startAnew_30 rfl h_2 rfl dX11_startAnew_5 ?_
  obtain ⟨v_1, v_2, v_3, v_4, v_5, v_6, h_3⟩ := in10 (k := 24) hI rfl
  have h_4 : Φ (x + 24) = some (o_ 8 [.ref (x + 25), .int v_1, .int v_2, .ref (x + 1), .int v_3, .int v_4, .int v_5, .int v_6]) := h_3
  refine z_get (ref := "FlowExporter$Parser") (C := RX6) (T := TX6) (N := 8) (ci := 8) (v := .ref (x + 25)) B hu_X11_startAnew_X6 rfl 0 (Nat.le_of_ble_eq_true rfl) hv_X11_startAnew_82 rfl h_4 rfl dX11_startAnew_8 ?_
  obtain ⟨v_7, v_8, h_5⟩ := in3 (k := 3) hI rfl
  have h_6 : Φ (x + 3) = some (o_ 3 [.ref (x + 4), .ref (x + 5), .ref (x + 6), .ref (x + 7), .int v_7, .int v_8]) := h_5
  refine z_callV (As := [.ref (x + 25)]) (rest := []) B (s_X1_copyFromF G l Φ sz x (ca) t c hx hI hcf0 (show t ≤ 4 by omega)) (cwV 1 B.1.2.2.2.2 gX11_startAnew_X1_copyFrom rfl rfl rfl (by decide +kernel) ⟨Nat.le_of_ble_eq_true rfl, Nat.le_of_ble_eq_true rfl⟩) h_6 rfl rfl rfl rfl (Nat.le_of_ble_eq_true rfl) dX11_startAnew_11 ⟨Nat.le_of_ble_eq_true rfl, Nat.le_of_ble_eq_true rfl⟩ (fun r_1 Φ1 sz1 st1 hp1 hs1 => ?_)
  obtain ⟨⟨rfl, hcg1, hcg2, s_1, b_1, e_1, hE1⟩, hq1, hI1, hF1⟩ := hp1
  subst sz1
  replace hs1 : st1 = [] := hs1
  subst st1
  replace hI1 : In G x (ca) Φ1 := hI1
  have hcg3 : CfA G x t s_1 c Φ1 := ⟨hcg1, ⟨b_1, e_1⟩, hE1⟩
  refine z_aload_n B dX11_startAnew_14 rfl 0 rfl ?_
  have h_7 : Φ1 x = some (o_ 13 [.ref (x + 1), .ref (x + 3), .ref (x + 24), .ref (x + 46), .ref (x + 74), .ref (x + 80), .ref (x + 132), .ref (x + 121)]) := ((hF1 x fq_386).trans h_2)
  refine z_get (ref := "FlowExporter") (C := RX11) (T := TX11) (N := 8) (ci := 13) (v := .ref (x + 46)) B hu_X11_startAnew_X11 rfl 3 (Nat.le_of_ble_eq_true rfl) hv_X11_startAnew_37 rfl h_7 rfl dX11_startAnew_15 ?_
  obtain ⟨n_1, v_9, h_8, b_2⟩ := in11 (k := 46) hI1 rfl
  have h_9 : Φ1 (x + 46) = some (o_ 9 [.ref (x + 47), .int (nI n_1), .int v_9]) := h_8
  refine z_callV (As := []) (rest := []) B (s_X7_clear G l Φ1 sz x (ca)  hx hI1 ) (cwV 0 B.1.2.2.2.2 gX11_startAnew_X7_clear rfl rfl rfl (by decide +kernel) ⟨Nat.le_of_ble_eq_true rfl, Nat.le_of_ble_eq_true rfl⟩) h_9 rfl rfl rfl rfl (Nat.le_of_ble_eq_true rfl) dX11_startAnew_18 ⟨Nat.le_of_ble_eq_true rfl, Nat.le_of_ble_eq_true rfl⟩ (fun r_2 Φ2 sz2 st2 hp2 hs2 => ?_)
  obtain ⟨rfl, hq2, hI2, hF2⟩ := hp2
  subst sz2
  replace hs2 : st2 = [] := hs2
  subst st2
  replace hI2 : In G x (ca) Φ2 := hI2
  refine z_aload_n B dX11_startAnew_21 rfl 0 rfl ?_
  have h_10 : Φ2 x = some (o_ 13 [.ref (x + 1), .ref (x + 3), .ref (x + 24), .ref (x + 46), .ref (x + 74), .ref (x + 80), .ref (x + 132), .ref (x + 121)]) := ((hF2 x fq_388).trans h_7)
  refine z_get (ref := "FlowExporter") (C := RX11) (T := TX11) (N := 8) (ci := 13) (v := .ref (x + 74)) B hu_X11_startAnew_X11 rfl 4 (Nat.le_of_ble_eq_true rfl) hv_X11_startAnew_46 rfl h_10 rfl dX11_startAnew_22 ?_
  obtain ⟨n_2, v_10, v_11, v_12, h_11, b_3⟩ := in13 (k := 74) hI2 rfl
  have h_12 : Φ2 (x + 74) = some (o_ 10 [.ref (x + 3), .ref (x + 46), .ref (x + 75), .ref (x + 77), .int (nI n_2), .ref (x + 78), .ref (x + 79), .int v_10, .long v_11, .int v_12]) := h_11
  refine z_callV (As := []) (rest := []) B (s_X8_clear G l Φ2 sz x (ca)  hx hI2 ) (cwV 0 B.1.2.2.2.2 gX11_startAnew_X8_clear rfl rfl rfl (by decide +kernel) ⟨Nat.le_of_ble_eq_true rfl, Nat.le_of_ble_eq_true rfl⟩) h_12 rfl rfl rfl rfl (Nat.le_of_ble_eq_true rfl) dX11_startAnew_25 ⟨Nat.le_of_ble_eq_true rfl, Nat.le_of_ble_eq_true rfl⟩ (fun r_3 Φ3 sz3 st3 hp3 hs3 => ?_)
  obtain ⟨rfl, hq3, hI3, hF3⟩ := hp3
  subst sz3
  replace hs3 : st3 = [] := hs3
  subst st3
  replace hI3 : In G x (ca) Φ3 := hI3
  refine z_aload_n B dX11_startAnew_28 rfl 0 rfl ?_
  have h_13 : Φ3 x = some (o_ 13 [.ref (x + 1), .ref (x + 3), .ref (x + 24), .ref (x + 46), .ref (x + 74), .ref (x + 80), .ref (x + 132), .ref (x + 121)]) := ((hF3 x fq_390).trans h_10)
  refine z_get (ref := "FlowExporter") (C := RX11) (T := TX11) (N := 8) (ci := 13) (v := .ref (x + 80)) B hu_X11_startAnew_X11 rfl 5 (Nat.le_of_ble_eq_true rfl) hv_X11_startAnew_55 rfl h_13 rfl dX11_startAnew_29 ?_
  have h_14 : Φ3 (x + 80) = some (o_ 4 [.ref (x + 3), .ref (x + 74), .ref (x + 81), .ref (x + 95), .int nw, .int rt, .int dw, .int aq, .int xp, .int xb, .long ob, .long sm, .long un]) := ((hF3 (x + 80) fq_394).trans ((hF2 (x + 80) fq_393).trans ((hF1 (x + 80) fq_392).trans hc0)))
  refine z_callV (As := []) (rest := []) B (s_X2_clear G l Φ3 sz x (ca) nw rt dw aq xp xb ob sm un hx hI3 h_14 had) (cwV 0 B.1.2.2.2.2 gX11_startAnew_X2_clear rfl rfl rfl (by decide +kernel) ⟨Nat.le_of_ble_eq_true rfl, Nat.le_of_ble_eq_true rfl⟩) h_14 rfl rfl rfl rfl (Nat.le_of_ble_eq_true rfl) dX11_startAnew_32 ⟨Nat.le_of_ble_eq_true rfl, Nat.le_of_ble_eq_true rfl⟩ (fun r_4 Φ4 sz4 st4 hp4 hs4 => ?_)
  obtain ⟨⟨rfl, v_13, h_15⟩, hq4, hI4, hF4⟩ := hp4
  subst sz4
  replace hs4 : st4 = [] := hs4
  subst st4
  replace hI4 : In G x (ca) Φ4 := hI4
  refine z_aload_n B dX11_startAnew_35 rfl 0 rfl ?_
  have h_16 : Φ4 x = some (o_ 13 [.ref (x + 1), .ref (x + 3), .ref (x + 24), .ref (x + 46), .ref (x + 74), .ref (x + 80), .ref (x + 132), .ref (x + 121)]) := ((hF4 x fq_395).trans h_13)
  refine z_get (ref := "FlowExporter") (C := RX11) (T := TX11) (N := 8) (ci := 13) (v := .ref (x + 121)) B hu_X11_startAnew_X11 rfl 7 (Nat.le_of_ble_eq_true rfl) hv_X11_startAnew_62 rfl h_16 rfl dX11_startAnew_36 ?_
  refine z_iconst (v := 0) B dX11_startAnew_39 rfl ?_
  obtain ⟨n_3, h_17, b_4⟩ := in20 (k := 121) hI4 rfl
  have h_18 : Φ4 (x + 121) = some (o_ 11 [.ref (x + 122), .ref (x + 123), .ref (x + 126), .ref (x + 129), .int (nI n_3)]) := h_17
  refine z_put (ref := "FlowExporter$Sums") (C := RX9) (T := TX9) (N := 5) (ci := 11) (v := .int 0) B hu_X11_startAnew_X9 tyX9 tyX9_ok nmX9 rfl 4 (Nat.le_of_ble_eq_true rfl) hv_X11_startAnew_92 rfl (Or.inl rfl) h_18 (Nat.le_trans hx (Nat.le_add_right x 121)) rfl rfl (Nat.le_of_ble_eq_true rfl) dX11_startAnew_40 (fun Φ5 hΦ1 => ?_)
  have h_19 : Φ5 (x + 121) = some (o_ 11 [.ref (x + 122), .ref (x + 123), .ref (x + 126), .ref (x + 129), .int 0]) := fset_at hΦ1
  have hI5 : In G x (ca) Φ5 := In.put (k := 121) hI4 hΦ1 (ok20 (k := 121) rfl ⟨0, rfl, (show 0 ≤ 24 by omega)⟩)
  refine z_aload_n B dX11_startAnew_43 rfl 0 rfl ?_
  have h_20 : Φ5 x = some (o_ 13 [.ref (x + 1), .ref (x + 3), .ref (x + 24), .ref (x + 46), .ref (x + 74), .ref (x + 80), .ref (x + 132), .ref (x + 121)]) := ((fset_fr hΦ1 (ne_off (x := x) (i := 0) (j := 121) rfl)).trans h_16)
  refine z_get (ref := "FlowExporter") (C := RX11) (T := TX11) (N := 8) (ci := 13) (v := .ref (x + 132)) B hu_X11_startAnew_X11 rfl 6 (Nat.le_of_ble_eq_true rfl) hv_X11_startAnew_71 rfl h_20 rfl dX11_startAnew_44 ?_
  obtain ⟨n_4, v_14, v_15, h_21, b_5⟩ := in25 (k := 132) hI5 rfl
  have h_22 : Φ5 (x + 132) = some (o_ 2 [.ref (x + 3), .ref (x + 121), .ref (x + 133), .ref (x + 134), .ref (x + 135), .ref (x + 137), .ref (x + 138), .ref (x + 139), .ref (x + 140), .int (nI n_4), .int v_14, .int v_15]) := h_21
  refine z_callV (As := []) (rest := []) B (s_X0_clear G l Φ5 sz x (ca)  hx hI5 ) (cwV 0 B.1.2.2.2.2 gX11_startAnew_X0_clear rfl rfl rfl (by decide +kernel) ⟨Nat.le_of_ble_eq_true rfl, Nat.le_of_ble_eq_true rfl⟩) h_22 rfl rfl rfl rfl (Nat.le_of_ble_eq_true rfl) dX11_startAnew_47 ⟨Nat.le_of_ble_eq_true rfl, Nat.le_of_ble_eq_true rfl⟩ (fun r_5 Φ6 sz5 st5 hp5 hs5 => ?_)
  obtain ⟨rfl, hq5, hI6, hF5⟩ := hp5
  subst sz5
  replace hs5 : st5 = [] := hs5
  subst st5
  replace hI6 : In G x (ca) Φ6 := hI6
  have hcg4 : CfA G x t s_1 c Φ6 := (CfA.fr (CfA.off (k := 121) (CfA.fr (CfA.fr (CfA.fr hcg3 hF2 (fun j9 h7 => by have h6 : j9 = 46 := h7; intros; omega)) hF3 (fun j9 h7 => by have h6 : 74 ≤ j9 ∧ j9 < 80 := h7; intros; omega)) hF4 (fun j9 h7 => by have h6 : j9 = 80 ∨ j9 = 81 ∨ j9 = 95 := h7; intros; omega)) hΦ1 (by intros; omega)) hF5 (fun j9 h7 => by have h6 : 132 ≤ j9 ∧ j9 < 149 := h7; intros; omega))
  have h_23 : Φ6 (x + 80) = some (o_ 4 [.ref (x + 3), .ref (x + 74), .ref (x + 81), .ref (x + 95), .int 0, .int v_13, .int 1, .int 0, .int 0, .int 0, .long 0, .long 0, .long 0]) := ((hF5 (x + 80) fq_400).trans ((fset_fr hΦ1 (ne_off (x := x) (i := 80) (j := 121) rfl)).trans h_15))
  exact z_ret_v B dX11_startAnew_50 ⟨⟨⟨rfl, s_1, hcg4⟩, v_13, h_23⟩, rfl, hI6, (fun b9 h9 => ((hF5 b9 (fun j9 h8 h7 => h9 j9 h8 (fq_405 j9 h7))).trans ((fset_fr hΦ1 (fun h8 => h9 (121) h8 (show (3 ≤ 121 ∧ 121 < 24) ∨ (46 ≤ 121 ∧ 121 < 149) by decide))).trans ((hF4 b9 (fun j9 h8 h7 => h9 j9 h8 (fq_404 j9 h7))).trans ((hF3 b9 (fun j9 h8 h7 => h9 j9 h8 (fq_403 j9 h7))).trans ((hF2 b9 (fun j9 h8 h7 => h9 j9 h8 (fq_402 j9 h7))).trans ((hF1 b9 (fun j9 h8 h7 => h9 j9 h8 (fq_401 j9 h7))).trans rfl)))))))⟩

/-- load: its answer, code and position, and what it leaves of now, adaptive, observed -/
noncomputable def LdW (b : Nat → Int32) (v : Option Value) (co po nw aq : Int32) (ob : Int64) (nw8 aq8 : Int32) (ob8 : Int64) : Prop := (∃ (m q : Nat) (c : Cf), v = some (.int (nI m)) ∧ txA b 702 0 cB 0 = (0, q, m, c) ∧ co = 0 ∧ po = -1 ∧ nw8 = 0 ∧ aq8 = 0 ∧ ob8 = 0) ∨ (∃ (er s m : Nat) (c : Cf), v = some (.int (-2)) ∧ txA b 702 0 cB 0 = (er, s, m, c) ∧ ¬ er = 0 ∧ co = nI er ∧ po = nI s ∧ nw8 = nw ∧ aq8 = aq ∧ ob8 = ob)
theorem LdW_V {b : Nat → Int32} {v : Option Value} {co po nw aq nw8 aq8 : Int32} {ob ob8 : Int64} (h : LdW b v co po nw aq ob nw8 aq8 ob8) : LdV b v co po := by
  rcases h with ⟨m, q, c, h1, h2, h3, h4, -⟩ | ⟨er, s, m, c, h1, h2, h3, h4, h5, -⟩
  · exact Or.inl ⟨m, q, c, h1, h2, h3, h4⟩
  · exact Or.inr ⟨er, s, m, c, h1, h2, h3, h4, h5⟩
theorem LdW_fun {b : Nat → Int32} {v w : Option Value} {co po co2 po2 nw aq nw8 aq8 nw9 aq9 : Int32} {ob ob8 ob9 : Int64} (h : LdW b v co po nw aq ob nw8 aq8 ob8) (h2 : LdW b w co2 po2 nw aq ob nw9 aq9 ob9) : v = w ∧ co = co2 ∧ po = po2 ∧ nw8 = nw9 ∧ aq8 = aq9 ∧ ob8 = ob9 := by
  obtain ⟨e1, e2, e3⟩ := LdV_fun (LdW_V h) (LdW_V h2)
  refine ⟨e1, e2, e3, ?_⟩
  rcases h with ⟨m, q, c, -, e, -, -, rfl, rfl, rfl⟩ | ⟨er, s, m, c, -, e, he, -, -, rfl, rfl, rfl⟩ <;> rcases h2 with ⟨m2, q2, c2, -, g, -, -, rfl, rfl, rfl⟩ | ⟨er2, s2, m2, c2, -, g, hg, -, -, rfl, rfl, rfl⟩
  · exact ⟨rfl, rfl, rfl⟩
  · have h3 := e.symm.trans g
    injection h3 with h4 h5
    exact absurd h4.symm hg
  · have h3 := e.symm.trans g
    injection h3 with h4 h5
    exact absurd h4 he
  · exact ⟨rfl, rfl, rfl⟩

theorem hu_X11_load_X11 : ∀ w ∈ u_ws RX11 TX11 8, w ∈ wsX11_load := fun _ h => List.mem_cons_of_mem _ (List.mem_append_left _ (List.mem_append_left _ (List.mem_append_left _ (List.mem_append_left _ (List.mem_append_left _ (List.mem_append_left _ (List.mem_append_left _ (List.mem_append_left _ (List.mem_append_left _ (List.mem_append_left _ (List.mem_append_left _ (List.mem_append_left _ (List.mem_append_right _ (h))))))))))))))

theorem dX11_lossRate_0 : decode cX11_lossRate 0 = .ok (.aload_n 0, 1) := by decide +kernel
theorem dX11_lossRate_1 : decode cX11_lossRate 1 = .ok (.getfield 71, 3) := by decide +kernel
theorem dX11_lossRate_4 : decode cX11_lossRate 4 = .ok (.getfield 289, 3) := by decide +kernel
theorem dX11_lossRate_7 : decode cX11_lossRate 7 = .ok (.iconst 0, 1) := by decide +kernel
theorem dX11_lossRate_8 : decode cX11_lossRate 8 = .ok (.laload, 1) := by decide +kernel
theorem dX11_lossRate_9 : decode cX11_lossRate 9 = .ok (.lstore_n 1, 1) := by decide +kernel
theorem dX11_lossRate_10 : decode cX11_lossRate 10 = .ok (.lload_n 1, 1) := by decide +kernel
theorem dX11_lossRate_11 : decode cX11_lossRate 11 = .ok (.aload_n 0, 1) := by decide +kernel
theorem dX11_lossRate_12 : decode cX11_lossRate 12 = .ok (.getfield 71, 3) := by decide +kernel
theorem dX11_lossRate_15 : decode cX11_lossRate 15 = .ok (.getfield 289, 3) := by decide +kernel
theorem dX11_lossRate_18 : decode cX11_lossRate 18 = .ok (.bipush 7, 2) := by decide +kernel
theorem dX11_lossRate_20 : decode cX11_lossRate 20 = .ok (.laload, 1) := by decide +kernel
theorem dX11_lossRate_21 : decode cX11_lossRate 21 = .ok (.ladd, 1) := by decide +kernel
theorem dX11_lossRate_22 : decode cX11_lossRate 22 = .ok (.lstore_n 3, 1) := by decide +kernel
theorem dX11_lossRate_23 : decode cX11_lossRate 23 = .ok (.lload_n 3, 1) := by decide +kernel
theorem dX11_lossRate_24 : decode cX11_lossRate 24 = .ok (.lconst 0, 1) := by decide +kernel
theorem dX11_lossRate_25 : decode cX11_lossRate 25 = .ok (.lcmp, 1) := by decide +kernel
theorem dX11_lossRate_26 : decode cX11_lossRate 26 = .ok (.ifCond .ne 11, 3) := by decide +kernel
theorem dX11_lossRate_29 : decode cX11_lossRate 29 = .ok (.new 293, 3) := by decide +kernel
theorem dX11_lossRate_32 : decode cX11_lossRate 32 = .ok (.dup, 1) := by decide +kernel
theorem dX11_lossRate_33 : decode cX11_lossRate 33 = .ok (.invokespecial 295, 3) := by decide +kernel
theorem dX11_lossRate_36 : decode cX11_lossRate 36 = .ok (.athrow, 1) := by decide +kernel
theorem dX11_lossRate_37 : decode cX11_lossRate 37 = .ok (.lload_n 1, 1) := by decide +kernel
theorem dX11_lossRate_38 : decode cX11_lossRate 38 = .ok (.l2d, 1) := by decide +kernel
theorem dX11_lossRate_39 : decode cX11_lossRate 39 = .ok (.lload_n 3, 1) := by decide +kernel
theorem dX11_lossRate_40 : decode cX11_lossRate 40 = .ok (.l2d, 1) := by decide +kernel
theorem dX11_lossRate_41 : decode cX11_lossRate 41 = .ok (.ddiv, 1) := by decide +kernel
theorem dX11_lossRate_42 : decode cX11_lossRate 42 = .ok (.dreturn, 1) := by decide +kernel
set_option maxRecDepth 20000 in
theorem ggX11_key_X11_requireKey : GoodIn wsX11_key wsX11_requireKey := goodIn_ca ((goodIn_ca (goodIn_ca (goodIn_r _ [9, 10, 11, 3, 12] rfl (by decide +kernel)) (goodIn_sub (fun _ h => List.mem_cons_of_mem _ (List.mem_append_left _ (List.mem_append_left _ (List.mem_append_left _ (List.mem_append_left _ (List.mem_append_right _ h)))))) gw_wsX110)) (goodIn_sub (fun _ h => List.mem_cons_of_mem _ (List.mem_append_left _ (List.mem_append_left _ (List.mem_append_left _ (List.mem_append_right _ h))))) gw_wsX90))) (goodIn_sub (fun _ h => List.mem_cons_of_mem _ (List.mem_append_right _ h)) (all_fg _))
set_option maxRecDepth 20000 in
theorem gX11_key_X11_requireKey : GoodIn wsX11_key (wsV RX11 298 RX11 yX11_requireKey wsX11_requireKey) := goodIn_app (goodIn_m (mem_cA (List.mem_cons_of_mem _ (List.mem_append_left _ (List.mem_append_left _ (List.mem_append_left _ (List.mem_append_left _ (List.mem_append_left _ (List.mem_of_getElem? (i := 4) rfl))))))) (mem_cA (List.mem_cons_of_mem _ (List.mem_append_left _ (List.mem_append_left _ (List.mem_append_left _ (List.mem_append_left _ (List.mem_append_left _ (List.mem_of_getElem? (i := 5) rfl))))))) (mem_cA (List.mem_cons_of_mem _ (List.mem_append_left _ (List.mem_append_left _ (List.mem_append_left _ (List.mem_append_left _ (List.mem_append_left _ (List.mem_of_getElem? (i := 6) rfl))))))) (mem_cA (List.mem_cons_of_mem _ (List.mem_append_left _ (List.mem_append_left _ (List.mem_append_left _ (List.mem_append_left _ (List.mem_append_left _ (List.mem_of_getElem? (i := 7) rfl))))))) mem_cZ)))) (by decide +kernel)) ggX11_key_X11_requireKey
set_option maxRecDepth 20000 in
theorem ggX11_key_X3_partOf : GoodIn wsX11_key wsX3_partOf := goodIn_ca ((goodIn_r _ [16, 17, 18] rfl (by decide +kernel))) (goodIn_sub (fun _ h => List.mem_cons_of_mem _ (List.mem_append_left _ (List.mem_append_right _ h))) (all_fg _))
set_option maxRecDepth 20000 in
theorem gX11_key_X3_partOf : GoodIn wsX11_key (va_wsS RX11 304 yX3_partOf wsX3_partOf) := goodIn_app (goodIn_m (mem_cA (List.mem_cons_of_mem _ (List.mem_append_left _ (List.mem_append_left _ (List.mem_append_left _ (List.mem_append_left _ (List.mem_append_left _ (List.mem_of_getElem? (i := 12) rfl))))))) (mem_cA (List.mem_cons_of_mem _ (List.mem_append_left _ (List.mem_append_left _ (List.mem_append_left _ (List.mem_append_left _ (List.mem_append_left _ (List.mem_of_getElem? (i := 13) rfl))))))) (mem_cA (List.mem_cons_of_mem _ (List.mem_append_left _ (List.mem_append_left _ (List.mem_append_left _ (List.mem_append_left _ (List.mem_append_left _ (List.mem_of_getElem? (i := 14) rfl))))))) mem_cZ))) (by decide +kernel)) ggX11_key_X3_partOf
theorem dX11_key_0 : decode cX11_key 0 = .ok (.aload_n 0, 1) := by decide +kernel
theorem dX11_key_1 : decode cX11_key 1 = .ok (.iload_n 1, 1) := by decide +kernel
theorem dX11_key_2 : decode cX11_key 2 = .ok (.invokevirtual 298, 3) := by decide +kernel
theorem dX11_key_5 : decode cX11_key 5 = .ok (.iload_n 2, 1) := by decide +kernel
theorem dX11_key_6 : decode cX11_key 6 = .ok (.ifCond .lt 8, 3) := by decide +kernel
theorem dX11_key_9 : decode cX11_key 9 = .ok (.iload_n 2, 1) := by decide +kernel
theorem dX11_key_10 : decode cX11_key 10 = .ok (.iconst 3, 1) := by decide +kernel
theorem dX11_key_11 : decode cX11_key 11 = .ok (.if_icmp .le 11, 3) := by decide +kernel
theorem dX11_key_14 : decode cX11_key 14 = .ok (.new 116, 3) := by decide +kernel
theorem dX11_key_17 : decode cX11_key 17 = .ok (.dup, 1) := by decide +kernel
theorem dX11_key_18 : decode cX11_key 18 = .ok (.invokespecial 118, 3) := by decide +kernel
theorem dX11_key_21 : decode cX11_key 21 = .ok (.athrow, 1) := by decide +kernel
theorem dX11_key_22 : decode cX11_key 22 = .ok (.aload_n 0, 1) := by decide +kernel
theorem dX11_key_23 : decode cX11_key 23 = .ok (.getfield 62, 3) := by decide +kernel
theorem dX11_key_26 : decode cX11_key 26 = .ok (.getfield 301, 3) := by decide +kernel
theorem dX11_key_29 : decode cX11_key 29 = .ok (.iload_n 1, 1) := by decide +kernel
theorem dX11_key_30 : decode cX11_key 30 = .ok (.laload, 1) := by decide +kernel
theorem dX11_key_31 : decode cX11_key 31 = .ok (.iload_n 2, 1) := by decide +kernel
theorem dX11_key_32 : decode cX11_key 32 = .ok (.invokestatic 304, 3) := by decide +kernel
theorem dX11_key_35 : decode cX11_key 35 = .ok (.ireturn, 1) := by decide +kernel
set_option maxRecDepth 20000 in
theorem ggX11_raw_X11_requireKey : GoodIn wsX11_raw wsX11_requireKey := goodIn_ca ((goodIn_ca (goodIn_ca (goodIn_r _ [7, 8, 9, 1, 10] rfl (by decide +kernel)) (goodIn_sub (fun _ h => List.mem_cons_of_mem _ (List.mem_append_left _ (List.mem_append_left _ (List.mem_append_left _ (List.mem_append_left _ (List.mem_append_right _ h)))))) gw_wsX110)) (goodIn_sub (fun _ h => List.mem_cons_of_mem _ (List.mem_append_left _ (List.mem_append_left _ (List.mem_append_left _ (List.mem_append_right _ h))))) gw_wsX90))) (goodIn_sub (fun _ h => List.mem_cons_of_mem _ (List.mem_append_left _ (List.mem_append_right _ h))) (all_fg _))
set_option maxRecDepth 20000 in
theorem gX11_raw_X11_requireKey : GoodIn wsX11_raw (wsV RX11 298 RX11 yX11_requireKey wsX11_requireKey) := goodIn_app (goodIn_m (mem_cA (List.mem_cons_of_mem _ (List.mem_append_left _ (List.mem_append_left _ (List.mem_append_left _ (List.mem_append_left _ (List.mem_append_left _ (List.mem_of_getElem? (i := 2) rfl))))))) (mem_cA (List.mem_cons_of_mem _ (List.mem_append_left _ (List.mem_append_left _ (List.mem_append_left _ (List.mem_append_left _ (List.mem_append_left _ (List.mem_of_getElem? (i := 3) rfl))))))) (mem_cA (List.mem_cons_of_mem _ (List.mem_append_left _ (List.mem_append_left _ (List.mem_append_left _ (List.mem_append_left _ (List.mem_append_left _ (List.mem_of_getElem? (i := 4) rfl))))))) (mem_cA (List.mem_cons_of_mem _ (List.mem_append_left _ (List.mem_append_left _ (List.mem_append_left _ (List.mem_append_left _ (List.mem_append_left _ (List.mem_of_getElem? (i := 5) rfl))))))) mem_cZ)))) (by decide +kernel)) ggX11_raw_X11_requireKey
set_option maxRecDepth 20000 in
theorem ggX11_raw_X11_requireWhat : GoodIn wsX11_raw wsX11_requireWhat := goodIn_ca ((goodIn_r _ [13, 14, 15] rfl (by decide +kernel))) (goodIn_sub (fun _ h => List.mem_cons_of_mem _ (List.mem_append_right _ h)) (all_fg _))
set_option maxRecDepth 20000 in
theorem gX11_raw_X11_requireWhat : GoodIn wsX11_raw (va_wsS RX11 312 yX11_requireWhat wsX11_requireWhat) := goodIn_app (goodIn_m (mem_cA (List.mem_cons_of_mem _ (List.mem_append_left _ (List.mem_append_left _ (List.mem_append_left _ (List.mem_append_left _ (List.mem_append_left _ (List.mem_of_getElem? (i := 10) rfl))))))) (mem_cA (List.mem_cons_of_mem _ (List.mem_append_left _ (List.mem_append_left _ (List.mem_append_left _ (List.mem_append_left _ (List.mem_append_left _ (List.mem_of_getElem? (i := 11) rfl))))))) (mem_cA (List.mem_cons_of_mem _ (List.mem_append_left _ (List.mem_append_left _ (List.mem_append_left _ (List.mem_append_left _ (List.mem_append_left _ (List.mem_of_getElem? (i := 5) rfl))))))) mem_cZ))) (by decide +kernel)) ggX11_raw_X11_requireWhat
theorem dX11_raw_0 : decode cX11_raw 0 = .ok (.aload_n 0, 1) := by decide +kernel
theorem dX11_raw_1 : decode cX11_raw 1 = .ok (.iload_n 1, 1) := by decide +kernel
theorem dX11_raw_2 : decode cX11_raw 2 = .ok (.invokevirtual 298, 3) := by decide +kernel
theorem dX11_raw_5 : decode cX11_raw 5 = .ok (.iload_n 2, 1) := by decide +kernel
theorem dX11_raw_6 : decode cX11_raw 6 = .ok (.invokestatic 312, 3) := by decide +kernel
theorem dX11_raw_9 : decode cX11_raw 9 = .ok (.aload_n 0, 1) := by decide +kernel
theorem dX11_raw_10 : decode cX11_raw 10 = .ok (.getfield 62, 3) := by decide +kernel
theorem dX11_raw_13 : decode cX11_raw 13 = .ok (.getfield 315, 3) := by decide +kernel
theorem dX11_raw_16 : decode cX11_raw 16 = .ok (.iload_n 2, 1) := by decide +kernel
theorem dX11_raw_17 : decode cX11_raw 17 = .ok (.aaload, 1) := by decide +kernel
theorem dX11_raw_18 : decode cX11_raw 18 = .ok (.iload_n 1, 1) := by decide +kernel
theorem dX11_raw_19 : decode cX11_raw 19 = .ok (.laload, 1) := by decide +kernel
theorem dX11_raw_20 : decode cX11_raw 20 = .ok (.lreturn, 1) := by decide +kernel
set_option maxHeartbeats 4000000 in
set_option maxRecDepth 100000 in
theorem s_X11_startAnewS (G : EnvG) (l : Launch) (Φ : Hm) (sz x ca : Nat) (nw : Int32) (rt : Int32) (dw : Int32) (aq : Int32) (xp : Int32) (xb : Int32) (ob : Int64) (sm : Int64) (un : Int64) (nC : Nat) (Fs : Nat → Fl) (pp : Nat → Nat) (nT : Nat) (Ft : Nat → Fl) (pt : Nat → Nat) (t : Nat) (c : Cf) (c0 : Cf) (sn : SN) (uN : UN) (qn : Nat) (qL : Nat → Nat) (qd : Int32) (qp : Nat → Nat) (hx : G.2.2.2 ≤ x) (hI : In G x ca Φ) (hc0 : Φ (x + 80) = some (o_ 4 [.ref (x + 3), .ref (x + 74), .ref (x + 81), .ref (x + 95), .int nw, .int rt, .int dw, .int aq, .int xp, .int xb, .long ob, .long sm, .long un])) (hc1 : Φ (x + 81) = some (o_ 6 [.ref (x + 82), .int (nI nC)])) (hc2 : Φ (x + 95) = some (o_ 6 [.ref (x + 96), .int (nI nT)])) (hcf0 : TbC G x nC 99 Fs pp Φ) (hcf1 : TbT G x nT 99 Ft pt Φ) (hcf2 : CfP G x 25 t 4 c Φ) (hcf3 : SdP G x c0 sn uN Φ) (hcf4 : QbR G x qn qL qd qp Φ) (ht : t ≤ 4) (had : aq = 0 ∨ aq = 1) : Ct G l yX11_startAnew wsX11_startAnew ({ frames := 4, cells := 0, slots := 0, locals := 89 }) 0 0 [.ref x] Φ sz (fun v Φ1 sz1 => (∃ (s8 : Nat), v = none ∧ Φ1 (x + 80) = some (o_ 4 [.ref (x + 3), .ref (x + 74), .ref (x + 81), .ref (x + 95), .int 0, .int (c 0), .int 1, .int 0, .int 0, .int 0, .long 0, .long 0, .long 0]) ∧ Φ1 (x + 81) = some (o_ 6 [.ref (x + 82), .int (nI 0)]) ∧ Φ1 (x + 95) = some (o_ 6 [.ref (x + 96), .int (nI 0)]) ∧ CfA G x t s8 c Φ1 ∧ TbC G x 0 99 Fz pp Φ1 ∧ TbT G x 0 99 Fz pt Φ1 ∧ SdP G x c ((fun _ => 0), sn.2.1, 0, 0, 0) uZ0 Φ1 ∧ QbR G x 0 (fun _ => 0) 0 qp Φ1) ∧ sz1 = sz ∧ In G x (ca) Φ1 ∧ Fr x (fun j9 => (3 ≤ j9 ∧ j9 < 24) ∨ (46 ≤ j9 ∧ j9 < 149)) Φ Φ1) := by
  refine Ct.of (cc := cX11_startAnew) (maxL := 1) (ret := none) (by decide) rfl (Nat.le_of_ble_eq_true rfl) ?_
  intro p9 e9 s9 m9 w9 t9 k9 B
  show Z p9 l e9 _ s9 m9 _ w9 t9 k9 _ G 1 0 [(0, .ref x)] [] Φ sz 0 0
  refine z_aload_n B dX11_startAnew_0 rfl 0 rfl ?_
  have h_1 := in0 (k := 0) hI rfl
  have h_2 : Φ x = some (o_ 13 [.ref (x + 1), .ref (x + 3), .ref (x + 24), .ref (x + 46), .ref (x + 74), .ref (x + 80), .ref (x + 132), .ref (x + 121)]) := h_1
  refine z_get (ref := "FlowExporter") (C := RX11) (T := TX11) (N := 8) (ci := 13) (v := .ref (x + 3)) B hu_X11_startAnew_X11 rfl 1 (Nat.le_of_ble_eq_true rfl) hv_X11_startAnew_21 rfl h_2 rfl dX11_startAnew_1 ?_
  refine z_aload_n B dX11_startAnew_4 rfl 0 rfl ?_
  refine z_get (ref := "FlowExporter") (C := RX11) (T := TX11) (N := 8) (ci := 13) (v := .ref (x + 24)) B hu_X11_startAnew_X11 rfl 2 (Nat.le_of_ble_eq_true rfl) hv_X11_startAnew_30 rfl h_2 rfl dX11_startAnew_5 ?_
  obtain ⟨v_1, v_2, v_3, v_4, v_5, v_6, h_3⟩ := in10 (k := 24) hI rfl
  have h_4 : Φ (x + 24) = some (o_ 8 [.ref (x + 25), .int v_1, .int v_2, .ref (x + 1), .int v_3, .int v_4, .int v_5, .int v_6]) := h_3
  refine z_get (ref := "FlowExporter$Parser") (C := RX6) (T := TX6) (N := 8) (ci := 8) (v := .ref (x + 25)) B hu_X11_startAnew_X6 rfl 0 (Nat.le_of_ble_eq_true rfl) hv_X11_startAnew_82 rfl h_4 rfl dX11_startAnew_8 ?_
  obtain ⟨v_7, v_8, h_5⟩ := in3 (k := 3) hI rfl
  have h_6 : Φ (x + 3) = some (o_ 3 [.ref (x + 4), .ref (x + 5), .ref (x + 6), .ref (x + 7), .int v_7, .int v_8]) := h_5
  refine z_callV (As := [.ref (x + 25)]) (rest := []) B (s_X1_copyFromF G l Φ sz x (ca) t c hx hI hcf2 (show t ≤ 4 by omega)) (cwV 1 B.1.2.2.2.2 gX11_startAnew_X1_copyFrom rfl rfl rfl (by decide +kernel) ⟨Nat.le_of_ble_eq_true rfl, Nat.le_of_ble_eq_true rfl⟩) h_6 rfl rfl rfl rfl (Nat.le_of_ble_eq_true rfl) dX11_startAnew_11 ⟨Nat.le_of_ble_eq_true rfl, Nat.le_of_ble_eq_true rfl⟩ (fun r_1 Φ1 sz1 st1 hp1 hs1 => ?_)
  obtain ⟨⟨rfl, hcg1, hcg2, s_1, b_1, e_1, hE1⟩, hq1, hI1, hF1⟩ := hp1
  subst sz1
  replace hs1 : st1 = [] := hs1
  subst st1
  replace hI1 : In G x (ca) Φ1 := hI1
  have hcg3 : CfA G x t s_1 c Φ1 := ⟨hcg1, ⟨b_1, e_1⟩, hE1⟩
  refine z_aload_n B dX11_startAnew_14 rfl 0 rfl ?_
  have h_7 : Φ1 x = some (o_ 13 [.ref (x + 1), .ref (x + 3), .ref (x + 24), .ref (x + 46), .ref (x + 74), .ref (x + 80), .ref (x + 132), .ref (x + 121)]) := ((hF1 x fq_386).trans h_2)
  refine z_get (ref := "FlowExporter") (C := RX11) (T := TX11) (N := 8) (ci := 13) (v := .ref (x + 46)) B hu_X11_startAnew_X11 rfl 3 (Nat.le_of_ble_eq_true rfl) hv_X11_startAnew_37 rfl h_7 rfl dX11_startAnew_15 ?_
  obtain ⟨n_1, v_9, h_8, b_2⟩ := in11 (k := 46) hI1 rfl
  have h_9 : Φ1 (x + 46) = some (o_ 9 [.ref (x + 47), .int (nI n_1), .int v_9]) := h_8
  have hcg4 : QbR G x qn qL qd qp Φ1 := (QbR.frw hcf4 hF1 (fun j9 h7 => by have h6 : 3 ≤ j9 ∧ j9 < 24 := h7; omega))
  refine z_callV (As := []) (rest := []) B (s_X7_clearX G l Φ1 sz x (ca) qn qL qd qp hx hI1 hcg4) (cwV 0 B.1.2.2.2.2 gX11_startAnew_X7_clear rfl rfl rfl (by decide +kernel) ⟨Nat.le_of_ble_eq_true rfl, Nat.le_of_ble_eq_true rfl⟩) h_9 rfl rfl rfl rfl (Nat.le_of_ble_eq_true rfl) dX11_startAnew_18 ⟨Nat.le_of_ble_eq_true rfl, Nat.le_of_ble_eq_true rfl⟩ (fun r_2 Φ2 sz2 st2 hp2 hs2 => ?_)
  obtain ⟨⟨rfl, hcg5⟩, hq2, hI2, hF2⟩ := hp2
  subst sz2
  replace hs2 : st2 = [] := hs2
  subst st2
  replace hI2 : In G x (ca) Φ2 := hI2
  refine z_aload_n B dX11_startAnew_21 rfl 0 rfl ?_
  have h_10 : Φ2 x = some (o_ 13 [.ref (x + 1), .ref (x + 3), .ref (x + 24), .ref (x + 46), .ref (x + 74), .ref (x + 80), .ref (x + 132), .ref (x + 121)]) := ((hF2 x fq_388).trans h_7)
  refine z_get (ref := "FlowExporter") (C := RX11) (T := TX11) (N := 8) (ci := 13) (v := .ref (x + 74)) B hu_X11_startAnew_X11 rfl 4 (Nat.le_of_ble_eq_true rfl) hv_X11_startAnew_46 rfl h_10 rfl dX11_startAnew_22 ?_
  have hcg6 : SdP G x c0 sn uN Φ2 := (SdP.fr (SdP.fr hcf3 hF1 (fun j9 h7 => by have h6 : 3 ≤ j9 ∧ j9 < 24 := h7; omega)) hF2 (fun j9 h7 => by have h6 : j9 = 46 := h7; omega))
  obtain ⟨f_1, h_11, h_12, h_13, h_14, h_15, h_16, h_17⟩ := hcg6
  refine z_callV (As := []) (rest := []) B (s_X8_clearX G l Φ2 sz x (ca) uN.2.1 sn.2.2.1 sn.2.2.2.1 sn.2.2.2.2 (plN c0 uN.2.2 uN.2.1) sn.1 hx hI2 h_11 h_12 h_16 h_15) (cwV 0 B.1.2.2.2.2 gX11_startAnew_X8_clear rfl rfl rfl (by decide +kernel) ⟨Nat.le_of_ble_eq_true rfl, Nat.le_of_ble_eq_true rfl⟩) h_11 rfl rfl rfl rfl (Nat.le_of_ble_eq_true rfl) dX11_startAnew_25 ⟨Nat.le_of_ble_eq_true rfl, Nat.le_of_ble_eq_true rfl⟩ (fun r_3 Φ3 sz3 st3 hp3 hs3 => ?_)
  obtain ⟨⟨rfl, h_18, h_19, h_20⟩, hq3, hI3, hF3⟩ := hp3
  subst sz3
  replace hs3 : st3 = [] := hs3
  subst st3
  replace hI3 : In G x (ca) Φ3 := hI3
  have h_21 : Φ3 (x + 77) = some (ai_ G 12 f_1) := ((hF3 (x + 77) fq_775).trans h_13)
  have h_22 : Φ3 (x + 79) = some (ai_ G 4 sn.2.1) := ((hF3 (x + 79) fq_776).trans h_17)
  have hcg7 : SdP G x c ((fun _ => 0), sn.2.1, 0, 0, 0) uZ0 Φ3 := ⟨f_1, h_18, h_19, h_21, fun j9 h9 => absurd h9 (Nat.not_lt_zero j9), Nat.zero_le 12, h_20, h_22⟩
  refine z_aload_n B dX11_startAnew_28 rfl 0 rfl ?_
  have h_23 : Φ3 x = some (o_ 13 [.ref (x + 1), .ref (x + 3), .ref (x + 24), .ref (x + 46), .ref (x + 74), .ref (x + 80), .ref (x + 132), .ref (x + 121)]) := ((hF3 x fq_778).trans h_10)
  refine z_get (ref := "FlowExporter") (C := RX11) (T := TX11) (N := 8) (ci := 13) (v := .ref (x + 80)) B hu_X11_startAnew_X11 rfl 5 (Nat.le_of_ble_eq_true rfl) hv_X11_startAnew_55 rfl h_23 rfl dX11_startAnew_29 ?_
  have h_24 : Φ3 (x + 80) = some (o_ 4 [.ref (x + 3), .ref (x + 74), .ref (x + 81), .ref (x + 95), .int nw, .int rt, .int dw, .int aq, .int xp, .int xb, .long ob, .long sm, .long un]) := ((hF3 (x + 80) fq_772).trans ((hF2 (x + 80) fq_393).trans ((hF1 (x + 80) fq_392).trans hc0)))
  have h_25 : Φ3 (x + 81) = some (o_ 6 [.ref (x + 82), .int (nI nC)]) := ((hF3 (x + 81) fq_773).trans ((hF2 (x + 81) fq_780).trans ((hF1 (x + 81) fq_779).trans hc1)))
  have h_26 : Φ3 (x + 95) = some (o_ 6 [.ref (x + 96), .int (nI nT)]) := ((hF3 (x + 95) fq_783).trans ((hF2 (x + 95) fq_782).trans ((hF1 (x + 95) fq_781).trans hc2)))
  have hcg8 : TbC G x nC 99 Fs pp Φ3 := (TbC.fr (TbC.fr (TbC.fr hcf0 hF1 (fun j9 h7 => fq_784 j9 h7)) hF2 (fun j9 h7 => fq_785 j9 h7)) hF3 (fun j9 h7 => fq_774 j9 h7))
  have hcg9 : TbT G x nT 99 Ft pt Φ3 := (TbT.fr (TbT.fr (TbT.fr hcf1 hF1 (fun j9 h7 => fq_786 j9 h7)) hF2 (fun j9 h7 => fq_787 j9 h7)) hF3 (fun j9 h7 => fq_788 j9 h7))
  have hcg10 : CfA G x t s_1 c Φ3 := (CfA.fr (CfA.fr hcg3 hF2 (fun j9 h7 => by have h6 : j9 = 46 := h7; intros; omega)) hF3 (fun j9 h7 => by have h6 : j9 = 74 ∨ (j9 = 75 ∨ j9 = 78) := h7; intros; omega))
  refine z_callV (As := []) (rest := []) B (s_X2_clearX G l Φ3 sz x (ca) nw rt dw aq xp xb ob sm un nC Fs pp nT Ft pt t s_1 c hx hI3 h_24 h_25 h_26 hcg8 hcg9 hcg10 had) (cwV 0 B.1.2.2.2.2 gX11_startAnew_X2_clear rfl rfl rfl (by decide +kernel) ⟨Nat.le_of_ble_eq_true rfl, Nat.le_of_ble_eq_true rfl⟩) h_24 rfl rfl rfl rfl (Nat.le_of_ble_eq_true rfl) dX11_startAnew_32 ⟨Nat.le_of_ble_eq_true rfl, Nat.le_of_ble_eq_true rfl⟩ (fun r_4 Φ4 sz4 st4 hp4 hs4 => ?_)
  obtain ⟨⟨rfl, h_27, h_28, h_29, hcg11, hcg12⟩, hq4, hI4, hF4⟩ := hp4
  subst sz4
  replace hs4 : st4 = [] := hs4
  subst st4
  replace hI4 : In G x (ca) Φ4 := hI4
  refine z_aload_n B dX11_startAnew_35 rfl 0 rfl ?_
  have h_30 : Φ4 x = some (o_ 13 [.ref (x + 1), .ref (x + 3), .ref (x + 24), .ref (x + 46), .ref (x + 74), .ref (x + 80), .ref (x + 132), .ref (x + 121)]) := ((hF4 x fq_395).trans h_23)
  refine z_get (ref := "FlowExporter") (C := RX11) (T := TX11) (N := 8) (ci := 13) (v := .ref (x + 121)) B hu_X11_startAnew_X11 rfl 7 (Nat.le_of_ble_eq_true rfl) hv_X11_startAnew_62 rfl h_30 rfl dX11_startAnew_36 ?_
  refine z_iconst (v := 0) B dX11_startAnew_39 rfl ?_
  obtain ⟨n_2, h_31, b_3⟩ := in20 (k := 121) hI4 rfl
  have h_32 : Φ4 (x + 121) = some (o_ 11 [.ref (x + 122), .ref (x + 123), .ref (x + 126), .ref (x + 129), .int (nI n_2)]) := h_31
  refine z_put (ref := "FlowExporter$Sums") (C := RX9) (T := TX9) (N := 5) (ci := 11) (v := .int 0) B hu_X11_startAnew_X9 tyX9 tyX9_ok nmX9 rfl 4 (Nat.le_of_ble_eq_true rfl) hv_X11_startAnew_92 rfl (Or.inl rfl) h_32 (Nat.le_trans hx (Nat.le_add_right x 121)) rfl rfl (Nat.le_of_ble_eq_true rfl) dX11_startAnew_40 (fun Φ5 hΦ1 => ?_)
  have h_33 : Φ5 (x + 121) = some (o_ 11 [.ref (x + 122), .ref (x + 123), .ref (x + 126), .ref (x + 129), .int 0]) := fset_at hΦ1
  have hI5 : In G x (ca) Φ5 := In.put (k := 121) hI4 hΦ1 (ok20 (k := 121) rfl ⟨0, rfl, (show 0 ≤ 24 by omega)⟩)
  refine z_aload_n B dX11_startAnew_43 rfl 0 rfl ?_
  have h_34 : Φ5 x = some (o_ 13 [.ref (x + 1), .ref (x + 3), .ref (x + 24), .ref (x + 46), .ref (x + 74), .ref (x + 80), .ref (x + 132), .ref (x + 121)]) := ((fset_fr hΦ1 (ne_off (x := x) (i := 0) (j := 121) rfl)).trans h_30)
  refine z_get (ref := "FlowExporter") (C := RX11) (T := TX11) (N := 8) (ci := 13) (v := .ref (x + 132)) B hu_X11_startAnew_X11 rfl 6 (Nat.le_of_ble_eq_true rfl) hv_X11_startAnew_71 rfl h_34 rfl dX11_startAnew_44 ?_
  obtain ⟨n_3, v_10, v_11, h_35, b_4⟩ := in25 (k := 132) hI5 rfl
  have h_36 : Φ5 (x + 132) = some (o_ 2 [.ref (x + 3), .ref (x + 121), .ref (x + 133), .ref (x + 134), .ref (x + 135), .ref (x + 137), .ref (x + 138), .ref (x + 139), .ref (x + 140), .int (nI n_3), .int v_10, .int v_11]) := h_35
  refine z_callV (As := []) (rest := []) B (s_X0_clear G l Φ5 sz x (ca)  hx hI5 ) (cwV 0 B.1.2.2.2.2 gX11_startAnew_X0_clear rfl rfl rfl (by decide +kernel) ⟨Nat.le_of_ble_eq_true rfl, Nat.le_of_ble_eq_true rfl⟩) h_36 rfl rfl rfl rfl (Nat.le_of_ble_eq_true rfl) dX11_startAnew_47 ⟨Nat.le_of_ble_eq_true rfl, Nat.le_of_ble_eq_true rfl⟩ (fun r_5 Φ6 sz5 st5 hp5 hs5 => ?_)
  obtain ⟨rfl, hq5, hI6, hF5⟩ := hp5
  subst sz5
  replace hs5 : st5 = [] := hs5
  subst st5
  replace hI6 : In G x (ca) Φ6 := hI6
  have hcg13 : CfA G x t s_1 c Φ6 := (CfA.fr (CfA.off (k := 121) (CfA.fr hcg10 hF4 (fun j9 h7 => by have h6 : j9 = 80 ∨ j9 = 81 ∨ j9 = 95 := h7; intros; omega)) hΦ1 (by intros; omega)) hF5 (fun j9 h7 => by have h6 : 132 ≤ j9 ∧ j9 < 149 := h7; intros; omega))
  have h_37 : Φ6 (x + 80) = some (o_ 4 [.ref (x + 3), .ref (x + 74), .ref (x + 81), .ref (x + 95), .int 0, .int (c 0), .int 1, .int 0, .int 0, .int 0, .long 0, .long 0, .long 0]) := ((hF5 (x + 80) fq_400).trans ((fset_fr hΦ1 (ne_off (x := x) (i := 80) (j := 121) rfl)).trans h_27))
  have h_38 : Φ6 (x + 81) = some (o_ 6 [.ref (x + 82), .int (nI 0)]) := ((hF5 (x + 81) fq_789).trans ((fset_fr hΦ1 (ne_off (x := x) (i := 81) (j := 121) rfl)).trans h_28))
  have h_39 : Φ6 (x + 95) = some (o_ 6 [.ref (x + 96), .int (nI 0)]) := ((hF5 (x + 95) fq_790).trans ((fset_fr hΦ1 (ne_off (x := x) (i := 95) (j := 121) rfl)).trans h_29))
  have hcg14 : TbC G x 0 99 Fz pp Φ6 := (TbC.fr (TbC.off (k := 121) hcg11 hΦ1 (by omega)) hF5 (fun j9 h7 => fq_791 j9 h7))
  have hcg15 : TbT G x 0 99 Fz pt Φ6 := (TbT.fr (TbT.off (k := 121) hcg12 hΦ1 (by omega)) hF5 (fun j9 h7 => fq_792 j9 h7))
  have hcg16 : SdP G x c ((fun _ => 0), sn.2.1, 0, 0, 0) uZ0 Φ6 := (SdP.fr (SdP.off (k := 121) (SdP.fr hcg7 hF4 (fun j9 h7 => by have h6 : j9 = 80 ∨ j9 = 81 ∨ j9 = 95 := h7; omega)) hΦ1 (by omega)) hF5 (fun j9 h7 => by have h6 : 132 ≤ j9 ∧ j9 < 149 := h7; omega))
  have hcg17 : QbR G x 0 (fun _ => 0) 0 qp Φ6 := (QbR.frw (QbR.offw (k := 121) (QbR.frw (QbR.frw hcg5 hF3 (fun j9 h7 => by have h6 : j9 = 74 ∨ (j9 = 75 ∨ j9 = 78) := h7; omega)) hF4 (fun j9 h7 => by have h6 : j9 = 80 ∨ j9 = 81 ∨ j9 = 95 := h7; omega)) hΦ1 (by omega)) hF5 (fun j9 h7 => by have h6 : 132 ≤ j9 ∧ j9 < 149 := h7; omega))
  exact z_ret_v B dX11_startAnew_50 ⟨⟨s_1, rfl, h_37, h_38, h_39, hcg13, hcg14, hcg15, hcg16, hcg17⟩, rfl, hI6, (fun b9 h9 => ((hF5 b9 (fun j9 h8 h7 => h9 j9 h8 (fq_405 j9 h7))).trans ((fset_fr hΦ1 (fun h8 => h9 (121) h8 (show (3 ≤ 121 ∧ 121 < 24) ∨ (46 ≤ 121 ∧ 121 < 149) by decide))).trans ((hF4 b9 (fun j9 h8 h7 => h9 j9 h8 (fq_404 j9 h7))).trans ((hF3 b9 (fun j9 h8 h7 => h9 j9 h8 (fq_793 j9 h7))).trans ((hF2 b9 (fun j9 h8 h7 => h9 j9 h8 (fq_402 j9 h7))).trans ((hF1 b9 (fun j9 h8 h7 => h9 j9 h8 (fq_401 j9 h7))).trans rfl)))))))⟩

theorem fq_794 {x : Nat} : ∀ j9 : Nat, x + 81 = x + j9 → (24 ≤ j9 ∧ j9 < 46) → False := by
  intro j9 h1 h2
  omega

theorem fq_795 {x : Nat} : ∀ j9 : Nat, x + 95 = x + j9 → (24 ≤ j9 ∧ j9 < 46) → False := by
  intro j9 h1 h2
  omega

theorem fq_796 : ∀ j9 : Nat, (24 ≤ j9 ∧ j9 < 46) → ¬ (82 ≤ j9 ∧ j9 < 95) := by
  intro j9 h
  omega

theorem fq_797 : ∀ j9 : Nat, (24 ≤ j9 ∧ j9 < 46) → ¬ (96 ≤ j9 ∧ j9 < 121) := by
  intro j9 h
  omega

set_option maxHeartbeats 4000000 in
set_option maxRecDepth 100000 in
theorem s_X11_loadS (G : EnvG) (l : Launch) (Φ : Hm) (sz x ca : Nat) (n : Nat) (f : Nat → Int32) (co : Int32) (po : Int32) (nx : Nat) (ki : Nat) (sa : Nat) (nu : Nat) (nw : Int32) (rt : Int32) (dw : Int32) (aq : Int32) (xp : Int32) (xb : Int32) (ob : Int64) (sm : Int64) (un : Int64) (nC : Nat) (Fs : Nat → Fl) (pp : Nat → Nat) (nT : Nat) (Ft : Nat → Fl) (pt : Nat → Nat) (t : Nat) (s : Nat) (c : Cf) (sn : SN) (qn : Nat) (qL : Nat → Nat) (qd : Int32) (qp : Nat → Nat) (hx : G.2.2.2 ≤ x) (hI : In G x ca Φ) (hc0 : Φ (x + 1) = some (o_ 7 [.ref (x + 2), .int (nI n)])) (hc1 : Φ (x + 2) = some (ab_ G 700 f)) (hc2 : Φ (x + 24) = some (o_ 8 [.ref (x + 25), .int co, .int po, .ref (x + 1), .int (nI nx), .int (nI ki), .int (nI sa), .int (nI nu)])) (hc3 : Φ (x + 80) = some (o_ 4 [.ref (x + 3), .ref (x + 74), .ref (x + 81), .ref (x + 95), .int nw, .int rt, .int dw, .int aq, .int xp, .int xb, .long ob, .long sm, .long un])) (hc4 : Φ (x + 81) = some (o_ 6 [.ref (x + 82), .int (nI nC)])) (hc5 : Φ (x + 95) = some (o_ 6 [.ref (x + 96), .int (nI nT)])) (hcf0 : TbC G x nC 99 Fs pp Φ) (hcf1 : TbT G x nT 99 Ft pt Φ) (hcf2 : CfA G x t s c Φ) (hcf3 : SdP G x c sn uZ0 Φ) (hcf4 : QbR G x qn qL qd qp Φ) (hn : n ≤ 700) (hnC : nC ≤ 12) (hnT : nT ≤ 24) (had : aq = 0 ∨ aq = 1) : Ct G l yX11_load wsX11_load ({ frames := 9, cells := 0, slots := 0, locals := 198 }) 0 0 [.ref x] Φ sz (fun v Φ1 sz1 => ((∃ (co8 po8 : Int32) (nx8 ki8 sa8 nu8 : Nat) (nw8 rt8 dw8 aq8 xp8 xb8 : Int32) (ob8 sm8 un8 : Int64) (t8 s8 : Nat) (c8 : Cf) (n8 : Nat) (F8 : Nat → Fl) (p8 : Nat → Nat) (m8 : Nat) (G8 : Nat → Fl) (q8 : Nat → Nat), Φ1 (x + 24) = some (o_ 8 [.ref (x + 25), .int co8, .int po8, .ref (x + 1), .int (nI nx8), .int (nI ki8), .int (nI sa8), .int (nI nu8)]) ∧ Φ1 (x + 1) = some (o_ 7 [.ref (x + 2), .int (nI 0)]) ∧ Φ1 (x + 80) = some (o_ 4 [.ref (x + 3), .ref (x + 74), .ref (x + 81), .ref (x + 95), .int nw8, .int rt8, .int dw8, .int aq8, .int xp8, .int xb8, .long ob8, .long sm8, .long un8]) ∧ LdW (bA f n) v co8 po8 nw aq ob nw8 aq8 ob8 ∧ CfA G x t8 s8 c8 Φ1 ∧ CfL (bA f n) c c8 ∧ Φ1 (x + 81) = some (o_ 6 [.ref (x + 82), .int (nI n8)]) ∧ Φ1 (x + 95) = some (o_ 6 [.ref (x + 96), .int (nI m8)]) ∧ TbC G x n8 99 F8 p8 Φ1 ∧ TbT G x m8 99 G8 q8 Φ1 ∧ LdX (bA f n) ((nC, Fs), (nT, Ft), rt, dw, xp - xb, sm, un) c8 ((n8, F8), (m8, G8), rt8, dw8, xp8 - xb8, sm8, un8) ∧ n8 ≤ 12 ∧ m8 ≤ 24) ∧ ∃ (s9 : SN) (qn8 : Nat) (qL8 : Nat → Nat) (qd8 : Int32), SdP G x c s9 uZ0 Φ1 ∧ QbR G x qn8 qL8 qd8 qp Φ1 ∧ Ld5 (bA f n) (sn, qn, qL, qd) (s9, qn8, qL8, qd8)) ∧ sz1 = sz ∧ In G x (ca) Φ1 ∧ Fr x (fun j9 => 1 ≤ j9 ∧ ¬ j9 = 2 ∧ j9 < 149) Φ Φ1) := by
  refine Ct.of (cc := cX11_load) (maxL := 2) (ret := (some .int)) (by decide) rfl (Nat.le_of_ble_eq_true rfl) ?_
  intro p9 e9 s9 m9 w9 t9 k9 B
  show Z p9 l e9 _ s9 m9 _ w9 t9 k9 _ G 2 0 [(0, .ref x)] [] Φ sz 0 0
  refine z_aload_n B dX11_load_0 rfl 0 rfl ?_
  have h_1 := in0 (k := 0) hI rfl
  have h_2 : Φ x = some (o_ 13 [.ref (x + 1), .ref (x + 3), .ref (x + 24), .ref (x + 46), .ref (x + 74), .ref (x + 80), .ref (x + 132), .ref (x + 121)]) := h_1
  refine z_get (ref := "FlowExporter") (C := RX11) (T := TX11) (N := 8) (ci := 13) (v := .ref (x + 24)) B hu_X11_load_X11 rfl 2 (Nat.le_of_ble_eq_true rfl) hv_X11_load_30 rfl h_2 rfl dX11_load_1 ?_
  refine z_callV (As := []) (rest := []) B (s_X6_readText G l Φ sz x (ca) n f co po nx ki sa nu hx hI hc0 hc1 hc2 (show n ≤ 700 by omega)) (cwV 0 B.1.2.2.2.2 gX11_load_X6_readText rfl rfl rfl (by decide +kernel) ⟨Nat.le_of_ble_eq_true rfl, Nat.le_of_ble_eq_true rfl⟩) hc2 rfl rfl rfl rfl (Nat.le_of_ble_eq_true rfl) dX11_load_4 ⟨Nat.le_of_ble_eq_true rfl, Nat.le_of_ble_eq_true rfl⟩ (fun r_1 Φ1 sz1 st1 hp1 hs1 => ?_)
  obtain ⟨ha1, hq1, hI1, hF1⟩ := hp1
  subst sz1
  replace hI1 : In G x (ca) Φ1 := hI1
  rcases ha1 with ⟨m_1, e_1, k_1, s_1, u_1, q_1, t_1, c_1, rfl, hN1, h_3, b_1, hcg1⟩ | ⟨er_1, s_2, e_2, k_2, u_2, m_2, c_2, rfl, hN2, he1, h_4⟩
  · replace b_1 : m_1 ≤ 700 := b_1
    replace hs1 : st1 = [.int (nI m_1)] := hs1
    subst st1
    refine z_istore_n (lv' := [(1, .int (nI m_1)), (0, .ref x)]) B dX11_load_7 rfl (Nat.le_of_ble_eq_true rfl) rfl ?_
    refine z_aload_n B dX11_load_8 rfl 1 rfl ?_
    have h_5 : Φ1 x = some (o_ 13 [.ref (x + 1), .ref (x + 3), .ref (x + 24), .ref (x + 46), .ref (x + 74), .ref (x + 80), .ref (x + 132), .ref (x + 121)]) := ((hF1 x fq_622).trans h_2)
    refine z_get (ref := "FlowExporter") (C := RX11) (T := TX11) (N := 8) (ci := 13) (v := .ref (x + 1)) B hu_X11_load_X11 rfl 0 (Nat.le_of_ble_eq_true rfl) hv_X11_load_14 rfl h_5 rfl dX11_load_9 ?_
    refine z_iconst (v := 0) B dX11_load_12 rfl ?_
    have h_6 : Φ1 (x + 1) = some (o_ 7 [.ref (x + 2), .int (nI n)]) := ((hF1 (x + 1) fq_575).trans hc0)
    refine z_put (ref := "FlowExporter$Message") (C := RX5) (T := TX5) (N := 2) (ci := 7) (v := .int 0) B hu_X11_load_X5 tyX5 tyX5_ok nmX5 rfl 1 (Nat.le_of_ble_eq_true rfl) hv_X11_load_97 rfl (Or.inl rfl) h_6 (Nat.le_trans hx (Nat.le_add_right x 1)) rfl rfl (Nat.le_of_ble_eq_true rfl) dX11_load_13 (fun Φ2 hΦ1 => ?_)
    have h_7 : Φ2 (x + 1) = some (o_ 7 [.ref (x + 2), .int 0]) := fset_at hΦ1
    have hI2 : In G x (ca) Φ2 := In.put (k := 1) hI1 hΦ1 (ok1 (k := 1) rfl ⟨0, rfl, (show 0 ≤ 700 by omega)⟩)
    refine z_iload_n B dX11_load_16 rfl 0 rfl ?_
    refine z_if_lt (tgt := 24) B dX11_load_17 rfl (fun c_3 => ?_) (fun c_3 => ?_)
    · have e_3 : m_1 < 0 := (nI_ltI (a := m_1) (b := 0) (by omega) (by omega)).mp c_3
      refine z_iload_n B dX11_load_24 rfl 0 rfl ?_
      have h_8 : Φ2 (x + 24) = some (o_ 8 [.ref (x + 25), .int 0, .int (-1), .ref (x + 1), .int (nI e_1), .int (nI k_1), .int (nI s_1), .int (nI u_1)]) := ((fset_fr hΦ1 (ne_off (x := x) (i := 24) (j := 1) rfl)).trans h_3)
      have h_9 : Φ2 (x + 80) = some (o_ 4 [.ref (x + 3), .ref (x + 74), .ref (x + 81), .ref (x + 95), .int nw, .int rt, .int dw, .int aq, .int xp, .int xb, .long ob, .long sm, .long un]) := ((fset_fr hΦ1 (ne_off (x := x) (i := 80) (j := 1) rfl)).trans ((hF1 (x + 80) fq_626).trans hc3))
      exact z_ret_i B dX11_load_25 ⟨((show False by omega).elim), rfl, hI2, (fun b9 h9 => ((fset_fr hΦ1 (fun h8 => h9 (1) h8 (show 1 ≤ 1 ∧ ¬ 1 = 2 ∧ 1 < 149 by decide))).trans ((hF1 b9 (fun j9 h8 h7 => h9 j9 h8 (fq_627 j9 h7))).trans rfl)))⟩
    · have e_4 : ¬ (m_1 < 0) := fun h9 => c_3 ((nI_ltI (a := m_1) (b := 0) (by omega) (by omega)).mpr h9)
      refine z_aload_n B dX11_load_20 rfl 1 rfl ?_
      have hcg2 : CfP G x 25 t_1 4 (finC c_1) Φ2 := (CfP.off (k := 1) hcg1 hΦ1 (by intros; omega))
      have b_2 := hcg2.2.1
      have h_10 : Φ2 (x + 80) = some (o_ 4 [.ref (x + 3), .ref (x + 74), .ref (x + 81), .ref (x + 95), .int nw, .int rt, .int dw, .int aq, .int xp, .int xb, .long ob, .long sm, .long un]) := ((fset_fr hΦ1 (ne_off (x := x) (i := 80) (j := 1) rfl)).trans ((hF1 (x + 80) fq_626).trans hc3))
      have h_11 : Φ2 (x + 81) = some (o_ 6 [.ref (x + 82), .int (nI nC)]) := ((fset_fr hΦ1 (ne_off (x := x) (i := 81) (j := 1) rfl)).trans ((hF1 (x + 81) fq_794).trans hc4))
      have h_12 : Φ2 (x + 95) = some (o_ 6 [.ref (x + 96), .int (nI nT)]) := ((fset_fr hΦ1 (ne_off (x := x) (i := 95) (j := 1) rfl)).trans ((hF1 (x + 95) fq_795).trans hc5))
      have hcg3 : TbC G x nC 99 Fs pp Φ2 := (TbC.off (k := 1) (TbC.fr hcf0 hF1 (fun j9 h7 => fq_796 j9 h7)) hΦ1 (by omega))
      have hcg4 : TbT G x nT 99 Ft pt Φ2 := (TbT.off (k := 1) (TbT.fr hcf1 hF1 (fun j9 h7 => fq_797 j9 h7)) hΦ1 (by omega))
      have hcg5 : SdP G x c sn uZ0 Φ2 := (SdP.off (k := 1) (SdP.fr hcf3 hF1 (fun j9 h7 => by have h6 : 24 ≤ j9 ∧ j9 < 46 := h7; omega)) hΦ1 (by omega))
      have hcg6 : QbR G x qn qL qd qp Φ2 := (QbR.offw (k := 1) (QbR.frw hcf4 hF1 (fun j9 h7 => by have h6 : 24 ≤ j9 ∧ j9 < 46 := h7; omega)) hΦ1 (by omega))
      have h_13 : Φ2 x = some (o_ 13 [.ref (x + 1), .ref (x + 3), .ref (x + 24), .ref (x + 46), .ref (x + 74), .ref (x + 80), .ref (x + 132), .ref (x + 121)]) := ((fset_fr hΦ1 (ne_off (x := x) (i := 0) (j := 1) rfl)).trans h_5)
      refine z_callV (As := []) (rest := []) B (s_X11_startAnewS G l Φ2 sz x (ca) nw rt dw aq xp xb ob sm un nC Fs pp nT Ft pt t_1 (finC c_1) c sn uZ0 qn qL qd qp hx hI2 h_10 h_11 h_12 hcg3 hcg4 hcg2 hcg5 hcg6 (show t_1 ≤ 4 by omega) had) (cwV 0 B.1.2.2.2.2 gX11_load_X11_startAnew rfl rfl rfl (by decide +kernel) ⟨Nat.le_of_ble_eq_true rfl, Nat.le_of_ble_eq_true rfl⟩) h_13 rfl rfl rfl rfl (Nat.le_of_ble_eq_true rfl) dX11_load_21 ⟨Nat.le_of_ble_eq_true rfl, Nat.le_of_ble_eq_true rfl⟩ (fun r_2 Φ3 sz2 st2 hp2 hs2 => ?_)
      obtain ⟨⟨n_1, rfl, h_14, h_15, h_16, hcg7, hcg8, hcg9, hcg10, hcg11⟩, hq2, hI3, hF2⟩ := hp2
      subst sz2
      replace hs2 : st2 = [] := hs2
      subst st2
      replace hI3 : In G x (ca) Φ3 := hI3
      refine z_iload_n B dX11_load_24 rfl 0 rfl ?_
      have h_17 : Φ3 (x + 24) = some (o_ 8 [.ref (x + 25), .int 0, .int (-1), .ref (x + 1), .int (nI e_1), .int (nI k_1), .int (nI s_1), .int (nI u_1)]) := ((hF2 (x + 24) fq_628).trans ((fset_fr hΦ1 (ne_off (x := x) (i := 24) (j := 1) rfl)).trans h_3))
      have h_18 : Φ3 (x + 1) = some (o_ 7 [.ref (x + 2), .int 0]) := ((hF2 (x + 1) fq_629).trans h_7)
      exact z_ret_i B dX11_load_25 ⟨⟨⟨0, (-1), e_1, k_1, s_1, u_1, 0, (finC c_1) 0, 1, 0, 0, 0, 0, 0, 0, t_1, n_1, finC c_1, 0, Fz, pp, 0, Fz, pt, h_17, (h_18.trans (congrArg (fun w9 : Nat => some (o_ 7 [.ref (x + 2), .int (nI w9)])) (show 0 = 0 by omega))), h_14, Or.inl ⟨_, _, _, rfl, hN1, rfl, rfl, rfl, rfl, rfl⟩, hcg7, Or.inl ⟨_, _, _, hN1, rfl⟩, h_15, h_16, hcg8, hcg9, Or.inl ⟨_, _, _, hN1, rfl⟩, by omega, by omega⟩, ((fun _ => 0), sn.2.1, 0, 0, 0), 0, (fun _ => 0), 0, hcg10, hcg11, Or.inl ⟨_, _, _, hN1, rfl⟩⟩, rfl, hI3, (fun b9 h9 => ((hF2 b9 (fun j9 h8 h7 => h9 j9 h8 (fq_630 j9 h7))).trans ((fset_fr hΦ1 (fun h8 => h9 (1) h8 (show 1 ≤ 1 ∧ ¬ 1 = 2 ∧ 1 < 149 by decide))).trans ((hF1 b9 (fun j9 h8 h7 => h9 j9 h8 (fq_627 j9 h7))).trans rfl))))⟩
  · replace hs1 : st1 = [.int (-2)] := hs1
    subst st1
    refine z_istore_n (lv' := [(1, .int (-2)), (0, .ref x)]) B dX11_load_7 rfl (Nat.le_of_ble_eq_true rfl) rfl ?_
    refine z_aload_n B dX11_load_8 rfl 1 rfl ?_
    have h_19 : Φ1 x = some (o_ 13 [.ref (x + 1), .ref (x + 3), .ref (x + 24), .ref (x + 46), .ref (x + 74), .ref (x + 80), .ref (x + 132), .ref (x + 121)]) := ((hF1 x fq_622).trans h_2)
    refine z_get (ref := "FlowExporter") (C := RX11) (T := TX11) (N := 8) (ci := 13) (v := .ref (x + 1)) B hu_X11_load_X11 rfl 0 (Nat.le_of_ble_eq_true rfl) hv_X11_load_14 rfl h_19 rfl dX11_load_9 ?_
    refine z_iconst (v := 0) B dX11_load_12 rfl ?_
    have h_20 : Φ1 (x + 1) = some (o_ 7 [.ref (x + 2), .int (nI n)]) := ((hF1 (x + 1) fq_575).trans hc0)
    refine z_put (ref := "FlowExporter$Message") (C := RX5) (T := TX5) (N := 2) (ci := 7) (v := .int 0) B hu_X11_load_X5 tyX5 tyX5_ok nmX5 rfl 1 (Nat.le_of_ble_eq_true rfl) hv_X11_load_97 rfl (Or.inl rfl) h_20 (Nat.le_trans hx (Nat.le_add_right x 1)) rfl rfl (Nat.le_of_ble_eq_true rfl) dX11_load_13 (fun Φ4 hΦ2 => ?_)
    have h_21 : Φ4 (x + 1) = some (o_ 7 [.ref (x + 2), .int 0]) := fset_at hΦ2
    have hI4 : In G x (ca) Φ4 := In.put (k := 1) hI1 hΦ2 (ok1 (k := 1) rfl ⟨0, rfl, (show 0 ≤ 700 by omega)⟩)
    refine z_iload_n B dX11_load_16 rfl 0 rfl ?_
    refine z_if_lt (tgt := 24) B dX11_load_17 rfl (fun c_4 => ?_) (fun h9 => absurd (by decide) h9)
    refine z_iload_n B dX11_load_24 rfl 0 rfl ?_
    have h_22 : Φ4 (x + 24) = some (o_ 8 [.ref (x + 25), .int (nI er_1), .int (nI s_2), .ref (x + 1), .int (nI e_2), .int (nI k_2), .int (nI s_2), .int (nI u_2)]) := ((fset_fr hΦ2 (ne_off (x := x) (i := 24) (j := 1) rfl)).trans h_4)
    have h_23 : Φ4 (x + 80) = some (o_ 4 [.ref (x + 3), .ref (x + 74), .ref (x + 81), .ref (x + 95), .int nw, .int rt, .int dw, .int aq, .int xp, .int xb, .long ob, .long sm, .long un]) := ((fset_fr hΦ2 (ne_off (x := x) (i := 80) (j := 1) rfl)).trans ((hF1 (x + 80) fq_626).trans hc3))
    have hcg12 : CfA G x t s c Φ4 := (CfA.off (k := 1) (CfA.fr hcf2 hF1 (fun j9 h7 => by have h6 : 24 ≤ j9 ∧ j9 < 46 := h7; intros; omega)) hΦ2 (by intros; omega))
    have hcg13 : TbC G x nC 99 Fs pp Φ4 := (TbC.off (k := 1) (TbC.fr hcf0 hF1 (fun j9 h7 => fq_796 j9 h7)) hΦ2 (by omega))
    have hcg14 : TbT G x nT 99 Ft pt Φ4 := (TbT.off (k := 1) (TbT.fr hcf1 hF1 (fun j9 h7 => fq_797 j9 h7)) hΦ2 (by omega))
    have h_24 : Φ4 (x + 81) = some (o_ 6 [.ref (x + 82), .int (nI nC)]) := ((fset_fr hΦ2 (ne_off (x := x) (i := 81) (j := 1) rfl)).trans ((hF1 (x + 81) fq_794).trans hc4))
    have h_25 : Φ4 (x + 95) = some (o_ 6 [.ref (x + 96), .int (nI nT)]) := ((fset_fr hΦ2 (ne_off (x := x) (i := 95) (j := 1) rfl)).trans ((hF1 (x + 95) fq_795).trans hc5))
    have hcg15 : SdP G x c sn uZ0 Φ4 := (SdP.off (k := 1) (SdP.fr hcf3 hF1 (fun j9 h7 => by have h6 : 24 ≤ j9 ∧ j9 < 46 := h7; omega)) hΦ2 (by omega))
    have hcg16 : QbR G x qn qL qd qp Φ4 := (QbR.offw (k := 1) (QbR.frw hcf4 hF1 (fun j9 h7 => by have h6 : 24 ≤ j9 ∧ j9 < 46 := h7; omega)) hΦ2 (by omega))
    exact z_ret_i B dX11_load_25 ⟨⟨⟨nI er_1, nI s_2, e_2, k_2, s_2, u_2, nw, rt, dw, aq, xp, xb, ob, sm, un, t, s, c, nC, Fs, pp, nT, Ft, pt, h_22, (h_21.trans (congrArg (fun w9 : Nat => some (o_ 7 [.ref (x + 2), .int (nI w9)])) (show 0 = 0 by omega))), h_23, Or.inr ⟨_, _, _, _, rfl, hN2, he1, rfl, rfl, rfl, rfl, rfl⟩, hcg12, Or.inr ⟨_, _, _, _, hN2, he1, rfl⟩, h_24, h_25, hcg13, hcg14, Or.inr ⟨_, _, _, _, hN2, he1, rfl⟩, by omega, by omega⟩, sn, qn, qL, qd, hcg15, hcg16, Or.inr ⟨_, _, _, _, hN2, he1, rfl⟩⟩, rfl, hI4, (fun b9 h9 => ((fset_fr hΦ2 (fun h8 => h9 (1) h8 (show 1 ≤ 1 ∧ ¬ 1 = 2 ∧ 1 < 149 by decide))).trans ((hF1 b9 (fun j9 h8 h7 => h9 j9 h8 (fq_627 j9 h7))).trans rfl)))⟩

set_option maxHeartbeats 4000000 in
set_option maxRecDepth 100000 in
theorem s_X11_requireWhat2 (G : EnvG) (l : Launch) (hl9 : l.stackTraces = false) (Φ : Hm) (sz x ca : Nat) (a : Int32) (hx : G.2.2.2 ≤ x) (hI : In G x ca Φ)  : CtB G l yX11_requireWhat wsX11_requireWhat ({ frames := 6, cells := 1, slots := 6, locals := 81 }) 1 6 [.int a] Φ sz (fun v Φ1 sz1 => (v = none ∧ ∃ n9 : Nat, n9 < 2 ∧ a = nI n9) ∧ sz1 = sz ∧ In G x (ca) Φ1 ∧ Fr x (fun j9 => False) Φ Φ1) (fun Φ1 => In G x ca Φ1 ∧ Fr x (fun j9 => False) Φ Φ1) [xIA] := by
  refine CtB.of (cc := cX11_requireWhat) (maxL := 1) (ret := none) (by decide) rfl (Nat.le_of_ble_eq_true rfl) ?_
  intro p9 e9 s9 m9 w9 t9 k9 B htab9
  show Z p9 l e9 _ s9 m9 _ w9 t9 k9 _ G 1 0 [(0, .int a)] [] Φ sz 0 0
  refine z_iload_n B dX11_requireWhat_0 rfl 0 rfl ?_
  refine z_if_eq (tgt := 17) B dX11_requireWhat_1 rfl (fun c_1 => ?_) (fun c_1 => ?_)
  · exact zb_ret (Nat.le_of_ble_eq_true rfl) (Nat.le_of_ble_eq_true rfl) (z_ret_v B dX11_requireWhat_17 ⟨⟨rfl, 0, by decide, c_1⟩, rfl, hI, (fun b9 h9 => rfl)⟩)
  · refine z_iload_n B dX11_requireWhat_4 rfl 0 rfl ?_
    refine z_iconst (v := 1) B dX11_requireWhat_5 rfl ?_
    refine z_icmp_eq (tgt := 17) B dX11_requireWhat_6 rfl (fun c_2 => ?_) (fun c_2 => ?_)
    · exact zb_ret (Nat.le_of_ble_eq_true rfl) (Nat.le_of_ble_eq_true rfl) (z_ret_v B dX11_requireWhat_17 ⟨⟨rfl, 1, by decide, c_2⟩, rfl, hI, (fun b9 h9 => rfl)⟩)
    · exact zb_throw (cls := xIA) (ik := 116) (ic := 118) B hl9 htab9 (by decide) ⟨hI, (fun b9 h9 => rfl)⟩ (by decide) (by decide +kernel) (by decide +kernel) (by decide +kernel) (by decide +kernel) (by decide +kernel) (by decide +kernel) (by decide +kernel) dX11_requireWhat_9 dX11_requireWhat_12 dX11_requireWhat_13 dX11_requireWhat_16 ⟨Nat.le_of_ble_eq_true rfl, Nat.le_of_ble_eq_true rfl, Nat.le_of_ble_eq_true rfl, Nat.le_of_ble_eq_true rfl⟩ ⟨Nat.le_of_ble_eq_true rfl, Nat.le_of_ble_eq_true rfl⟩

set_option maxHeartbeats 4000000 in
set_option maxRecDepth 100000 in
theorem s_X11_requireKey2 (G : EnvG) (l : Launch) (hl9 : l.stackTraces = false) (Φ : Hm) (sz x ca : Nat) (a : Int32) (hx : G.2.2.2 ≤ x) (hI : In G x ca Φ)  : CtB G l yX11_requireKey wsX11_requireKey ({ frames := 6, cells := 1, slots := 6, locals := 81 }) 1 6 [.ref x, .int a] Φ sz (fun v Φ1 sz1 => (v = none ∧ ∃ n9 : Nat, n9 < 24 ∧ a = nI n9) ∧ sz1 = sz ∧ In G x (ca) Φ1 ∧ Fr x (fun j9 => False) Φ Φ1) (fun Φ1 => In G x ca Φ1 ∧ Fr x (fun j9 => False) Φ Φ1) [xIO] := by
  refine CtB.of (cc := cX11_requireKey) (maxL := 2) (ret := none) (by decide) rfl (Nat.le_of_ble_eq_true rfl) ?_
  intro p9 e9 s9 m9 w9 t9 k9 B htab9
  show Z p9 l e9 _ s9 m9 _ w9 t9 k9 _ G 2 0 [(0, .ref x), (1, .int a)] [] Φ sz 0 0
  refine z_iload_n B dX11_requireKey_0 rfl 1 rfl ?_
  refine z_if_lt (tgt := 15) B dX11_requireKey_1 rfl (fun c_1 => ?_) (fun c_1 => ?_)
  · exact zb_throw (cls := xIO) (ik := 153) (ic := 155) B hl9 htab9 (by decide) ⟨hI, (fun b9 h9 => rfl)⟩ (by decide) (by decide +kernel) (by decide +kernel) (by decide +kernel) (by decide +kernel) (by decide +kernel) (by decide +kernel) (by decide +kernel) dX11_requireKey_15 dX11_requireKey_18 dX11_requireKey_19 dX11_requireKey_22 ⟨Nat.le_of_ble_eq_true rfl, Nat.le_of_ble_eq_true rfl, Nat.le_of_ble_eq_true rfl, Nat.le_of_ble_eq_true rfl⟩ ⟨Nat.le_of_ble_eq_true rfl, Nat.le_of_ble_eq_true rfl⟩
  · obtain ⟨n_1, e_1, rfl⟩ := nI_of c_1
    refine z_iload_n B dX11_requireKey_4 rfl 1 rfl ?_
    refine z_aload_n B dX11_requireKey_5 rfl 0 rfl ?_
    have h_1 := in0 (k := 0) hI rfl
    have h_2 : Φ x = some (o_ 13 [.ref (x + 1), .ref (x + 3), .ref (x + 24), .ref (x + 46), .ref (x + 74), .ref (x + 80), .ref (x + 132), .ref (x + 121)]) := h_1
    refine z_get (ref := "FlowExporter") (C := RX11) (T := TX11) (N := 8) (ci := 13) (v := .ref (x + 121)) B hu_X11_requireKey_X11 rfl 7 (Nat.le_of_ble_eq_true rfl) hv_X11_requireKey_62 rfl h_2 rfl dX11_requireKey_6 ?_
    obtain ⟨n_2, h_3, b_1⟩ := in20 (k := 121) hI rfl
    have h_4 : Φ (x + 121) = some (o_ 11 [.ref (x + 122), .ref (x + 123), .ref (x + 126), .ref (x + 129), .int (nI n_2)]) := h_3
    refine z_get (ref := "FlowExporter$Sums") (C := RX9) (T := TX9) (N := 5) (ci := 11) (v := .int (nI n_2)) B hu_X11_requireKey_X9 rfl 4 (Nat.le_of_ble_eq_true rfl) hv_X11_requireKey_92 rfl h_4 rfl dX11_requireKey_9 ?_
    refine z_icmp_lt (tgt := 23) B dX11_requireKey_12 rfl (fun c_2 => ?_) (fun c_2 => ?_)
    · have e_2 : n_1 < n_2 := (nI_ltI (a := n_1) (b := n_2) (by omega) (by omega)).mp c_2
      exact zb_ret (Nat.le_of_ble_eq_true rfl) (Nat.le_of_ble_eq_true rfl) (z_ret_v B dX11_requireKey_23 ⟨⟨rfl, n_1, (show n_1 < 24 by omega), rfl⟩, rfl, hI, (fun b9 h9 => rfl)⟩)
    · have e_3 : ¬ (n_1 < n_2) := fun h9 => c_2 ((nI_ltI (a := n_1) (b := n_2) (by omega) (by omega)).mpr h9)
      exact zb_throw (cls := xIO) (ik := 153) (ic := 155) B hl9 htab9 (by decide) ⟨hI, (fun b9 h9 => rfl)⟩ (by decide) (by decide +kernel) (by decide +kernel) (by decide +kernel) (by decide +kernel) (by decide +kernel) (by decide +kernel) (by decide +kernel) dX11_requireKey_15 dX11_requireKey_18 dX11_requireKey_19 dX11_requireKey_22 ⟨Nat.le_of_ble_eq_true rfl, Nat.le_of_ble_eq_true rfl, Nat.le_of_ble_eq_true rfl, Nat.le_of_ble_eq_true rfl⟩ ⟨Nat.le_of_ble_eq_true rfl, Nat.le_of_ble_eq_true rfl⟩

set_option maxHeartbeats 4000000 in
set_option maxRecDepth 100000 in
theorem s_X11_requirePackets2 (G : EnvG) (l : Launch) (hl9 : l.stackTraces = false) (Φ : Hm) (sz x ca : Nat) (a : Int64) (b : Int32) (d : Int32) (hx : G.2.2.2 ≤ x) (hI : In G x ca Φ)  : CtB G l yX11_requirePackets wsX11_requirePackets ({ frames := 6, cells := 1, slots := 6, locals := 81 }) 1 6 [.long a, .int b, .int d] Φ sz (fun v Φ1 sz1 => (v = none ∧ (∃ n9 : Nat, n9 ≤ 200 ∧ d = nI n9) ∧ ¬ RqP a b d) ∧ sz1 = sz ∧ In G x (ca) Φ1 ∧ Fr x (fun j9 => False) Φ Φ1) (fun Φ1 => (RqP a b d) ∧ In G x ca Φ1 ∧ Fr x (fun j9 => False) Φ Φ1) [xIA] := by
  refine CtB.of (cc := cX11_requirePackets) (maxL := 4) (ret := none) (by decide) rfl (Nat.le_of_ble_eq_true rfl) ?_
  intro p9 e9 s9 m9 w9 t9 k9 B htab9
  show Z p9 l e9 _ s9 m9 _ w9 t9 k9 _ G 4 0 [(0, .long a), (2, .int b), (3, .int d)] [] Φ sz 0 0
  refine z_lload_n B dX11_requirePackets_0 rfl 0 rfl ?_
  refine z_ldc2 (v := (-1)) B (by decide +kernel) dX11_requirePackets_1 ?_
  refine z_lcmp B dX11_requirePackets_4 ?_
  refine z_if_eq (tgt := 31) B dX11_requirePackets_5 rfl (fun c_1 => ?_) (fun c_1 => ?_)
  · exact zb_throw (cls := xIA) (ik := 116) (ic := 118) B hl9 htab9 (by decide) ⟨(Or.inl ((lg_cmp_eq _ _).mp c_1)), hI, (fun b9 h9 => rfl)⟩ (by decide) (by decide +kernel) (by decide +kernel) (by decide +kernel) (by decide +kernel) (by decide +kernel) (by decide +kernel) (by decide +kernel) dX11_requirePackets_31 dX11_requirePackets_34 dX11_requirePackets_35 dX11_requirePackets_38 ⟨Nat.le_of_ble_eq_true rfl, Nat.le_of_ble_eq_true rfl, Nat.le_of_ble_eq_true rfl, Nat.le_of_ble_eq_true rfl⟩ ⟨Nat.le_of_ble_eq_true rfl, Nat.le_of_ble_eq_true rfl⟩
  · refine z_iload_n B dX11_requirePackets_8 rfl 1 rfl ?_
    refine z_iconst (v := 1) B dX11_requirePackets_9 rfl ?_
    refine z_icmp_lt (tgt := 31) B dX11_requirePackets_10 rfl (fun c_2 => ?_) (fun c_2 => ?_)
    · have k_1 : (0 : Int32).toInt = 0 := by decide
      have q_1 : ¬ ((lg_cmp a (-1)).toInt = (0 : Int32).toInt) := fun h9 => c_1 (Int32.toInt_inj.mp h9)
      have k_2 : (1 : Int32).toInt = 1 := by decide
      have q_2 : (b.toInt < (1 : Int32).toInt) := Int32.lt_iff_toInt_lt.mp c_2
      exact zb_throw (cls := xIA) (ik := 116) (ic := 118) B hl9 htab9 (by decide) ⟨(Or.inr (by omega)), hI, (fun b9 h9 => rfl)⟩ (by decide) (by decide +kernel) (by decide +kernel) (by decide +kernel) (by decide +kernel) (by decide +kernel) (by decide +kernel) (by decide +kernel) dX11_requirePackets_31 dX11_requirePackets_34 dX11_requirePackets_35 dX11_requirePackets_38 ⟨Nat.le_of_ble_eq_true rfl, Nat.le_of_ble_eq_true rfl, Nat.le_of_ble_eq_true rfl, Nat.le_of_ble_eq_true rfl⟩ ⟨Nat.le_of_ble_eq_true rfl, Nat.le_of_ble_eq_true rfl⟩
    · obtain ⟨n_1, e_2, e_1, rfl⟩ := nI_ofge (c := 1) (by omega) c_2
      refine z_iload_n B dX11_requirePackets_13 rfl 1 rfl ?_
      refine z_ldc (v := 65535) B (by decide +kernel) dX11_requirePackets_14 ?_
      refine z_icmp_gt (tgt := 31) B dX11_requirePackets_16 rfl (fun c_3 => ?_) (fun c_3 => ?_)
      · have e_3 : 65535 < n_1 := (nI_ltI (a := 65535) (b := n_1) (by omega) (by omega)).mp c_3
        have k_3 : (nI n_1).toInt = ((n_1 : Nat) : Int) := nI_toInt (by omega)
        have k_4 : (0 : Int32).toInt = 0 := by decide
        have q_3 : ¬ ((lg_cmp a (-1)).toInt = (0 : Int32).toInt) := fun h9 => c_1 (Int32.toInt_inj.mp h9)
        have k_5 : (1 : Int32).toInt = 1 := by decide
        have q_4 : ¬ ((nI n_1).toInt < (1 : Int32).toInt) := fun h9 => c_2 (Int32.lt_iff_toInt_lt.mpr h9)
        have k_6 : (65535 : Int32).toInt = 65535 := by decide
        have q_5 : ((65535 : Int32).toInt < (nI n_1).toInt) := Int32.lt_iff_toInt_lt.mp c_3
        exact zb_throw (cls := xIA) (ik := 116) (ic := 118) B hl9 htab9 (by decide) ⟨(Or.inr (by omega)), hI, (fun b9 h9 => rfl)⟩ (by decide) (by decide +kernel) (by decide +kernel) (by decide +kernel) (by decide +kernel) (by decide +kernel) (by decide +kernel) (by decide +kernel) dX11_requirePackets_31 dX11_requirePackets_34 dX11_requirePackets_35 dX11_requirePackets_38 ⟨Nat.le_of_ble_eq_true rfl, Nat.le_of_ble_eq_true rfl, Nat.le_of_ble_eq_true rfl, Nat.le_of_ble_eq_true rfl⟩ ⟨Nat.le_of_ble_eq_true rfl, Nat.le_of_ble_eq_true rfl⟩
      · have e_4 : ¬ (65535 < n_1) := fun h9 => c_3 ((nI_ltI (a := 65535) (b := n_1) (by omega) (by omega)).mpr h9)
        refine z_iload_n B dX11_requirePackets_19 rfl 2 rfl ?_
        refine z_iconst (v := 1) B dX11_requirePackets_20 rfl ?_
        refine z_icmp_lt (tgt := 31) B dX11_requirePackets_21 rfl (fun c_4 => ?_) (fun c_4 => ?_)
        · have k_7 : (nI n_1).toInt = ((n_1 : Nat) : Int) := nI_toInt (by omega)
          have k_8 : (0 : Int32).toInt = 0 := by decide
          have q_6 : ¬ ((lg_cmp a (-1)).toInt = (0 : Int32).toInt) := fun h9 => c_1 (Int32.toInt_inj.mp h9)
          have k_9 : (1 : Int32).toInt = 1 := by decide
          have q_7 : ¬ ((nI n_1).toInt < (1 : Int32).toInt) := fun h9 => c_2 (Int32.lt_iff_toInt_lt.mpr h9)
          have k_10 : (65535 : Int32).toInt = 65535 := by decide
          have q_8 : ¬ ((65535 : Int32).toInt < (nI n_1).toInt) := fun h9 => c_3 (Int32.lt_iff_toInt_lt.mpr h9)
          have q_9 : (d.toInt < (1 : Int32).toInt) := Int32.lt_iff_toInt_lt.mp c_4
          exact zb_throw (cls := xIA) (ik := 116) (ic := 118) B hl9 htab9 (by decide) ⟨(Or.inr (by omega)), hI, (fun b9 h9 => rfl)⟩ (by decide) (by decide +kernel) (by decide +kernel) (by decide +kernel) (by decide +kernel) (by decide +kernel) (by decide +kernel) (by decide +kernel) dX11_requirePackets_31 dX11_requirePackets_34 dX11_requirePackets_35 dX11_requirePackets_38 ⟨Nat.le_of_ble_eq_true rfl, Nat.le_of_ble_eq_true rfl, Nat.le_of_ble_eq_true rfl, Nat.le_of_ble_eq_true rfl⟩ ⟨Nat.le_of_ble_eq_true rfl, Nat.le_of_ble_eq_true rfl⟩
        · obtain ⟨n_2, e_6, e_5, rfl⟩ := nI_ofge (c := 1) (by omega) c_4
          refine z_iload_n B dX11_requirePackets_24 rfl 2 rfl ?_
          refine z_sipush (v := 200) B dX11_requirePackets_25 rfl ?_
          refine z_icmp_le (tgt := 39) B dX11_requirePackets_28 rfl (fun c_5 => ?_) (fun c_5 => ?_)
          · have e_7 : n_2 ≤ 200 := (nI_leI (a := n_2) (b := 200) (by omega) (by omega)).mp c_5
            have k_11 : (nI n_1).toInt = ((n_1 : Nat) : Int) := nI_toInt (by omega)
            have k_12 : (nI n_2).toInt = ((n_2 : Nat) : Int) := nI_toInt (by omega)
            have k_13 : (0 : Int32).toInt = 0 := by decide
            have q_10 : ¬ ((lg_cmp a (-1)).toInt = (0 : Int32).toInt) := fun h9 => c_1 (Int32.toInt_inj.mp h9)
            have k_14 : (1 : Int32).toInt = 1 := by decide
            have q_11 : ¬ ((nI n_1).toInt < (1 : Int32).toInt) := fun h9 => c_2 (Int32.lt_iff_toInt_lt.mpr h9)
            have k_15 : (65535 : Int32).toInt = 65535 := by decide
            have q_12 : ¬ ((65535 : Int32).toInt < (nI n_1).toInt) := fun h9 => c_3 (Int32.lt_iff_toInt_lt.mpr h9)
            have q_13 : ¬ ((nI n_2).toInt < (1 : Int32).toInt) := fun h9 => c_4 (Int32.lt_iff_toInt_lt.mpr h9)
            have k_16 : (200 : Int32).toInt = 200 := by decide
            have q_14 : ((nI n_2).toInt ≤ (200 : Int32).toInt) := Int32.le_iff_toInt_le.mp c_5
            exact zb_ret (Nat.le_of_ble_eq_true rfl) (Nat.le_of_ble_eq_true rfl) (z_ret_v B dX11_requirePackets_39 ⟨⟨rfl, ⟨n_2, (show n_2 ≤ 200 by omega), rfl⟩, (fun h9 => h9.elim (fun h8 => c_1 ((lg_cmp_eq _ _).mpr h8)) (fun h8 => by omega))⟩, rfl, hI, (fun b9 h9 => rfl)⟩)
          · have e_8 : ¬ (n_2 ≤ 200) := fun h9 => c_5 ((nI_leI (a := n_2) (b := 200) (by omega) (by omega)).mpr h9)
            have k_17 : (nI n_1).toInt = ((n_1 : Nat) : Int) := nI_toInt (by omega)
            have k_18 : (nI n_2).toInt = ((n_2 : Nat) : Int) := nI_toInt (by omega)
            have k_19 : (0 : Int32).toInt = 0 := by decide
            have q_15 : ¬ ((lg_cmp a (-1)).toInt = (0 : Int32).toInt) := fun h9 => c_1 (Int32.toInt_inj.mp h9)
            have k_20 : (1 : Int32).toInt = 1 := by decide
            have q_16 : ¬ ((nI n_1).toInt < (1 : Int32).toInt) := fun h9 => c_2 (Int32.lt_iff_toInt_lt.mpr h9)
            have k_21 : (65535 : Int32).toInt = 65535 := by decide
            have q_17 : ¬ ((65535 : Int32).toInt < (nI n_1).toInt) := fun h9 => c_3 (Int32.lt_iff_toInt_lt.mpr h9)
            have q_18 : ¬ ((nI n_2).toInt < (1 : Int32).toInt) := fun h9 => c_4 (Int32.lt_iff_toInt_lt.mpr h9)
            have k_22 : (200 : Int32).toInt = 200 := by decide
            have q_19 : ¬ ((nI n_2).toInt ≤ (200 : Int32).toInt) := fun h9 => c_5 (Int32.le_iff_toInt_le.mpr h9)
            exact zb_throw (cls := xIA) (ik := 116) (ic := 118) B hl9 htab9 (by decide) ⟨(Or.inr (by omega)), hI, (fun b9 h9 => rfl)⟩ (by decide) (by decide +kernel) (by decide +kernel) (by decide +kernel) (by decide +kernel) (by decide +kernel) (by decide +kernel) (by decide +kernel) dX11_requirePackets_31 dX11_requirePackets_34 dX11_requirePackets_35 dX11_requirePackets_38 ⟨Nat.le_of_ble_eq_true rfl, Nat.le_of_ble_eq_true rfl, Nat.le_of_ble_eq_true rfl, Nat.le_of_ble_eq_true rfl⟩ ⟨Nat.le_of_ble_eq_true rfl, Nat.le_of_ble_eq_true rfl⟩

theorem hu_X11_lossRate_X11 : ∀ w ∈ u_ws RX11 TX11 8, w ∈ wsX11_lossRate := fun _ h => List.mem_cons_of_mem _ (List.mem_append_left _ (List.mem_append_left _ (List.mem_append_left _ (List.mem_append_right _ (h)))))

theorem hv_X11_lossRate_71 : Cond.fieldLink RX11 71 "FlowExporter" (TX11 6).2.1 (TX11 6).2.2.1 ∈ wsX11_lossRate := List.mem_cons_of_mem _ (List.mem_append_left _ (List.mem_append_left _ (List.mem_append_left _ (List.mem_append_left _ (List.mem_of_getElem? (i := 2) rfl)))))

theorem hu_X11_lossRate_X0 : ∀ w ∈ u_ws RX0 TX0 12, w ∈ wsX11_lossRate := fun _ h => List.mem_cons_of_mem _ (List.mem_append_left _ (List.mem_append_left _ (List.mem_append_right _ (h))))

theorem hv_X11_lossRate_289 : Cond.fieldLink RX11 289 "FlowExporter$Collector" (TX0 7).2.1 (TX0 7).2.2.1 ∈ wsX11_lossRate := List.mem_cons_of_mem _ (List.mem_append_left _ (List.mem_append_left _ (List.mem_append_left _ (List.mem_append_left _ (List.mem_of_getElem? (i := 3) rfl)))))

set_option maxHeartbeats 4000000 in
set_option maxRecDepth 100000 in
theorem s_X11_lossRate (G : EnvG) (l : Launch) (hl9 : l.stackTraces = false) (Φ : Hm) (sz x ca : Nat)  (hx : G.2.2.2 ≤ x) (hI : In G x ca Φ)  : CtB G l yX11_lossRate wsX11_lossRate ({ frames := 6, cells := 1, slots := 6, locals := 81 }) 1 6 [.ref x] Φ sz (fun v Φ1 sz1 => (∃ r9 : UInt64, v = some (.double r9) ∧ nn64 r9) ∧ sz1 = sz ∧ In G x (ca) Φ1 ∧ Fr x (fun j9 => False) Φ Φ1) (fun Φ1 => In G x ca Φ1 ∧ Fr x (fun j9 => False) Φ Φ1) [xAE] := by
  refine CtB.of (cc := cX11_lossRate) (maxL := 5) (ret := (some .double)) (by decide) rfl (Nat.le_of_ble_eq_true rfl) ?_
  intro p9 e9 s9 m9 w9 t9 k9 B htab9
  show Z p9 l e9 _ s9 m9 _ w9 t9 k9 _ G 5 0 [(0, .ref x)] [] Φ sz 0 0
  refine z_aload_n B dX11_lossRate_0 rfl 0 rfl ?_
  have h_1 := in0 (k := 0) hI rfl
  have h_2 : Φ x = some (o_ 13 [.ref (x + 1), .ref (x + 3), .ref (x + 24), .ref (x + 46), .ref (x + 74), .ref (x + 80), .ref (x + 132), .ref (x + 121)]) := h_1
  refine z_get (ref := "FlowExporter") (C := RX11) (T := TX11) (N := 8) (ci := 13) (v := .ref (x + 132)) B hu_X11_lossRate_X11 rfl 6 (Nat.le_of_ble_eq_true rfl) hv_X11_lossRate_71 rfl h_2 rfl dX11_lossRate_1 ?_
  obtain ⟨n_1, v_1, v_2, h_3, b_1⟩ := in25 (k := 132) hI rfl
  have h_4 : Φ (x + 132) = some (o_ 2 [.ref (x + 3), .ref (x + 121), .ref (x + 133), .ref (x + 134), .ref (x + 135), .ref (x + 137), .ref (x + 138), .ref (x + 139), .ref (x + 140), .int (nI n_1), .int v_1, .int v_2]) := h_3
  refine z_get (ref := "FlowExporter$Collector") (C := RX0) (T := TX0) (N := 12) (ci := 2) (v := .ref (x + 139)) B hu_X11_lossRate_X0 rfl 7 (Nat.le_of_ble_eq_true rfl) hv_X11_lossRate_289 rfl h_4 rfl dX11_lossRate_4 ?_
  refine z_iconst (v := 0) B dX11_lossRate_7 rfl ?_
  obtain ⟨f_1, h_5⟩ := in28 (k := 139) hI rfl
  have h_6 : Φ (x + 139) = some (al_ G 9 f_1) := h_5
  refine z_lald B h_6 (vin rfl) dX11_lossRate_8 ?_
  refine z_fl (fun v_3 => ?_)
  refine z_lstore_n (lv' := [(1, .long v_3), (0, .ref x)]) B dX11_lossRate_9 rfl (Nat.le_of_ble_eq_true rfl) rfl ?_
  refine z_lload_n B dX11_lossRate_10 rfl 0 rfl ?_
  refine z_aload_n B dX11_lossRate_11 rfl 1 rfl ?_
  refine z_get (ref := "FlowExporter") (C := RX11) (T := TX11) (N := 8) (ci := 13) (v := .ref (x + 132)) B hu_X11_lossRate_X11 rfl 6 (Nat.le_of_ble_eq_true rfl) hv_X11_lossRate_71 rfl h_2 rfl dX11_lossRate_12 ?_
  refine z_get (ref := "FlowExporter$Collector") (C := RX0) (T := TX0) (N := 12) (ci := 2) (v := .ref (x + 139)) B hu_X11_lossRate_X0 rfl 7 (Nat.le_of_ble_eq_true rfl) hv_X11_lossRate_289 rfl h_4 rfl dX11_lossRate_15 ?_
  refine z_bipush (v := 7) B dX11_lossRate_18 rfl ?_
  refine z_lald B h_6 (vin rfl) dX11_lossRate_20 ?_
  refine z_fl (fun v_4 => ?_)
  refine z_ladd B dX11_lossRate_21 ?_
  refine z_fl (fun v_5 => ?_)
  refine z_lstore_n (lv' := [(3, .long v_5), (1, .long v_3), (0, .ref x)]) B dX11_lossRate_22 rfl (Nat.le_of_ble_eq_true rfl) rfl ?_
  refine z_lload_n B dX11_lossRate_23 rfl 0 rfl ?_
  refine z_lconst (v := 0) B dX11_lossRate_24 rfl ?_
  refine z_lcmp B dX11_lossRate_25 ?_
  refine z_if_ne (tgt := 37) B dX11_lossRate_26 rfl (fun c_1 => ?_) (fun c_1 => ?_)
  · refine z_lload_n B dX11_lossRate_37 rfl 1 rfl ?_
    refine z_l2d B dX11_lossRate_38 ?_
    refine z_fdq (P := fun u9 : UInt64 => sm64 12 u9) (l2d_sm v_3) (fun v_6 q_2 => ?_)
    replace q_2 : sm64 12 v_6 := q_2
    refine z_lload_n B dX11_lossRate_39 rfl 0 rfl ?_
    refine z_l2d B dX11_lossRate_40 ?_
    have q_4 : nn64 (FP.ddiv v_6 (FP.l2d v_5)) := (div_nnw (sm_nn q_2) (l2d_w (fun h8 => c_1 ((lg_cmp_eq _ _).mpr h8))))
    refine z_ddiv B dX11_lossRate_41 (vf_of q_4) ?_
    refine z_fdq (P := fun u9 : UInt64 => nn64 u9) q_4 (fun v_7 q_6 => ?_)
    replace q_6 : nn64 v_7 := q_6
    exact zb_ret (Nat.le_of_ble_eq_true rfl) (Nat.le_of_ble_eq_true rfl) (z_ret_d B dX11_lossRate_42 ⟨⟨_, rfl, q_6⟩, rfl, hI, (fun b9 h9 => rfl)⟩)
  · exact zb_throw (cls := xAE) (ik := 293) (ic := 295) B hl9 htab9 (by decide) ⟨hI, (fun b9 h9 => rfl)⟩ (by decide) (by decide +kernel) (by decide +kernel) (by decide +kernel) (by decide +kernel) (by decide +kernel) (by decide +kernel) (by decide +kernel) dX11_lossRate_29 dX11_lossRate_32 dX11_lossRate_33 dX11_lossRate_36 ⟨Nat.le_of_ble_eq_true rfl, Nat.le_of_ble_eq_true rfl, Nat.le_of_ble_eq_true rfl, Nat.le_of_ble_eq_true rfl⟩ ⟨Nat.le_of_ble_eq_true rfl, Nat.le_of_ble_eq_true rfl⟩

theorem hu_X11_key_X11 : ∀ w ∈ u_ws RX11 TX11 8, w ∈ wsX11_key := fun _ h => List.mem_cons_of_mem _ (List.mem_append_left _ (List.mem_append_left _ (List.mem_append_left _ (List.mem_append_left _ (List.mem_append_right _ (h))))))

theorem hv_X11_key_62 : Cond.fieldLink RX11 62 "FlowExporter" (TX11 7).2.1 (TX11 7).2.2.1 ∈ wsX11_key := List.mem_cons_of_mem _ (List.mem_append_left _ (List.mem_append_left _ (List.mem_append_left _ (List.mem_append_left _ (List.mem_append_left _ (List.mem_of_getElem? (i := 2) rfl))))))

theorem hu_X11_key_X9 : ∀ w ∈ u_ws RX9 TX9 5, w ∈ wsX11_key := fun _ h => List.mem_cons_of_mem _ (List.mem_append_left _ (List.mem_append_left _ (List.mem_append_left _ (List.mem_append_right _ (h)))))

theorem hv_X11_key_301 : Cond.fieldLink RX11 301 "FlowExporter$Sums" (TX9 0).2.1 (TX9 0).2.2.1 ∈ wsX11_key := List.mem_cons_of_mem _ (List.mem_append_left _ (List.mem_append_left _ (List.mem_append_left _ (List.mem_append_left _ (List.mem_append_left _ (List.mem_of_getElem? (i := 3) rfl))))))

set_option maxHeartbeats 4000000 in
set_option maxRecDepth 100000 in
theorem s_X11_key (G : EnvG) (l : Launch) (hl9 : l.stackTraces = false) (Φ : Hm) (sz x ca : Nat) (a : Int32) (b : Int32) (hx : G.2.2.2 ≤ x) (hI : In G x ca Φ)  : CtB G l yX11_key wsX11_key ({ frames := 7, cells := 2, slots := 12, locals := 102 }) 2 12 [.ref x, .int a, .int b] Φ sz (fun v Φ1 sz1 => (∃ r9 : Int32, v = some (.int r9)) ∧ sz1 = sz ∧ In G x (ca) Φ1 ∧ Fr x (fun j9 => False) Φ Φ1) (fun Φ1 => In G x ca Φ1 ∧ Fr x (fun j9 => False) Φ Φ1) [xIO, xIA] := by
  refine CtB.of (cc := cX11_key) (maxL := 3) (ret := (some .int)) (by decide) rfl (Nat.le_of_ble_eq_true rfl) ?_
  intro p9 e9 s9 m9 w9 t9 k9 B htab9
  show Z p9 l e9 _ s9 m9 _ w9 t9 k9 _ G 3 0 [(0, .ref x), (1, .int a), (2, .int b)] [] Φ sz 0 0
  refine z_aload_n B dX11_key_0 rfl 0 rfl ?_
  refine z_iload_n B dX11_key_1 rfl 1 rfl ?_
  have h_1 := in0 (k := 0) hI rfl
  have h_2 : Φ x = some (o_ 13 [.ref (x + 1), .ref (x + 3), .ref (x + 24), .ref (x + 46), .ref (x + 74), .ref (x + 80), .ref (x + 132), .ref (x + 121)]) := h_1
  refine zb_callV (As := [.int a]) (rest := []) B htab9 (s_X11_requireKey2 G l hl9 Φ sz x (ca) a hx hI ) (cwV 1 B.1.2.2.2.2 gX11_key_X11_requireKey rfl rfl rfl (by decide +kernel) ⟨Nat.le_of_ble_eq_true rfl, Nat.le_of_ble_eq_true rfl⟩) h_2 rfl rfl rfl rfl (Nat.le_of_ble_eq_true rfl) dX11_key_2 ⟨Nat.le_of_ble_eq_true rfl, Nat.le_of_ble_eq_true rfl⟩ ⟨Nat.le_of_ble_eq_true rfl, Nat.le_of_ble_eq_true rfl⟩ (by decide) (fun Φ9 h9 => ⟨h9.1, fun b9 h8 => ((h9.2 b9 h8).trans ((fun b9 h9 => rfl) b9 h8))⟩) (fun r_1 Φ1 sz1 st1 hp1 hs1 => ?_)
  obtain ⟨⟨rfl, n_1, b_1, rfl⟩, hq1, hI1, hF1⟩ := hp1
  subst sz1
  replace hs1 : st1 = [] := hs1
  subst st1
  replace hI1 : In G x (ca) Φ1 := hI1
  replace b_1 : n_1 < 24 := b_1
  refine z_iload_n B dX11_key_5 rfl 2 rfl ?_
  refine z_if_lt (tgt := 14) B dX11_key_6 rfl (fun c_1 => ?_) (fun c_1 => ?_)
  · exact zb_throw (cls := xIA) (ik := 116) (ic := 118) B hl9 htab9 (by decide) ⟨hI1, (fun b9 h9 => ((hF1 b9 (fun j9 h8 h7 => (show False from h7).elim)).trans rfl))⟩ (by decide) (by decide +kernel) (by decide +kernel) (by decide +kernel) (by decide +kernel) (by decide +kernel) (by decide +kernel) (by decide +kernel) dX11_key_14 dX11_key_17 dX11_key_18 dX11_key_21 ⟨Nat.le_of_ble_eq_true rfl, Nat.le_of_ble_eq_true rfl, Nat.le_of_ble_eq_true rfl, Nat.le_of_ble_eq_true rfl⟩ ⟨Nat.le_of_ble_eq_true rfl, Nat.le_of_ble_eq_true rfl⟩
  · obtain ⟨n_2, e_1, rfl⟩ := nI_of c_1
    refine z_iload_n B dX11_key_9 rfl 2 rfl ?_
    refine z_iconst (v := 3) B dX11_key_10 rfl ?_
    refine z_icmp_le (tgt := 22) B dX11_key_11 rfl (fun c_2 => ?_) (fun c_2 => ?_)
    · have e_2 : n_2 ≤ 3 := (nI_leI (a := n_2) (b := 3) (by omega) (by omega)).mp c_2
      refine z_aload_n B dX11_key_22 rfl 0 rfl ?_
      have h_3 : Φ1 x = some (o_ 13 [.ref (x + 1), .ref (x + 3), .ref (x + 24), .ref (x + 46), .ref (x + 74), .ref (x + 80), .ref (x + 132), .ref (x + 121)]) := ((hF1 x (fun j9 h8 h7 => (show False from h7).elim)).trans h_2)
      refine z_get (ref := "FlowExporter") (C := RX11) (T := TX11) (N := 8) (ci := 13) (v := .ref (x + 121)) B hu_X11_key_X11 rfl 7 (Nat.le_of_ble_eq_true rfl) hv_X11_key_62 rfl h_3 rfl dX11_key_23 ?_
      obtain ⟨n_3, h_4, b_2⟩ := in20 (k := 121) hI1 rfl
      have h_5 : Φ1 (x + 121) = some (o_ 11 [.ref (x + 122), .ref (x + 123), .ref (x + 126), .ref (x + 129), .int (nI n_3)]) := h_4
      refine z_get (ref := "FlowExporter$Sums") (C := RX9) (T := TX9) (N := 5) (ci := 11) (v := .ref (x + 122)) B hu_X11_key_X9 rfl 0 (Nat.le_of_ble_eq_true rfl) hv_X11_key_301 rfl h_5 rfl dX11_key_26 ?_
      refine z_iload_n B dX11_key_29 rfl 1 rfl ?_
      obtain ⟨f_1, h_6⟩ := in21 (k := 122) hI1 rfl
      have h_7 : Φ1 (x + 122) = some (al_ G 24 f_1) := h_6
      refine z_lald B h_7 (vp_in_nI (by omega) (by omega)) dX11_key_30 ?_
      refine z_fl (fun v_1 => ?_)
      refine z_iload_n B dX11_key_31 rfl 2 rfl ?_
      refine z_callS (As := [.long v_1, .int (nI n_2)]) (rest := []) B (s_X3_partOf G l Φ1 sz x (ca) v_1 (nI n_2) hx hI1 ) (va_cwS 2 B.1.2.2.2.2 gX11_key_X3_partOf rfl rfl rfl (by decide +kernel) ⟨Nat.le_of_ble_eq_true rfl, Nat.le_of_ble_eq_true rfl⟩) rfl rfl (Nat.le_of_ble_eq_true rfl) dX11_key_32 ⟨Nat.le_of_ble_eq_true rfl, Nat.le_of_ble_eq_true rfl⟩ (fun r_2 Φ2 sz2 st2 hp2 hs2 => ?_)
      obtain ⟨⟨v_2, rfl⟩, hq2, hI2, hF2⟩ := hp2
      subst sz2
      replace hs2 : st2 = [.int v_2] := hs2
      subst st2
      replace hI2 : In G x (ca) Φ2 := hI2
      exact zb_ret (Nat.le_of_ble_eq_true rfl) (Nat.le_of_ble_eq_true rfl) (z_ret_i B dX11_key_35 ⟨⟨_, rfl⟩, rfl, hI2, (fun b9 h9 => ((hF2 b9 (fun j9 h8 h7 => (show False from h7).elim)).trans ((hF1 b9 (fun j9 h8 h7 => (show False from h7).elim)).trans rfl)))⟩)
    · have e_3 : ¬ (n_2 ≤ 3) := fun h9 => c_2 ((nI_leI (a := n_2) (b := 3) (by omega) (by omega)).mpr h9)
      exact zb_throw (cls := xIA) (ik := 116) (ic := 118) B hl9 htab9 (by decide) ⟨hI1, (fun b9 h9 => ((hF1 b9 (fun j9 h8 h7 => (show False from h7).elim)).trans rfl))⟩ (by decide) (by decide +kernel) (by decide +kernel) (by decide +kernel) (by decide +kernel) (by decide +kernel) (by decide +kernel) (by decide +kernel) dX11_key_14 dX11_key_17 dX11_key_18 dX11_key_21 ⟨Nat.le_of_ble_eq_true rfl, Nat.le_of_ble_eq_true rfl, Nat.le_of_ble_eq_true rfl, Nat.le_of_ble_eq_true rfl⟩ ⟨Nat.le_of_ble_eq_true rfl, Nat.le_of_ble_eq_true rfl⟩

theorem hu_X11_raw_X11 : ∀ w ∈ u_ws RX11 TX11 8, w ∈ wsX11_raw := fun _ h => List.mem_cons_of_mem _ (List.mem_append_left _ (List.mem_append_left _ (List.mem_append_left _ (List.mem_append_left _ (List.mem_append_right _ (h))))))

theorem hv_X11_raw_62 : Cond.fieldLink RX11 62 "FlowExporter" (TX11 7).2.1 (TX11 7).2.2.1 ∈ wsX11_raw := List.mem_cons_of_mem _ (List.mem_append_left _ (List.mem_append_left _ (List.mem_append_left _ (List.mem_append_left _ (List.mem_append_left _ (List.mem_of_getElem? (i := 0) rfl))))))

theorem hu_X11_raw_X9 : ∀ w ∈ u_ws RX9 TX9 5, w ∈ wsX11_raw := fun _ h => List.mem_cons_of_mem _ (List.mem_append_left _ (List.mem_append_left _ (List.mem_append_left _ (List.mem_append_right _ (h)))))

theorem hv_X11_raw_315 : Cond.fieldLink RX11 315 "FlowExporter$Sums" (TX9 1).2.1 (TX9 1).2.2.1 ∈ wsX11_raw := List.mem_cons_of_mem _ (List.mem_append_left _ (List.mem_append_left _ (List.mem_append_left _ (List.mem_append_left _ (List.mem_append_left _ (List.mem_of_getElem? (i := 1) rfl))))))

set_option maxHeartbeats 4000000 in
set_option maxRecDepth 100000 in
theorem s_X11_raw (G : EnvG) (l : Launch) (hl9 : l.stackTraces = false) (Φ : Hm) (sz x ca : Nat) (a : Int32) (b : Int32) (hx : G.2.2.2 ≤ x) (hI : In G x ca Φ)  : CtB G l yX11_raw wsX11_raw ({ frames := 7, cells := 2, slots := 12, locals := 102 }) 2 12 [.ref x, .int a, .int b] Φ sz (fun v Φ1 sz1 => (∃ r9 : Int64, v = some (.long r9)) ∧ sz1 = sz ∧ In G x (ca) Φ1 ∧ Fr x (fun j9 => False) Φ Φ1) (fun Φ1 => In G x ca Φ1 ∧ Fr x (fun j9 => False) Φ Φ1) [xIO, xIA] := by
  refine CtB.of (cc := cX11_raw) (maxL := 3) (ret := (some .long)) (by decide) rfl (Nat.le_of_ble_eq_true rfl) ?_
  intro p9 e9 s9 m9 w9 t9 k9 B htab9
  show Z p9 l e9 _ s9 m9 _ w9 t9 k9 _ G 3 0 [(0, .ref x), (1, .int a), (2, .int b)] [] Φ sz 0 0
  refine z_aload_n B dX11_raw_0 rfl 0 rfl ?_
  refine z_iload_n B dX11_raw_1 rfl 1 rfl ?_
  have h_1 := in0 (k := 0) hI rfl
  have h_2 : Φ x = some (o_ 13 [.ref (x + 1), .ref (x + 3), .ref (x + 24), .ref (x + 46), .ref (x + 74), .ref (x + 80), .ref (x + 132), .ref (x + 121)]) := h_1
  refine zb_callV (As := [.int a]) (rest := []) B htab9 (s_X11_requireKey2 G l hl9 Φ sz x (ca) a hx hI ) (cwV 1 B.1.2.2.2.2 gX11_raw_X11_requireKey rfl rfl rfl (by decide +kernel) ⟨Nat.le_of_ble_eq_true rfl, Nat.le_of_ble_eq_true rfl⟩) h_2 rfl rfl rfl rfl (Nat.le_of_ble_eq_true rfl) dX11_raw_2 ⟨Nat.le_of_ble_eq_true rfl, Nat.le_of_ble_eq_true rfl⟩ ⟨Nat.le_of_ble_eq_true rfl, Nat.le_of_ble_eq_true rfl⟩ (by decide) (fun Φ9 h9 => ⟨h9.1, fun b9 h8 => ((h9.2 b9 h8).trans ((fun b9 h9 => rfl) b9 h8))⟩) (fun r_1 Φ1 sz1 st1 hp1 hs1 => ?_)
  obtain ⟨⟨rfl, n_1, b_1, rfl⟩, hq1, hI1, hF1⟩ := hp1
  subst sz1
  replace hs1 : st1 = [] := hs1
  subst st1
  replace hI1 : In G x (ca) Φ1 := hI1
  replace b_1 : n_1 < 24 := b_1
  refine z_iload_n B dX11_raw_5 rfl 2 rfl ?_
  refine zb_callS (As := [.int b]) (rest := []) B htab9 (s_X11_requireWhat2 G l hl9 Φ1 sz x (ca) b hx hI1 ) (va_cwS 1 B.1.2.2.2.2 gX11_raw_X11_requireWhat rfl rfl rfl (by decide +kernel) ⟨Nat.le_of_ble_eq_true rfl, Nat.le_of_ble_eq_true rfl⟩) rfl rfl (Nat.le_of_ble_eq_true rfl) dX11_raw_6 ⟨Nat.le_of_ble_eq_true rfl, Nat.le_of_ble_eq_true rfl⟩ ⟨Nat.le_of_ble_eq_true rfl, Nat.le_of_ble_eq_true rfl⟩ (by decide) (fun Φ9 h9 => ⟨h9.1, fun b9 h8 => ((h9.2 b9 h8).trans ((fun b9 h9 => ((hF1 b9 (fun j9 h8 h7 => (show False from h7).elim)).trans rfl)) b9 h8))⟩) (fun r_2 Φ2 sz2 st2 hp2 hs2 => ?_)
  obtain ⟨⟨rfl, n_2, b_2, rfl⟩, hq2, hI2, hF2⟩ := hp2
  subst sz2
  replace hs2 : st2 = [] := hs2
  subst st2
  replace hI2 : In G x (ca) Φ2 := hI2
  replace b_2 : n_2 < 2 := b_2
  refine z_aload_n B dX11_raw_9 rfl 0 rfl ?_
  have h_3 : Φ2 x = some (o_ 13 [.ref (x + 1), .ref (x + 3), .ref (x + 24), .ref (x + 46), .ref (x + 74), .ref (x + 80), .ref (x + 132), .ref (x + 121)]) := ((hF2 x (fun j9 h8 h7 => (show False from h7).elim)).trans ((hF1 x (fun j9 h8 h7 => (show False from h7).elim)).trans h_2))
  refine z_get (ref := "FlowExporter") (C := RX11) (T := TX11) (N := 8) (ci := 13) (v := .ref (x + 121)) B hu_X11_raw_X11 rfl 7 (Nat.le_of_ble_eq_true rfl) hv_X11_raw_62 rfl h_3 rfl dX11_raw_10 ?_
  obtain ⟨n_3, h_4, b_3⟩ := in20 (k := 121) hI2 rfl
  have h_5 : Φ2 (x + 121) = some (o_ 11 [.ref (x + 122), .ref (x + 123), .ref (x + 126), .ref (x + 129), .int (nI n_3)]) := h_4
  refine z_get (ref := "FlowExporter$Sums") (C := RX9) (T := TX9) (N := 5) (ci := 11) (v := .ref (x + 123)) B hu_X11_raw_X9 rfl 1 (Nat.le_of_ble_eq_true rfl) hv_X11_raw_315 rfl h_5 rfl dX11_raw_13 ?_
  refine z_iload_n B dX11_raw_16 rfl 2 rfl ?_
  obtain ⟨f_1, h_6, r_3⟩ := in22 (k := 123) hI2 rfl
  have h_7 : Φ2 (x + 123) = some (aq_ G 7 2 f_1) := h_6
  refine z_aaldA (b := x + (123 + 1 + n_2)) B rfl h_7 (vp_in_nI (by omega) (by omega)) ((congrArg f_1 (nI_clamp (by omega))).trans (r_3 n_2 (by omega))) dX11_raw_17 ?_
  refine z_iload_n B dX11_raw_18 rfl 1 rfl ?_
  obtain ⟨f_2, h_8⟩ := in21 (k := 123 + 1 + n_2) hI2 (kd_2a (by omega))
  have h_9 : Φ2 (x + (123 + 1 + n_2)) = some (al_ G 24 f_2) := h_8
  refine z_lald B h_9 (vp_in_nI (by omega) (by omega)) dX11_raw_19 ?_
  refine z_fl (fun v_1 => ?_)
  exact zb_ret (Nat.le_of_ble_eq_true rfl) (Nat.le_of_ble_eq_true rfl) (z_ret_l B dX11_raw_20 ⟨⟨_, rfl⟩, rfl, hI2, (fun b9 h9 => ((hF2 b9 (fun j9 h8 h7 => (show False from h7).elim)).trans ((hF1 b9 (fun j9 h8 h7 => (show False from h7).elim)).trans rfl)))⟩)

theorem hu_X11_estimate_X11 : ∀ w ∈ u_ws RX11 TX11 8, w ∈ wsX11_estimate := fun _ h => List.mem_cons_of_mem _ (List.mem_append_left _ (List.mem_append_left _ (List.mem_append_left _ (List.mem_append_left _ (List.mem_append_right _ (h))))))

theorem hv_X11_estimate_62 : Cond.fieldLink RX11 62 "FlowExporter" (TX11 7).2.1 (TX11 7).2.2.1 ∈ wsX11_estimate := List.mem_cons_of_mem _ (List.mem_append_left _ (List.mem_append_left _ (List.mem_append_left _ (List.mem_append_left _ (List.mem_append_left _ (List.mem_of_getElem? (i := 0) rfl))))))

theorem hu_X11_estimate_X9 : ∀ w ∈ u_ws RX9 TX9 5, w ∈ wsX11_estimate := fun _ h => List.mem_cons_of_mem _ (List.mem_append_left _ (List.mem_append_left _ (List.mem_append_left _ (List.mem_append_right _ (h)))))

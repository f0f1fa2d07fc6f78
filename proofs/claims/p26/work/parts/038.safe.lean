set_option maxHeartbeats 4000000 in
set_option maxRecDepth 100000 in
theorem s_X4_flowAt_81 (G : EnvG) (l : Launch) (Φ : Hm) (sz x ca : Nat) (n : Nat) (w : Nat) (Fs : Nat → Fl) (pp : Nat → Nat) (i : Nat) (hx : G.2.2.2 ≤ x) (hI : In G x ca Φ) (hc0 : Φ (x + 81) = some (o_ 6 [.ref (x + 82), .int (nI n)])) (hcf0 : TbC G x n w Fs pp Φ) (hi : i < 12) : Ct G l yX4_flowAt wsX4_flowAt ({ frames := 0, cells := 0, slots := 0, locals := 0 }) 0 0 [.ref (x + 81), .int (nI i)] Φ sz (fun v Φ1 sz1 => (v = some (.ref (x + (83 + pp i)))) ∧ sz1 = sz ∧ In G x (ca) Φ1 ∧ Fr x (fun j9 => False) Φ Φ1) := by
  refine Ct.of (cc := cX4_flowAt) (maxL := 2) (ret := (some (.object "FlowExporter$Flow"))) (by decide) rfl (Nat.le_of_ble_eq_true rfl) ?_
  intro p9 e9 s9 m9 w9 t9 k9 B
  show Z p9 l e9 _ s9 m9 _ w9 t9 k9 _ G 2 0 [(0, .ref (x + 81)), (1, .int (nI i))] [] Φ sz 0 0
  refine z_aload_n B dX4_flowAt_0 rfl 0 rfl ?_
  refine z_get (ref := "FlowExporter$FlowTable") (C := RX4) (T := TX4) (N := 2) (ci := 6) (v := .ref (x + 82)) B hu_X4_flowAt_X4 rfl 0 (Nat.le_of_ble_eq_true rfl) hv_X4_flowAt_23 rfl hc0 rfl dX4_flowAt_1 ?_
  refine z_iload_n B dX4_flowAt_4 rfl 1 rfl ?_
  refine z_if_lt (tgt := 21) B dX4_flowAt_5 rfl (fun c_1 => ?_) (fun c_1 => ?_)
  · have e_1 : i < 0 := (nI_ltI (a := i) (b := 0) (by omega) (by omega)).mp c_1
    refine z_iconst (v := 0) B dX4_flowAt_21 rfl ?_
    obtain ⟨f_1, h_1, r_1⟩ := in18 (k := 82) hI rfl
    replace r_1 : ∀ j, j < 12 → ∃ m, m < 12 ∧ f_1 j = some (x + (83 + m)) := r_1
    have h_2 : Φ (x + 82) = some (aq_ G 5 12 f_1) := h_1
    refine z_aald (b := x + (83 + pp 0)) B rfl h_2 (vin rfl) ((TbR.row hcf0 h_2 (show 0 < 12 by omega))) dX4_flowAt_22 ?_
    exact z_ret_a B dX4_flowAt_23 ⟨((show False by omega).elim), rfl, hI, (fun b9 h9 => rfl)⟩
  · have e_2 : ¬ (i < 0) := fun h9 => c_1 ((nI_ltI (a := i) (b := 0) (by omega) (by omega)).mpr h9)
    refine z_iload_n B dX4_flowAt_8 rfl 1 rfl ?_
    refine z_aload_n B dX4_flowAt_9 rfl 0 rfl ?_
    refine z_get (ref := "FlowExporter$FlowTable") (C := RX4) (T := TX4) (N := 2) (ci := 6) (v := .ref (x + 82)) B hu_X4_flowAt_X4 rfl 0 (Nat.le_of_ble_eq_true rfl) hv_X4_flowAt_23 rfl hc0 rfl dX4_flowAt_10 ?_
    obtain ⟨f_2, h_3, r_2⟩ := in18 (k := 82) hI rfl
    replace r_2 : ∀ j, j < 12 → ∃ m, m < 12 ∧ f_2 j = some (x + (83 + m)) := r_2
    have h_4 : Φ (x + 82) = some (aq_ G 5 12 f_2) := h_3
    refine z_alen (t := 5) (v := 12) B rfl h_4 rfl dX4_flowAt_13 ?_
    refine z_icmp_ge (tgt := 21) B dX4_flowAt_14 rfl (fun c_2 => ?_) (fun c_2 => ?_)
    · have e_3 : 12 ≤ i := (nI_leI (a := 12) (b := i) (by omega) (by omega)).mp c_2
      refine z_iconst (v := 0) B dX4_flowAt_21 rfl ?_
      refine z_aald (b := x + (83 + pp 0)) B rfl h_4 (vin rfl) ((TbR.row hcf0 h_4 (show 0 < 12 by omega))) dX4_flowAt_22 ?_
      exact z_ret_a B dX4_flowAt_23 ⟨((show False by omega).elim), rfl, hI, (fun b9 h9 => rfl)⟩
    · have e_4 : ¬ (12 ≤ i) := fun h9 => c_2 ((nI_leI (a := 12) (b := i) (by omega) (by omega)).mpr h9)
      refine z_iload_n B dX4_flowAt_17 rfl 1 rfl ?_
      refine z_goto (tgt := 22) B dX4_flowAt_18 rfl ?_
      refine z_aald (b := x + (83 + pp i)) B rfl h_4 (vp_in_nI (by omega) (by omega)) ((congrArg f_2 (nI_clamp (by omega))).trans (TbR.row hcf0 h_4 (show i < 12 by omega))) dX4_flowAt_22 ?_
      exact z_ret_a B dX4_flowAt_23 ⟨rfl, rfl, hI, (fun b9 h9 => rfl)⟩

set_option maxHeartbeats 4000000 in
set_option maxRecDepth 100000 in
theorem s_X4_indexOf_81 (G : EnvG) (l : Launch) (Φ : Hm) (sz x ca : Nat) (n : Nat) (Fs : Nat → Fl) (pp : Nat → Nat) (K : Nat) (hx : G.2.2.2 ≤ x) (hI : In G x ca Φ) (hc0 : Φ (x + 81) = some (o_ 6 [.ref (x + 82), .int (nI n)])) (hcf0 : TbC G x n 99 Fs pp Φ) (hn : n ≤ 12) (hK : K < 2 ^ 40) : Ct G l yX4_indexOf wsX4_indexOf ({ frames := 0, cells := 0, slots := 0, locals := 0 }) 0 0 [.ref (x + 81), .long (Int64.ofNat K)] Φ sz (fun v Φ1 sz1 => ((v = some (.int (-1)) ∧ ¬ ixN Fs K n < n) ∨ (v = some (.int (nI (ixN Fs K n))) ∧ ixN Fs K n < n)) ∧ sz1 = sz ∧ In G x (ca) Φ1 ∧ Fr x (fun j9 => False) Φ Φ1) := by
  refine Ct.of (cc := cX4_indexOf) (maxL := 4) (ret := (some .int)) (by decide) rfl (Nat.le_of_ble_eq_true rfl) ?_
  intro p9 e9 s9 m9 w9 t9 k9 B
  show Z p9 l e9 _ s9 m9 _ w9 t9 k9 _ G 4 0 [(0, .ref (x + 81)), (1, .long (Int64.ofNat K))] [] Φ sz 0 0
  refine z_iconst (v := 0) B dX4_indexOf_0 rfl ?_
  refine z_istore_n (lv' := [(3, .int 0), (0, .ref (x + 81)), (1, .long (Int64.ofNat K))]) B dX4_indexOf_1 rfl (Nat.le_of_ble_eq_true rfl) rfl ?_
  refine z_lv [0, 1, 2] rfl ?_
  refine z_loop (α := Nat) (fun (a9 : Nat) Φi => In G x (ca) Φi ∧ Fr x (fun j9 => False) Φ Φi ∧ (a9 ≤ n) ∧ (∀ i9, i9 < a9 → ¬ (Fs i9).1 = K) ∧ True) (fun a9 => [(3, .int (nI a9)), (0, .ref (x + 81)), (1, .long (Int64.ofNat K))]) (fun a9 => n - a9) ?_ (0) ⟨hI, fun _ _ => rfl, (show 0 ≤ n by omega), (fun i9 h9 => absurd h9 (Nat.not_lt_zero i9)), trivial⟩
  rintro i_1 Φl1 ⟨hI1, hF1, b_1, b_2, -⟩ ih1
  replace hI1 : In G x (ca) Φl1 := hI1
  replace b_1 : i_1 ≤ n := b_1
  replace b_2 : ∀ i9, i9 < i_1 → ¬ (Fs i9).1 = K := b_2
  show Z p9 l e9 _ s9 m9 _ w9 t9 k9 _ G 4 2 [(3, .int (nI i_1)), (0, .ref (x + 81)), (1, .long (Int64.ofNat K))] [] Φl1 _ _ _
  refine z_iload_n B dX4_indexOf_2 rfl 0 rfl ?_
  refine z_aload_n B dX4_indexOf_3 rfl 1 rfl ?_
  have h_1 : Φl1 (x + 81) = some (o_ 6 [.ref (x + 82), .int (nI n)]) := ((hF1 (x + 81) (fun j9 h8 h7 => (show False from h7).elim)).trans hc0)
  refine z_get (ref := "FlowExporter$FlowTable") (C := RX4) (T := TX4) (N := 2) (ci := 6) (v := .int (nI n)) B hu_X4_indexOf_X4 rfl 1 (Nat.le_of_ble_eq_true rfl) hv_X4_indexOf_9 rfl h_1 rfl dX4_indexOf_4 ?_
  refine z_icmp_ge (tgt := 32) B dX4_indexOf_7 rfl (fun c_1 => ?_) (fun c_1 => ?_)
  · have e_1 : n ≤ i_1 := (nI_leI (a := n) (b := i_1) (by omega) (by omega)).mp c_1
    refine z_iconst (v := (-1)) B dX4_indexOf_32 rfl ?_
    have hq9 : ixN Fs K n = n := ixN_no n (fun i9 h9 => b_2 i9 (by omega))
    exact z_ret_i B dX4_indexOf_33 ⟨(Or.inl ⟨rfl, by omega⟩), rfl, hI1, (fun b9 h9 => ((hF1 b9 (fun j9 h8 h7 => (show False from h7).elim)).trans rfl))⟩
  · have e_2 : ¬ (n ≤ i_1) := fun h9 => c_1 ((nI_leI (a := n) (b := i_1) (by omega) (by omega)).mpr h9)
    refine z_aload_n B dX4_indexOf_10 rfl 1 rfl ?_
    refine z_get (ref := "FlowExporter$FlowTable") (C := RX4) (T := TX4) (N := 2) (ci := 6) (v := .ref (x + 82)) B hu_X4_indexOf_X4 rfl 0 (Nat.le_of_ble_eq_true rfl) hv_X4_indexOf_23 rfl h_1 rfl dX4_indexOf_11 ?_
    refine z_iload_n B dX4_indexOf_14 rfl 0 rfl ?_
    obtain ⟨f_1, h_2, r_1⟩ := in18 (k := 82) hI1 rfl
    replace r_1 : ∀ j, j < 12 → ∃ m, m < 12 ∧ f_1 j = some (x + (83 + m)) := r_1
    have h_3 : Φl1 (x + 82) = some (aq_ G 5 12 f_1) := h_2
    have hcg1 : TbC G x n 99 Fs pp Φl1 := (TbC.fr hcf0 hF1 (fun j9 h7 => (show False from h7).elim))
    have e_3 := TbR.fl hcg1 (show i_1 < n by omega) (show ¬ i_1 = 99 by omega)
    have b_3 : (Fs i_1).1 < 2 ^ 40 ∧ (Fs i_1).2.2.2.1 ≤ 1000000 ∧ (Fs i_1).2.2.2.2 ≤ 1000000 := e_3.1
    have h_4 : Φl1 (x + (83 + pp i_1)) = some (o_ 5 [.long (Int64.ofNat (Fs i_1).1), .long ((Fs i_1).2.1), .long ((Fs i_1).2.2.1), .int (nI ((Fs i_1).2.2.2.1)), .int (nI ((Fs i_1).2.2.2.2))]) := e_3.2
    refine z_aald (b := x + (83 + pp i_1)) B rfl h_3 (vp_in_nI (by omega) (by omega)) ((congrArg f_1 (nI_clamp (by omega))).trans (TbR.row hcg1 h_3 (show i_1 < 12 by omega))) dX4_indexOf_15 ?_
    refine z_get (ref := "FlowExporter$Flow") (C := RX3) (T := TX3) (N := 5) (ci := 5) (v := .long (Int64.ofNat (Fs i_1).1)) B hu_X4_indexOf_X3 rfl 0 (Nat.le_of_ble_eq_true rfl) hv_X4_indexOf_28 rfl h_4 rfl dX4_indexOf_16 ?_
    refine z_lload_n B dX4_indexOf_19 rfl 2 rfl ?_
    refine z_lcmp B dX4_indexOf_20 ?_
    refine z_if_ne (tgt := 26) B dX4_indexOf_21 rfl (fun c_2 => ?_) (fun c_2 => ?_)
    · have q_1 : ¬ (Fs i_1).1 = K := fun h9 => c_2 ((lg_cmp_eq _ _).mpr (congrArg Int64.ofNat h9))
      refine z_iinc (k := 0) (v := nI (i_1 + 1)) (lv' := [(3, .int (nI (i_1 + 1))), (0, .ref (x + 81)), (1, .long (Int64.ofNat K))]) B dX4_indexOf_26 rfl (nI_add i_1 1) (Nat.le_of_ble_eq_true rfl) rfl ?_
      refine z_goto (tgt := 2) B dX4_indexOf_29 rfl ?_
      refine z_lv [0, 1, 2] rfl ?_
      exact ih1 (i_1 + 1) Φl1 (show n - (i_1 + 1) < n - i_1 by omega) ⟨hI1, (fun b9 h9 => ((hF1 b9 (fun j9 h8 h7 => (show False from h7).elim)).trans rfl)), (show (i_1 + 1) ≤ n by omega), (all_s b_2 q_1), trivial⟩
    · have q_2 : (Fs i_1).1 = K := ofN_inj (by omega) (by omega) ((lg_cmp_eq _ _).mp c_2)
      refine z_iload_n B dX4_indexOf_24 rfl 0 rfl ?_
      have hq9 : ixN Fs K n = i_1 := ixN_ok b_2 q_2 n (by omega)
      exact z_ret_i B dX4_indexOf_25 ⟨(Or.inr ⟨congrArg (fun w9 : Nat => some (Value.int (nI w9))) hq9.symm, by omega⟩), rfl, hI1, (fun b9 h9 => ((hF1 b9 (fun j9 h8 h7 => (show False from h7).elim)).trans rfl))⟩

set_option maxHeartbeats 4000000 in
set_option maxRecDepth 100000 in
theorem s_X4_addFlow_81 (G : EnvG) (l : Launch) (Φ : Hm) (sz x ca : Nat) (n : Nat) (Fs : Nat → Fl) (pp : Nat → Nat) (K : Nat) (t : Nat) (hx : G.2.2.2 ≤ x) (hI : In G x ca Φ) (hc0 : Φ (x + 81) = some (o_ 6 [.ref (x + 82), .int (nI n)])) (hcf0 : TbC G x n n Fs pp Φ) (hn : n < 12) : Ct G l yX4_addFlow wsX4_addFlow ({ frames := 1, cells := 0, slots := 0, locals := 23 }) 0 0 [.ref (x + 81), .long (Int64.ofNat K), .int (nI t)] Φ sz (fun v Φ1 sz1 => (v = some (.ref (x + (83 + pp n))) ∧ Φ1 (x + 81) = some (o_ 6 [.ref (x + 82), .int (nI (n + 1))]) ∧ Φ1 (x + (83 + pp n)) = some (o_ 5 [.long (Int64.ofNat K), .long 0, .long 0, .int (nI t), .int (nI t)]) ∧ TbC G x n n Fs pp Φ1) ∧ sz1 = sz ∧ In G x (ca) Φ1 ∧ Fr x (fun j9 => 81 ≤ j9 ∧ j9 < 95) Φ Φ1) := by
  refine Ct.of (cc := cX4_addFlow) (maxL := 5) (ret := (some (.object "FlowExporter$Flow"))) (by decide) rfl (Nat.le_of_ble_eq_true rfl) ?_
  intro p9 e9 s9 m9 w9 t9 k9 B
  show Z p9 l e9 _ s9 m9 _ w9 t9 k9 _ G 5 0 [(0, .ref (x + 81)), (1, .long (Int64.ofNat K)), (3, .int (nI t))] [] Φ sz 0 0
  have hlt9 : pp n < 12 := TbR.lt hcf0 (show n < 12 by omega)
  refine z_aload_n B dX4_addFlow_0 rfl 0 rfl ?_
  refine z_aload_n B dX4_addFlow_1 rfl 0 rfl ?_
  refine z_get (ref := "FlowExporter$FlowTable") (C := RX4) (T := TX4) (N := 2) (ci := 6) (v := .int (nI n)) B hu_X4_addFlow_X4 rfl 1 (Nat.le_of_ble_eq_true rfl) hv_X4_addFlow_9 rfl hc0 rfl dX4_addFlow_2 ?_
  refine z_callV (As := [.int (nI n)]) (rest := []) B (s_X4_flowAt_81 G l Φ sz x (ca) n n Fs pp n hx hI hc0 hcf0 (show n < 12 by omega)) (cwV 1 B.1.2.2.2.2 gX4_addFlow_X4_flowAt rfl rfl rfl (by decide +kernel) ⟨Nat.le_of_ble_eq_true rfl, Nat.le_of_ble_eq_true rfl⟩) hc0 rfl rfl rfl rfl (Nat.le_of_ble_eq_true rfl) dX4_addFlow_5 ⟨Nat.le_of_ble_eq_true rfl, Nat.le_of_ble_eq_true rfl⟩ (fun r_1 Φ1 sz1 st1 hp1 hs1 => ?_)
  obtain ⟨rfl, hq1, hI1, hF1⟩ := hp1
  subst sz1
  replace hs1 : st1 = [.ref (x + (83 + pp n))] := hs1
  subst st1
  replace hI1 : In G x (ca) Φ1 := hI1
  refine z_astore (lv' := [(4, .ref (x + (83 + pp n))), (0, .ref (x + 81)), (1, .long (Int64.ofNat K)), (3, .int (nI t))]) B dX4_addFlow_8 (Nat.le_of_ble_eq_true rfl) rfl ?_
  refine z_aload B dX4_addFlow_10 0 rfl ?_
  refine z_lload_n B dX4_addFlow_12 rfl 2 rfl ?_
  refine z_iload_n B dX4_addFlow_13 rfl 3 rfl ?_
  obtain ⟨v_1, v_2, v_3, v_4, v_5, h_1⟩ := in19 (k := 83 + pp n) hI1 (kd_f (k := 82) rfl (show pp n < 12 from TbR.lt hcf0 (by omega)))
  have h_2 : Φ1 (x + (83 + pp n)) = some (o_ 5 [.long v_1, .long v_2, .long v_3, .int v_4, .int v_5]) := h_1
  refine z_callV (As := [.long (Int64.ofNat K), .int (nI t)]) (rest := []) B (s_X3_beginX G l Φ1 sz x (ca) (83 + pp n) (Int64.ofNat K) (nI t) hx hI1 (kd_f (k := 82) rfl (show pp n < 12 from TbR.lt hcf0 (by omega)))) (cwV 2 B.1.2.2.2.2 gX4_addFlow_X3_begin rfl rfl rfl (by decide +kernel) ⟨Nat.le_of_ble_eq_true rfl, Nat.le_of_ble_eq_true rfl⟩) h_2 rfl rfl rfl rfl (Nat.le_of_ble_eq_true rfl) dX4_addFlow_14 ⟨Nat.le_of_ble_eq_true rfl, Nat.le_of_ble_eq_true rfl⟩ (fun r_2 Φ2 sz2 st2 hp2 hs2 => ?_)
  obtain ⟨⟨rfl, h_3⟩, hq2, hI2, hF2⟩ := hp2
  subst sz2
  replace hs2 : st2 = [] := hs2
  subst st2
  replace hI2 : In G x (ca) Φ2 := hI2
  refine z_aload_n B dX4_addFlow_17 rfl 1 rfl ?_
  refine z_aload_n B dX4_addFlow_18 rfl 1 rfl ?_
  have h_4 : Φ2 (x + 81) = some (o_ 6 [.ref (x + 82), .int (nI n)]) := ((hF2 (x + 81) (fun j9 h8 h7 => by have h6 : j9 = (83 + pp n) := h7; omega)).trans ((hF1 (x + 81) (fun j9 h8 h7 => (show False from h7).elim)).trans hc0))
  refine z_get (ref := "FlowExporter$FlowTable") (C := RX4) (T := TX4) (N := 2) (ci := 6) (v := .int (nI n)) B hu_X4_addFlow_X4 rfl 1 (Nat.le_of_ble_eq_true rfl) hv_X4_addFlow_9 rfl h_4 rfl dX4_addFlow_19 ?_
  refine z_iconst (v := 1) B dX4_addFlow_22 rfl ?_
  refine z_iadd B dX4_addFlow_23 ?_
  refine z_top (st1 := [.int (nI (n + 1)), .ref (x + 81)]) (congrArg (fun w9 : Int32 => ([.int w9, .ref (x + 81)] : List Value)) (nI_add n 1)) ?_
  refine z_aload_n B dX4_addFlow_24 rfl 1 rfl ?_
  refine z_get (ref := "FlowExporter$FlowTable") (C := RX4) (T := TX4) (N := 2) (ci := 6) (v := .ref (x + 82)) B hu_X4_addFlow_X4 rfl 0 (Nat.le_of_ble_eq_true rfl) hv_X4_addFlow_23 rfl h_4 rfl dX4_addFlow_25 ?_
  obtain ⟨f_1, h_5, r_3⟩ := in18 (k := 82) hI2 rfl
  replace r_3 : ∀ j, j < 12 → ∃ m, m < 12 ∧ f_1 j = some (x + (83 + m)) := r_3
  have h_6 : Φ2 (x + 82) = some (aq_ G 5 12 f_1) := h_5
  refine z_alen (t := 5) (v := 12) B rfl h_6 rfl dX4_addFlow_28 ?_
  refine z_mmin (v := nI (min (n + 1) 12)) B (by decide +kernel) (by decide +kernel) (by decide +kernel) (by decide +kernel) (nI_min (a := n + 1) (b := 12) (by omega) (by omega)) ⟨Nat.le_of_ble_eq_true rfl, Nat.le_of_ble_eq_true rfl⟩ ⟨Nat.le_of_ble_eq_true rfl, Nat.le_of_ble_eq_true rfl⟩ dX4_addFlow_29 ?_
  refine z_put (ref := "FlowExporter$FlowTable") (C := RX4) (T := TX4) (N := 2) (ci := 6) (v := .int (nI (min (n + 1) 12))) B hu_X4_addFlow_X4 tyX4 tyX4_ok nmX4 rfl 1 (Nat.le_of_ble_eq_true rfl) hv_X4_addFlow_9 rfl (Or.inl rfl) h_4 (Nat.le_trans hx (Nat.le_add_right x 81)) rfl rfl (Nat.le_of_ble_eq_true rfl) dX4_addFlow_32 (fun Φ3 hΦ1 => ?_)
  have h_7 : Φ3 (x + 81) = some (o_ 6 [.ref (x + 82), .int (nI (min (n + 1) 12))]) := fset_at hΦ1
  have hI3 : In G x (ca) Φ3 := In.put (k := 81) hI2 hΦ1 (ok17 (k := 81) rfl ⟨min (n + 1) 12, rfl, (show min (n + 1) 12 ≤ 12 by omega)⟩)
  refine z_aload B dX4_addFlow_35 0 rfl ?_
  have h_8 : Φ3 (x + (83 + pp n)) = some (o_ 5 [.long (Int64.ofNat K), .long 0, .long 0, .int (nI t), .int (nI t)]) := ((fset_fr hΦ1 (by omega)).trans h_3)
  have hcg1 : TbC G x n n Fs pp Φ3 := (TbC.off (k := 81) (TbR.frw (TbC.fr hcf0 hF1 (fun j9 h7 => (show False from h7).elim)) hF2 (by omega) (fun j9 h7 => Or.inr h7)) hΦ1 (by omega))
  exact z_ret_a B dX4_addFlow_37 ⟨⟨rfl, (h_7.trans (congrArg (fun w9 : Nat => some (o_ 6 [.ref (x + 82), .int (nI w9)])) (show min (n + 1) 12 = n + 1 by omega))), h_8, hcg1⟩, rfl, hI3, (fun b9 h9 => ((fset_fr hΦ1 (fun h8 => h9 (81) h8 (show 81 ≤ 81 ∧ 81 < 95 by decide))).trans ((hF2 b9 (fun j9 h8 h7 => h9 j9 h8 (show 81 ≤ j9 ∧ j9 < 95 by have h6 : j9 = (83 + pp n) := h7; omega))).trans ((hF1 b9 (fun j9 h8 h7 => (show False from h7).elim)).trans rfl))))⟩

set_option maxHeartbeats 4000000 in
set_option maxRecDepth 100000 in
theorem s_X4_isFull_95 (G : EnvG) (l : Launch) (Φ : Hm) (sz x ca : Nat) (n : Nat) (hx : G.2.2.2 ≤ x) (hI : In G x ca Φ) (hc0 : Φ (x + 95) = some (o_ 6 [.ref (x + 96), .int (nI n)])) (hn : n ≤ 24) : Ct G l yX4_isFull wsX4_isFull ({ frames := 0, cells := 0, slots := 0, locals := 0 }) 0 0 [.ref (x + 95)] Φ sz (fun v Φ1 sz1 => ((v = some (.int 1) ∧ 24 ≤ n) ∨ (v = some (.int 0) ∧ n < 24)) ∧ sz1 = sz ∧ In G x (ca) Φ1 ∧ Fr x (fun j9 => False) Φ Φ1) := by
  refine Ct.of (cc := cX4_isFull) (maxL := 1) (ret := (some .boolean)) (by decide) rfl (Nat.le_of_ble_eq_true rfl) ?_
  intro p9 e9 s9 m9 w9 t9 k9 B
  show Z p9 l e9 _ s9 m9 _ w9 t9 k9 _ G 1 0 [(0, .ref (x + 95))] [] Φ sz 0 0
  refine z_aload_n B dX4_isFull_0 rfl 0 rfl ?_
  refine z_get (ref := "FlowExporter$FlowTable") (C := RX4) (T := TX4) (N := 2) (ci := 6) (v := .int (nI n)) B hu_X4_isFull_X4 rfl 1 (Nat.le_of_ble_eq_true rfl) hv_X4_isFull_9 rfl hc0 rfl dX4_isFull_1 ?_
  refine z_aload_n B dX4_isFull_4 rfl 0 rfl ?_
  refine z_get (ref := "FlowExporter$FlowTable") (C := RX4) (T := TX4) (N := 2) (ci := 6) (v := .ref (x + 96)) B hu_X4_isFull_X4 rfl 0 (Nat.le_of_ble_eq_true rfl) hv_X4_isFull_23 rfl hc0 rfl dX4_isFull_5 ?_
  obtain ⟨f_1, h_1, r_1⟩ := in18 (k := 96) hI rfl
  replace r_1 : ∀ j, j < 24 → ∃ m, m < 24 ∧ f_1 j = some (x + (97 + m)) := r_1
  have h_2 : Φ (x + 96) = some (aq_ G 5 24 f_1) := h_1
  refine z_alen (t := 5) (v := 24) B rfl h_2 rfl dX4_isFull_8 ?_
  refine z_icmp_lt (tgt := 16) B dX4_isFull_9 rfl (fun c_1 => ?_) (fun c_1 => ?_)
  · have e_1 : n < 24 := (nI_ltI (a := n) (b := 24) (by omega) (by omega)).mp c_1
    refine z_iconst (v := 0) B dX4_isFull_16 rfl ?_
    exact z_ret_z B dX4_isFull_17 (by decide) ⟨(Or.inr ⟨rfl, by omega⟩), rfl, hI, (fun b9 h9 => rfl)⟩
  · have e_2 : ¬ (n < 24) := fun h9 => c_1 ((nI_ltI (a := n) (b := 24) (by omega) (by omega)).mpr h9)
    refine z_iconst (v := 1) B dX4_isFull_12 rfl ?_
    refine z_goto (tgt := 17) B dX4_isFull_13 rfl ?_
    exact z_ret_z B dX4_isFull_17 (by decide) ⟨(Or.inl ⟨rfl, by omega⟩), rfl, hI, (fun b9 h9 => rfl)⟩

set_option maxHeartbeats 4000000 in
set_option maxRecDepth 100000 in
theorem s_X4_flowAt_95 (G : EnvG) (l : Launch) (Φ : Hm) (sz x ca : Nat) (n : Nat) (w : Nat) (Fs : Nat → Fl) (pp : Nat → Nat) (i : Nat) (hx : G.2.2.2 ≤ x) (hI : In G x ca Φ) (hc0 : Φ (x + 95) = some (o_ 6 [.ref (x + 96), .int (nI n)])) (hcf0 : TbT G x n w Fs pp Φ) (hi : i < 24) : Ct G l yX4_flowAt wsX4_flowAt ({ frames := 0, cells := 0, slots := 0, locals := 0 }) 0 0 [.ref (x + 95), .int (nI i)] Φ sz (fun v Φ1 sz1 => (v = some (.ref (x + (97 + pp i)))) ∧ sz1 = sz ∧ In G x (ca) Φ1 ∧ Fr x (fun j9 => False) Φ Φ1) := by
  refine Ct.of (cc := cX4_flowAt) (maxL := 2) (ret := (some (.object "FlowExporter$Flow"))) (by decide) rfl (Nat.le_of_ble_eq_true rfl) ?_
  intro p9 e9 s9 m9 w9 t9 k9 B
  show Z p9 l e9 _ s9 m9 _ w9 t9 k9 _ G 2 0 [(0, .ref (x + 95)), (1, .int (nI i))] [] Φ sz 0 0
  refine z_aload_n B dX4_flowAt_0 rfl 0 rfl ?_
  refine z_get (ref := "FlowExporter$FlowTable") (C := RX4) (T := TX4) (N := 2) (ci := 6) (v := .ref (x + 96)) B hu_X4_flowAt_X4 rfl 0 (Nat.le_of_ble_eq_true rfl) hv_X4_flowAt_23 rfl hc0 rfl dX4_flowAt_1 ?_
  refine z_iload_n B dX4_flowAt_4 rfl 1 rfl ?_
  refine z_if_lt (tgt := 21) B dX4_flowAt_5 rfl (fun c_1 => ?_) (fun c_1 => ?_)
  · have e_1 : i < 0 := (nI_ltI (a := i) (b := 0) (by omega) (by omega)).mp c_1
    refine z_iconst (v := 0) B dX4_flowAt_21 rfl ?_
    obtain ⟨f_1, h_1, r_1⟩ := in18 (k := 96) hI rfl
    replace r_1 : ∀ j, j < 24 → ∃ m, m < 24 ∧ f_1 j = some (x + (97 + m)) := r_1
    have h_2 : Φ (x + 96) = some (aq_ G 5 24 f_1) := h_1
    refine z_aald (b := x + (97 + pp 0)) B rfl h_2 (vin rfl) ((TbR.row hcf0 h_2 (show 0 < 24 by omega))) dX4_flowAt_22 ?_
    exact z_ret_a B dX4_flowAt_23 ⟨((show False by omega).elim), rfl, hI, (fun b9 h9 => rfl)⟩
  · have e_2 : ¬ (i < 0) := fun h9 => c_1 ((nI_ltI (a := i) (b := 0) (by omega) (by omega)).mpr h9)
    refine z_iload_n B dX4_flowAt_8 rfl 1 rfl ?_
    refine z_aload_n B dX4_flowAt_9 rfl 0 rfl ?_
    refine z_get (ref := "FlowExporter$FlowTable") (C := RX4) (T := TX4) (N := 2) (ci := 6) (v := .ref (x + 96)) B hu_X4_flowAt_X4 rfl 0 (Nat.le_of_ble_eq_true rfl) hv_X4_flowAt_23 rfl hc0 rfl dX4_flowAt_10 ?_
    obtain ⟨f_2, h_3, r_2⟩ := in18 (k := 96) hI rfl
    replace r_2 : ∀ j, j < 24 → ∃ m, m < 24 ∧ f_2 j = some (x + (97 + m)) := r_2
    have h_4 : Φ (x + 96) = some (aq_ G 5 24 f_2) := h_3
    refine z_alen (t := 5) (v := 24) B rfl h_4 rfl dX4_flowAt_13 ?_
    refine z_icmp_ge (tgt := 21) B dX4_flowAt_14 rfl (fun c_2 => ?_) (fun c_2 => ?_)
    · have e_3 : 24 ≤ i := (nI_leI (a := 24) (b := i) (by omega) (by omega)).mp c_2
      refine z_iconst (v := 0) B dX4_flowAt_21 rfl ?_
      refine z_aald (b := x + (97 + pp 0)) B rfl h_4 (vin rfl) ((TbR.row hcf0 h_4 (show 0 < 24 by omega))) dX4_flowAt_22 ?_
      exact z_ret_a B dX4_flowAt_23 ⟨((show False by omega).elim), rfl, hI, (fun b9 h9 => rfl)⟩
    · have e_4 : ¬ (24 ≤ i) := fun h9 => c_2 ((nI_leI (a := 24) (b := i) (by omega) (by omega)).mpr h9)
      refine z_iload_n B dX4_flowAt_17 rfl 1 rfl ?_
      refine z_goto (tgt := 22) B dX4_flowAt_18 rfl ?_
      refine z_aald (b := x + (97 + pp i)) B rfl h_4 (vp_in_nI (by omega) (by omega)) ((congrArg f_2 (nI_clamp (by omega))).trans (TbR.row hcf0 h_4 (show i < 24 by omega))) dX4_flowAt_22 ?_
      exact z_ret_a B dX4_flowAt_23 ⟨rfl, rfl, hI, (fun b9 h9 => rfl)⟩

set_option maxHeartbeats 4000000 in
set_option maxRecDepth 100000 in
theorem s_X4_indexOf_95 (G : EnvG) (l : Launch) (Φ : Hm) (sz x ca : Nat) (n : Nat) (Fs : Nat → Fl) (pp : Nat → Nat) (K : Nat) (hx : G.2.2.2 ≤ x) (hI : In G x ca Φ) (hc0 : Φ (x + 95) = some (o_ 6 [.ref (x + 96), .int (nI n)])) (hcf0 : TbT G x n 99 Fs pp Φ) (hn : n ≤ 24) (hK : K < 2 ^ 40) : Ct G l yX4_indexOf wsX4_indexOf ({ frames := 0, cells := 0, slots := 0, locals := 0 }) 0 0 [.ref (x + 95), .long (Int64.ofNat K)] Φ sz (fun v Φ1 sz1 => ((v = some (.int (-1)) ∧ ¬ ixN Fs K n < n) ∨ (v = some (.int (nI (ixN Fs K n))) ∧ ixN Fs K n < n)) ∧ sz1 = sz ∧ In G x (ca) Φ1 ∧ Fr x (fun j9 => False) Φ Φ1) := by
  refine Ct.of (cc := cX4_indexOf) (maxL := 4) (ret := (some .int)) (by decide) rfl (Nat.le_of_ble_eq_true rfl) ?_
  intro p9 e9 s9 m9 w9 t9 k9 B
  show Z p9 l e9 _ s9 m9 _ w9 t9 k9 _ G 4 0 [(0, .ref (x + 95)), (1, .long (Int64.ofNat K))] [] Φ sz 0 0
  refine z_iconst (v := 0) B dX4_indexOf_0 rfl ?_
  refine z_istore_n (lv' := [(3, .int 0), (0, .ref (x + 95)), (1, .long (Int64.ofNat K))]) B dX4_indexOf_1 rfl (Nat.le_of_ble_eq_true rfl) rfl ?_
  refine z_lv [0, 1, 2] rfl ?_
  refine z_loop (α := Nat) (fun (a9 : Nat) Φi => In G x (ca) Φi ∧ Fr x (fun j9 => False) Φ Φi ∧ (a9 ≤ n) ∧ (∀ i9, i9 < a9 → ¬ (Fs i9).1 = K) ∧ True) (fun a9 => [(3, .int (nI a9)), (0, .ref (x + 95)), (1, .long (Int64.ofNat K))]) (fun a9 => n - a9) ?_ (0) ⟨hI, fun _ _ => rfl, (show 0 ≤ n by omega), (fun i9 h9 => absurd h9 (Nat.not_lt_zero i9)), trivial⟩
  rintro i_1 Φl1 ⟨hI1, hF1, b_1, b_2, -⟩ ih1
  replace hI1 : In G x (ca) Φl1 := hI1
  replace b_1 : i_1 ≤ n := b_1
  replace b_2 : ∀ i9, i9 < i_1 → ¬ (Fs i9).1 = K := b_2
  show Z p9 l e9 _ s9 m9 _ w9 t9 k9 _ G 4 2 [(3, .int (nI i_1)), (0, .ref (x + 95)), (1, .long (Int64.ofNat K))] [] Φl1 _ _ _
  refine z_iload_n B dX4_indexOf_2 rfl 0 rfl ?_
  refine z_aload_n B dX4_indexOf_3 rfl 1 rfl ?_
  have h_1 : Φl1 (x + 95) = some (o_ 6 [.ref (x + 96), .int (nI n)]) := ((hF1 (x + 95) (fun j9 h8 h7 => (show False from h7).elim)).trans hc0)
  refine z_get (ref := "FlowExporter$FlowTable") (C := RX4) (T := TX4) (N := 2) (ci := 6) (v := .int (nI n)) B hu_X4_indexOf_X4 rfl 1 (Nat.le_of_ble_eq_true rfl) hv_X4_indexOf_9 rfl h_1 rfl dX4_indexOf_4 ?_
  refine z_icmp_ge (tgt := 32) B dX4_indexOf_7 rfl (fun c_1 => ?_) (fun c_1 => ?_)
  · have e_1 : n ≤ i_1 := (nI_leI (a := n) (b := i_1) (by omega) (by omega)).mp c_1
    refine z_iconst (v := (-1)) B dX4_indexOf_32 rfl ?_
    have hq9 : ixN Fs K n = n := ixN_no n (fun i9 h9 => b_2 i9 (by omega))
    exact z_ret_i B dX4_indexOf_33 ⟨(Or.inl ⟨rfl, by omega⟩), rfl, hI1, (fun b9 h9 => ((hF1 b9 (fun j9 h8 h7 => (show False from h7).elim)).trans rfl))⟩
  · have e_2 : ¬ (n ≤ i_1) := fun h9 => c_1 ((nI_leI (a := n) (b := i_1) (by omega) (by omega)).mpr h9)
    refine z_aload_n B dX4_indexOf_10 rfl 1 rfl ?_
    refine z_get (ref := "FlowExporter$FlowTable") (C := RX4) (T := TX4) (N := 2) (ci := 6) (v := .ref (x + 96)) B hu_X4_indexOf_X4 rfl 0 (Nat.le_of_ble_eq_true rfl) hv_X4_indexOf_23 rfl h_1 rfl dX4_indexOf_11 ?_
    refine z_iload_n B dX4_indexOf_14 rfl 0 rfl ?_
    obtain ⟨f_1, h_2, r_1⟩ := in18 (k := 96) hI1 rfl
    replace r_1 : ∀ j, j < 24 → ∃ m, m < 24 ∧ f_1 j = some (x + (97 + m)) := r_1
    have h_3 : Φl1 (x + 96) = some (aq_ G 5 24 f_1) := h_2
    have hcg1 : TbT G x n 99 Fs pp Φl1 := (TbT.fr hcf0 hF1 (fun j9 h7 => (show False from h7).elim))
    have e_3 := TbR.fl hcg1 (show i_1 < n by omega) (show ¬ i_1 = 99 by omega)
    have b_3 : (Fs i_1).1 < 2 ^ 40 ∧ (Fs i_1).2.2.2.1 ≤ 1000000 ∧ (Fs i_1).2.2.2.2 ≤ 1000000 := e_3.1
    have h_4 : Φl1 (x + (97 + pp i_1)) = some (o_ 5 [.long (Int64.ofNat (Fs i_1).1), .long ((Fs i_1).2.1), .long ((Fs i_1).2.2.1), .int (nI ((Fs i_1).2.2.2.1)), .int (nI ((Fs i_1).2.2.2.2))]) := e_3.2
    refine z_aald (b := x + (97 + pp i_1)) B rfl h_3 (vp_in_nI (by omega) (by omega)) ((congrArg f_1 (nI_clamp (by omega))).trans (TbR.row hcg1 h_3 (show i_1 < 24 by omega))) dX4_indexOf_15 ?_
    refine z_get (ref := "FlowExporter$Flow") (C := RX3) (T := TX3) (N := 5) (ci := 5) (v := .long (Int64.ofNat (Fs i_1).1)) B hu_X4_indexOf_X3 rfl 0 (Nat.le_of_ble_eq_true rfl) hv_X4_indexOf_28 rfl h_4 rfl dX4_indexOf_16 ?_
    refine z_lload_n B dX4_indexOf_19 rfl 2 rfl ?_
    refine z_lcmp B dX4_indexOf_20 ?_
    refine z_if_ne (tgt := 26) B dX4_indexOf_21 rfl (fun c_2 => ?_) (fun c_2 => ?_)
    · have q_1 : ¬ (Fs i_1).1 = K := fun h9 => c_2 ((lg_cmp_eq _ _).mpr (congrArg Int64.ofNat h9))
      refine z_iinc (k := 0) (v := nI (i_1 + 1)) (lv' := [(3, .int (nI (i_1 + 1))), (0, .ref (x + 95)), (1, .long (Int64.ofNat K))]) B dX4_indexOf_26 rfl (nI_add i_1 1) (Nat.le_of_ble_eq_true rfl) rfl ?_
      refine z_goto (tgt := 2) B dX4_indexOf_29 rfl ?_
      refine z_lv [0, 1, 2] rfl ?_
      exact ih1 (i_1 + 1) Φl1 (show n - (i_1 + 1) < n - i_1 by omega) ⟨hI1, (fun b9 h9 => ((hF1 b9 (fun j9 h8 h7 => (show False from h7).elim)).trans rfl)), (show (i_1 + 1) ≤ n by omega), (all_s b_2 q_1), trivial⟩
    · have q_2 : (Fs i_1).1 = K := ofN_inj (by omega) (by omega) ((lg_cmp_eq _ _).mp c_2)
      refine z_iload_n B dX4_indexOf_24 rfl 0 rfl ?_
      have hq9 : ixN Fs K n = i_1 := ixN_ok b_2 q_2 n (by omega)
      exact z_ret_i B dX4_indexOf_25 ⟨(Or.inr ⟨congrArg (fun w9 : Nat => some (Value.int (nI w9))) hq9.symm, by omega⟩), rfl, hI1, (fun b9 h9 => ((hF1 b9 (fun j9 h8 h7 => (show False from h7).elim)).trans rfl))⟩

set_option maxHeartbeats 4000000 in
set_option maxRecDepth 100000 in
theorem s_X4_addFlow_95 (G : EnvG) (l : Launch) (Φ : Hm) (sz x ca : Nat) (n : Nat) (Fs : Nat → Fl) (pp : Nat → Nat) (K : Nat) (t : Nat) (hx : G.2.2.2 ≤ x) (hI : In G x ca Φ) (hc0 : Φ (x + 95) = some (o_ 6 [.ref (x + 96), .int (nI n)])) (hcf0 : TbT G x n n Fs pp Φ) (hn : n < 24) : Ct G l yX4_addFlow wsX4_addFlow ({ frames := 1, cells := 0, slots := 0, locals := 23 }) 0 0 [.ref (x + 95), .long (Int64.ofNat K), .int (nI t)] Φ sz (fun v Φ1 sz1 => (v = some (.ref (x + (97 + pp n))) ∧ Φ1 (x + 95) = some (o_ 6 [.ref (x + 96), .int (nI (n + 1))]) ∧ Φ1 (x + (97 + pp n)) = some (o_ 5 [.long (Int64.ofNat K), .long 0, .long 0, .int (nI t), .int (nI t)]) ∧ TbT G x n n Fs pp Φ1) ∧ sz1 = sz ∧ In G x (ca) Φ1 ∧ Fr x (fun j9 => 95 ≤ j9 ∧ j9 < 121) Φ Φ1) := by
  refine Ct.of (cc := cX4_addFlow) (maxL := 5) (ret := (some (.object "FlowExporter$Flow"))) (by decide) rfl (Nat.le_of_ble_eq_true rfl) ?_
  intro p9 e9 s9 m9 w9 t9 k9 B
  show Z p9 l e9 _ s9 m9 _ w9 t9 k9 _ G 5 0 [(0, .ref (x + 95)), (1, .long (Int64.ofNat K)), (3, .int (nI t))] [] Φ sz 0 0
  have hlt9 : pp n < 24 := TbR.lt hcf0 (show n < 24 by omega)
  refine z_aload_n B dX4_addFlow_0 rfl 0 rfl ?_
  refine z_aload_n B dX4_addFlow_1 rfl 0 rfl ?_
  refine z_get (ref := "FlowExporter$FlowTable") (C := RX4) (T := TX4) (N := 2) (ci := 6) (v := .int (nI n)) B hu_X4_addFlow_X4 rfl 1 (Nat.le_of_ble_eq_true rfl) hv_X4_addFlow_9 rfl hc0 rfl dX4_addFlow_2 ?_
  refine z_callV (As := [.int (nI n)]) (rest := []) B (s_X4_flowAt_95 G l Φ sz x (ca) n n Fs pp n hx hI hc0 hcf0 (show n < 24 by omega)) (cwV 1 B.1.2.2.2.2 gX4_addFlow_X4_flowAt rfl rfl rfl (by decide +kernel) ⟨Nat.le_of_ble_eq_true rfl, Nat.le_of_ble_eq_true rfl⟩) hc0 rfl rfl rfl rfl (Nat.le_of_ble_eq_true rfl) dX4_addFlow_5 ⟨Nat.le_of_ble_eq_true rfl, Nat.le_of_ble_eq_true rfl⟩ (fun r_1 Φ1 sz1 st1 hp1 hs1 => ?_)
  obtain ⟨rfl, hq1, hI1, hF1⟩ := hp1
  subst sz1
  replace hs1 : st1 = [.ref (x + (97 + pp n))] := hs1
  subst st1
  replace hI1 : In G x (ca) Φ1 := hI1
  refine z_astore (lv' := [(4, .ref (x + (97 + pp n))), (0, .ref (x + 95)), (1, .long (Int64.ofNat K)), (3, .int (nI t))]) B dX4_addFlow_8 (Nat.le_of_ble_eq_true rfl) rfl ?_
  refine z_aload B dX4_addFlow_10 0 rfl ?_
  refine z_lload_n B dX4_addFlow_12 rfl 2 rfl ?_
  refine z_iload_n B dX4_addFlow_13 rfl 3 rfl ?_
  obtain ⟨v_1, v_2, v_3, v_4, v_5, h_1⟩ := in19 (k := 97 + pp n) hI1 (kd_f (k := 96) rfl (show pp n < 24 from TbR.lt hcf0 (by omega)))
  have h_2 : Φ1 (x + (97 + pp n)) = some (o_ 5 [.long v_1, .long v_2, .long v_3, .int v_4, .int v_5]) := h_1
  refine z_callV (As := [.long (Int64.ofNat K), .int (nI t)]) (rest := []) B (s_X3_beginX G l Φ1 sz x (ca) (97 + pp n) (Int64.ofNat K) (nI t) hx hI1 (kd_f (k := 96) rfl (show pp n < 24 from TbR.lt hcf0 (by omega)))) (cwV 2 B.1.2.2.2.2 gX4_addFlow_X3_begin rfl rfl rfl (by decide +kernel) ⟨Nat.le_of_ble_eq_true rfl, Nat.le_of_ble_eq_true rfl⟩) h_2 rfl rfl rfl rfl (Nat.le_of_ble_eq_true rfl) dX4_addFlow_14 ⟨Nat.le_of_ble_eq_true rfl, Nat.le_of_ble_eq_true rfl⟩ (fun r_2 Φ2 sz2 st2 hp2 hs2 => ?_)
  obtain ⟨⟨rfl, h_3⟩, hq2, hI2, hF2⟩ := hp2
  subst sz2
  replace hs2 : st2 = [] := hs2
  subst st2
  replace hI2 : In G x (ca) Φ2 := hI2
  refine z_aload_n B dX4_addFlow_17 rfl 1 rfl ?_
  refine z_aload_n B dX4_addFlow_18 rfl 1 rfl ?_
  have h_4 : Φ2 (x + 95) = some (o_ 6 [.ref (x + 96), .int (nI n)]) := ((hF2 (x + 95) (fun j9 h8 h7 => by have h6 : j9 = (97 + pp n) := h7; omega)).trans ((hF1 (x + 95) (fun j9 h8 h7 => (show False from h7).elim)).trans hc0))
  refine z_get (ref := "FlowExporter$FlowTable") (C := RX4) (T := TX4) (N := 2) (ci := 6) (v := .int (nI n)) B hu_X4_addFlow_X4 rfl 1 (Nat.le_of_ble_eq_true rfl) hv_X4_addFlow_9 rfl h_4 rfl dX4_addFlow_19 ?_
  refine z_iconst (v := 1) B dX4_addFlow_22 rfl ?_
  refine z_iadd B dX4_addFlow_23 ?_
  refine z_top (st1 := [.int (nI (n + 1)), .ref (x + 95)]) (congrArg (fun w9 : Int32 => ([.int w9, .ref (x + 95)] : List Value)) (nI_add n 1)) ?_
  refine z_aload_n B dX4_addFlow_24 rfl 1 rfl ?_
  refine z_get (ref := "FlowExporter$FlowTable") (C := RX4) (T := TX4) (N := 2) (ci := 6) (v := .ref (x + 96)) B hu_X4_addFlow_X4 rfl 0 (Nat.le_of_ble_eq_true rfl) hv_X4_addFlow_23 rfl h_4 rfl dX4_addFlow_25 ?_
  obtain ⟨f_1, h_5, r_3⟩ := in18 (k := 96) hI2 rfl
  replace r_3 : ∀ j, j < 24 → ∃ m, m < 24 ∧ f_1 j = some (x + (97 + m)) := r_3
  have h_6 : Φ2 (x + 96) = some (aq_ G 5 24 f_1) := h_5
  refine z_alen (t := 5) (v := 24) B rfl h_6 rfl dX4_addFlow_28 ?_
  refine z_mmin (v := nI (min (n + 1) 24)) B (by decide +kernel) (by decide +kernel) (by decide +kernel) (by decide +kernel) (nI_min (a := n + 1) (b := 24) (by omega) (by omega)) ⟨Nat.le_of_ble_eq_true rfl, Nat.le_of_ble_eq_true rfl⟩ ⟨Nat.le_of_ble_eq_true rfl, Nat.le_of_ble_eq_true rfl⟩ dX4_addFlow_29 ?_
  refine z_put (ref := "FlowExporter$FlowTable") (C := RX4) (T := TX4) (N := 2) (ci := 6) (v := .int (nI (min (n + 1) 24))) B hu_X4_addFlow_X4 tyX4 tyX4_ok nmX4 rfl 1 (Nat.le_of_ble_eq_true rfl) hv_X4_addFlow_9 rfl (Or.inl rfl) h_4 (Nat.le_trans hx (Nat.le_add_right x 95)) rfl rfl (Nat.le_of_ble_eq_true rfl) dX4_addFlow_32 (fun Φ3 hΦ1 => ?_)
  have h_7 : Φ3 (x + 95) = some (o_ 6 [.ref (x + 96), .int (nI (min (n + 1) 24))]) := fset_at hΦ1
  have hI3 : In G x (ca) Φ3 := In.put (k := 95) hI2 hΦ1 (ok17 (k := 95) rfl ⟨min (n + 1) 24, rfl, (show min (n + 1) 24 ≤ 24 by omega)⟩)
  refine z_aload B dX4_addFlow_35 0 rfl ?_
  have h_8 : Φ3 (x + (97 + pp n)) = some (o_ 5 [.long (Int64.ofNat K), .long 0, .long 0, .int (nI t), .int (nI t)]) := ((fset_fr hΦ1 (by omega)).trans h_3)
  have hcg1 : TbT G x n n Fs pp Φ3 := (TbT.off (k := 95) (TbR.frw (TbT.fr hcf0 hF1 (fun j9 h7 => (show False from h7).elim)) hF2 (by omega) (fun j9 h7 => Or.inr h7)) hΦ1 (by omega))
  exact z_ret_a B dX4_addFlow_37 ⟨⟨rfl, (h_7.trans (congrArg (fun w9 : Nat => some (o_ 6 [.ref (x + 96), .int (nI w9)])) (show min (n + 1) 24 = n + 1 by omega))), h_8, hcg1⟩, rfl, hI3, (fun b9 h9 => ((fset_fr hΦ1 (fun h8 => h9 (95) h8 (show 95 ≤ 95 ∧ 95 < 121 by decide))).trans ((hF2 b9 (fun j9 h8 h7 => h9 j9 h8 (show 95 ≤ j9 ∧ j9 < 121 by have h6 : j9 = (97 + pp n) := h7; omega))).trans ((hF1 b9 (fun j9 h8 h7 => (show False from h7).elim)).trans rfl))))⟩

theorem fq_721 {x : Nat} : ∀ j9 : Nat, x + 81 = x + j9 → (j9 = 82) → False := by
  intro j9 h1 h2
  omega

theorem fq_722 : ∀ j9 : Nat, (j9 = 82) → (j9 = 81 ∨ j9 = 82) := by
  intro j9 h
  omega

set_option maxHeartbeats 4000000 in
set_option maxRecDepth 100000 in
theorem s_X4_removeAtX (G : EnvG) (l : Launch) (Φ : Hm) (sz x ca : Nat) (n : Nat) (Fs : Nat → Fl) (pp : Nat → Nat) (i : Nat) (hx : G.2.2.2 ≤ x) (hI : In G x ca Φ) (hc0 : Φ (x + 81) = some (o_ 6 [.ref (x + 82), .int (nI n)])) (hcf0 : TbC G x n 99 Fs pp Φ) (hi : i < n) (hn : n ≤ 12) : Ct G l yX4_removeAt wsX4_removeAt ({ frames := 1, cells := 0, slots := 0, locals := 21 }) 0 0 [.ref (x + 81), .int (nI i)] Φ sz (fun v Φ1 sz1 => (v = some (.ref (x + (83 + pp i))) ∧ Φ1 (x + 81) = some (o_ 6 [.ref (x + 82), .int (nI (n - 1))]) ∧ TbC G x (n - 1) 99 (shF Fs i) (shP pp n i) Φ1) ∧ sz1 = sz ∧ In G x (ca) Φ1 ∧ Fr x (fun j9 => j9 = 81 ∨ j9 = 82) Φ Φ1) := by
  refine Ct.of (cc := cX4_removeAt) (maxL := 4) (ret := (some (.object "FlowExporter$Flow"))) (by decide) rfl (Nat.le_of_ble_eq_true rfl) ?_
  intro p9 e9 s9 m9 w9 t9 k9 B
  show Z p9 l e9 _ s9 m9 _ w9 t9 k9 _ G 4 0 [(0, .ref (x + 81)), (1, .int (nI i))] [] Φ sz 0 0
  refine z_aload_n B dX4_removeAt_0 rfl 0 rfl ?_
  refine z_iload_n B dX4_removeAt_1 rfl 1 rfl ?_
  refine z_callV (As := [.int (nI i)]) (rest := []) B (s_X4_flowAt_81 G l Φ sz x (ca) n 99 Fs pp i hx hI hc0 hcf0 (show i < 12 by omega)) (cwV 1 B.1.2.2.2.2 gX4_removeAt_X4_flowAt rfl rfl rfl (by decide +kernel) ⟨Nat.le_of_ble_eq_true rfl, Nat.le_of_ble_eq_true rfl⟩) hc0 rfl rfl rfl rfl (Nat.le_of_ble_eq_true rfl) dX4_removeAt_2 ⟨Nat.le_of_ble_eq_true rfl, Nat.le_of_ble_eq_true rfl⟩ (fun r_1 Φ1 sz1 st1 hp1 hs1 => ?_)
  obtain ⟨rfl, hq1, hI1, hF1⟩ := hp1
  subst sz1
  replace hs1 : st1 = [.ref (x + (83 + pp i))] := hs1
  subst st1
  replace hI1 : In G x (ca) Φ1 := hI1
  refine z_astore_n (lv' := [(2, .ref (x + (83 + pp i))), (0, .ref (x + 81)), (1, .int (nI i))]) B dX4_removeAt_5 rfl (Nat.le_of_ble_eq_true rfl) rfl ?_
  refine z_iload_n B dX4_removeAt_6 rfl 2 rfl ?_
  refine z_if_lt (tgt := 18) B dX4_removeAt_7 rfl (fun c_1 => ?_) (fun c_1 => ?_)
  · have e_1 : i < 0 := (nI_ltI (a := i) (b := 0) (by omega) (by omega)).mp c_1
    refine z_aload_n B dX4_removeAt_18 rfl 0 rfl ?_
    exact z_ret_a B dX4_removeAt_19 ⟨((show False by omega).elim), rfl, hI1, (fun b9 h9 => ((hF1 b9 (fun j9 h8 h7 => (show False from h7).elim)).trans rfl))⟩
  · have e_2 : ¬ (i < 0) := fun h9 => c_1 ((nI_ltI (a := i) (b := 0) (by omega) (by omega)).mpr h9)
    refine z_iload_n B dX4_removeAt_10 rfl 2 rfl ?_
    refine z_aload_n B dX4_removeAt_11 rfl 1 rfl ?_
    have h_1 : Φ1 (x + 81) = some (o_ 6 [.ref (x + 82), .int (nI n)]) := ((hF1 (x + 81) (fun j9 h8 h7 => (show False from h7).elim)).trans hc0)
    refine z_get (ref := "FlowExporter$FlowTable") (C := RX4) (T := TX4) (N := 2) (ci := 6) (v := .int (nI n)) B hu_X4_removeAt_X4 rfl 1 (Nat.le_of_ble_eq_true rfl) hv_X4_removeAt_9 rfl h_1 rfl dX4_removeAt_12 ?_
    refine z_icmp_lt (tgt := 20) B dX4_removeAt_15 rfl (fun c_2 => ?_) (fun c_2 => ?_)
    · have e_3 : i < n := (nI_ltI (a := i) (b := n) (by omega) (by omega)).mp c_2
      refine z_iload_n B dX4_removeAt_20 rfl 2 rfl ?_
      refine z_istore_n (lv' := [(3, .int (nI i)), (2, .ref (x + (83 + pp i))), (0, .ref (x + 81)), (1, .int (nI i))]) B dX4_removeAt_21 rfl (Nat.le_of_ble_eq_true rfl) rfl ?_
      refine z_lv [0, 1, 2, 3] rfl ?_
      obtain ⟨f_1, h_2, r_2⟩ := in18 (k := 82) hI1 rfl
      replace r_2 : ∀ j, j < 12 → ∃ m, m < 12 ∧ f_1 j = some (x + (83 + m)) := r_2
      have h_3 : Φ1 (x + 82) = some (aq_ G 5 12 f_1) := h_2
      have hcg1 : TbC G x n 99 Fs pp Φ1 := (TbC.fr hcf0 hF1 (fun j9 h7 => (show False from h7).elim))
      refine z_loop (α := Nat) (fun (a9 : Nat) Φi => In G x (ca) Φi ∧ Fr x (fun j9 => j9 = 82) Φ1 Φi ∧ (i ≤ a9 ∧ a9 < n) ∧ (∃ f9 : Nat → Option Nat, Φi (x + 82) = some (aq_ G 5 12 f9) ∧ (∀ j9, j9 < 12 → ∃ m9, m9 < 12 ∧ f9 j9 = some (x + (83 + m9))) ∧ RmR pp i a9 f9 x) ∧ True) (fun a9 => [(3, .int (nI a9)), (2, .ref (x + (83 + pp i))), (0, .ref (x + 81)), (1, .int (nI i))]) (fun a9 => n - a9) ?_ (i) ⟨hI1, fun _ _ => rfl, (show i ≤ i ∧ i < n by omega), ⟨f_1, h_3, r_2, RmR.z (fun j9 h9 => TbR.row hcg1 h_3 h9)⟩, trivial⟩
      rintro i_1 Φl1 ⟨hI2, hF2, b_1, b_2, -⟩ ih1
      replace hI2 : In G x (ca) Φl1 := hI2
      replace b_1 : i ≤ i_1 ∧ i_1 < n := b_1
      replace b_2 : ∃ f9 : Nat → Option Nat, Φl1 (x + 82) = some (aq_ G 5 12 f9) ∧ (∀ j9, j9 < 12 → ∃ m9, m9 < 12 ∧ f9 j9 = some (x + (83 + m9))) ∧ RmR pp i i_1 f9 x := b_2
      show Z p9 l e9 _ s9 m9 _ w9 t9 k9 _ G 4 22 [(3, .int (nI i_1)), (2, .ref (x + (83 + pp i))), (0, .ref (x + 81)), (1, .int (nI i))] [] Φl1 _ _ _
      obtain ⟨f_2, h_4, r_3, hR1⟩ := b_2
      refine z_iload_n B dX4_removeAt_22 rfl 0 rfl ?_
      refine z_aload_n B dX4_removeAt_23 rfl 2 rfl ?_
      have h_5 : Φl1 (x + 81) = some (o_ 6 [.ref (x + 82), .int (nI n)]) := ((hF2 (x + 81) fq_721).trans h_1)
      refine z_get (ref := "FlowExporter$FlowTable") (C := RX4) (T := TX4) (N := 2) (ci := 6) (v := .int (nI n)) B hu_X4_removeAt_X4 rfl 1 (Nat.le_of_ble_eq_true rfl) hv_X4_removeAt_9 rfl h_5 rfl dX4_removeAt_24 ?_
      refine z_iconst (v := 1) B dX4_removeAt_27 rfl ?_
      refine z_isub B dX4_removeAt_28 ?_
      refine z_top (st1 := [.int (nI (n - 1)), .int (nI i_1)]) (congrArg (fun w9 : Int32 => ([.int w9, .int (nI i_1)] : List Value)) (nI_sub (show 1 ≤ n by omega))) ?_
      refine z_icmp_ge (tgt := 52) B dX4_removeAt_29 rfl (fun c_3 => ?_) (fun c_3 => ?_)
      · have e_4 : n - 1 ≤ i_1 := (nI_leI (a := n - 1) (b := i_1) (by omega) (by omega)).mp c_3
        refine z_aload_n B dX4_removeAt_52 rfl 2 rfl ?_
        refine z_dup B dX4_removeAt_53 rfl ?_
        refine z_get (ref := "FlowExporter$FlowTable") (C := RX4) (T := TX4) (N := 2) (ci := 6) (v := .int (nI n)) B hu_X4_removeAt_X4 rfl 1 (Nat.le_of_ble_eq_true rfl) hv_X4_removeAt_9 rfl h_5 rfl dX4_removeAt_54 ?_
        refine z_iconst (v := 1) B dX4_removeAt_57 rfl ?_
        refine z_isub B dX4_removeAt_58 ?_
        refine z_top (st1 := [.int (nI (n - 1)), .ref (x + 81)]) (congrArg (fun w9 : Int32 => ([.int w9, .ref (x + 81)] : List Value)) (nI_sub (show 1 ≤ n by omega))) ?_
        refine z_put (ref := "FlowExporter$FlowTable") (C := RX4) (T := TX4) (N := 2) (ci := 6) (v := .int (nI (n - 1))) B hu_X4_removeAt_X4 tyX4 tyX4_ok nmX4 rfl 1 (Nat.le_of_ble_eq_true rfl) hv_X4_removeAt_9 rfl (Or.inl rfl) h_5 (Nat.le_trans hx (Nat.le_add_right x 81)) rfl rfl (Nat.le_of_ble_eq_true rfl) dX4_removeAt_59 (fun Φ2 hΦ1 => ?_)
        have h_6 : Φ2 (x + 81) = some (o_ 6 [.ref (x + 82), .int (nI (n - 1))]) := fset_at hΦ1
        have hI3 : In G x (ca) Φ2 := In.put (k := 81) hI2 hΦ1 (ok17 (k := 81) rfl ⟨n - 1, rfl, (show n - 1 ≤ 12 by omega)⟩)
        refine z_aload_n B dX4_removeAt_62 rfl 2 rfl ?_
        refine z_get (ref := "FlowExporter$FlowTable") (C := RX4) (T := TX4) (N := 2) (ci := 6) (v := .ref (x + 82)) B hu_X4_removeAt_X4 rfl 0 (Nat.le_of_ble_eq_true rfl) hv_X4_removeAt_23 rfl h_6 rfl dX4_removeAt_63 ?_
        refine z_aload_n B dX4_removeAt_66 rfl 2 rfl ?_
        refine z_get (ref := "FlowExporter$FlowTable") (C := RX4) (T := TX4) (N := 2) (ci := 6) (v := .int (nI (n - 1))) B hu_X4_removeAt_X4 rfl 1 (Nat.le_of_ble_eq_true rfl) hv_X4_removeAt_9 rfl h_6 rfl dX4_removeAt_67 ?_
        refine z_aload_n B dX4_removeAt_70 rfl 1 rfl ?_
        obtain ⟨v_1, v_2, v_3, v_4, v_5, h_7⟩ := in19 (k := 83 + pp i) hI3 (kd_f (k := 82) rfl (show pp i < 12 from TbR.lt hcf0 (by omega)))
        have h_8 : Φ2 (x + (83 + pp i)) = some (o_ 5 [.long v_1, .long v_2, .long v_3, .int v_4, .int v_5]) := h_7
        have h_9 : Φ2 (x + 82) = some (aq_ G 5 12 f_2) := ((fset_fr hΦ1 (ne_off (x := x) (i := 82) (j := 81) rfl)).trans h_4)
        refine z_aast B rfl h_9 (Nat.le_trans hx (Nat.le_add_right x 82)) h_8 rfl (vp_in_nI (by omega) (by omega)) dX4_removeAt_71 (fun Φ3 hΦ2 => ?_)
        have h_10 : Φ3 (x + 82) = some (aq_ G 5 12 (va_up f_2 (nI (n - 1)).toNatClampNeg (some (x + (83 + pp i))))) := fset_at hΦ2
        have hI4 : In G x (ca) Φ3 := In.put (k := 82) hI3 hΦ2 (ok18 (k := 82) rfl ⟨_, rfl, row_up r_3 ⟨pp i, (show pp i < 12 from TbR.lt hcf0 (by omega)), rfl⟩⟩)
        have h_11 : Φ3 (x + 82) = some (aq_ G 5 12 (va_up f_2 (nI (n - 1)).toNatClampNeg (some (x + (83 + pp i))))) := fset_at hΦ2
        have r_4 : ∀ j9, j9 < 12 → ∃ m9, m9 < 12 ∧ (va_up f_2 (nI (n - 1)).toNatClampNeg (some (x + (83 + pp i)))) j9 = some (x + (83 + m9)) := row_up r_3 ⟨pp i, (show pp i < 12 from TbR.lt hcf0 (by omega)), rfl⟩
        refine z_aload_n B dX4_removeAt_72 rfl 1 rfl ?_
        have h_12 : Φ3 (x + 81) = some (o_ 6 [.ref (x + 82), .int (nI (n - 1))]) := ((fset_fr hΦ2 (ne_off (x := x) (i := 81) (j := 82) rfl)).trans h_6)
        exact z_ret_a B dX4_removeAt_73 ⟨⟨rfl, (h_12.trans (congrArg (fun w9 : Nat => some (o_ 6 [.ref (x + 82), .int (nI w9)])) (show n - 1 = n - 1 by omega))), TbR.rem hcf0 (by decide) (by omega) h_11 (RmR.e hR1 (show i_1 = n - 1 by omega) (nI_clamp (by omega)) (by omega)) (fun j9 h9 => ((fset_fr hΦ2 (by omega)).trans ((fset_fr hΦ1 (by omega)).trans ((hF2 (x + (83 + j9)) (fun j8 h8 h7 => by have h6 : j8 = 82 := h7; omega)).trans ((hF1 (x + (83 + j9)) (fun j8 h8 h7 => (show False from h7).elim)).trans rfl)))))⟩, rfl, hI4, (fun b9 h9 => ((fset_fr hΦ2 (fun h8 => h9 (82) h8 (show 82 = 81 ∨ 82 = 82 by decide))).trans ((fset_fr hΦ1 (fun h8 => h9 (81) h8 (show 81 = 81 ∨ 81 = 82 by decide))).trans ((hF2 b9 (fun j9 h8 h7 => h9 j9 h8 (fq_722 j9 h7))).trans ((hF1 b9 (fun j9 h8 h7 => (show False from h7).elim)).trans rfl)))))⟩
      · have e_5 : ¬ (n - 1 ≤ i_1) := fun h9 => c_3 ((nI_leI (a := n - 1) (b := i_1) (by omega) (by omega)).mpr h9)
        refine z_aload_n B dX4_removeAt_32 rfl 2 rfl ?_
        refine z_get (ref := "FlowExporter$FlowTable") (C := RX4) (T := TX4) (N := 2) (ci := 6) (v := .ref (x + 82)) B hu_X4_removeAt_X4 rfl 0 (Nat.le_of_ble_eq_true rfl) hv_X4_removeAt_23 rfl h_5 rfl dX4_removeAt_33 ?_
        refine z_iload_n B dX4_removeAt_36 rfl 0 rfl ?_
        refine z_aload_n B dX4_removeAt_37 rfl 2 rfl ?_
        refine z_get (ref := "FlowExporter$FlowTable") (C := RX4) (T := TX4) (N := 2) (ci := 6) (v := .ref (x + 82)) B hu_X4_removeAt_X4 rfl 0 (Nat.le_of_ble_eq_true rfl) hv_X4_removeAt_23 rfl h_5 rfl dX4_removeAt_38 ?_
        refine z_iload_n B dX4_removeAt_41 rfl 0 rfl ?_
        refine z_iconst (v := 1) B dX4_removeAt_42 rfl ?_
        refine z_iadd B dX4_removeAt_43 ?_
        refine z_top (st1 := [.int (nI (i_1 + 1)), .ref (x + 82), .int (nI i_1), .ref (x + 82)]) (congrArg (fun w9 : Int32 => ([.int w9, .ref (x + 82), .int (nI i_1), .ref (x + 82)] : List Value)) (nI_add i_1 1)) ?_
        refine z_aald (b := x + (83 + pp (i_1 + 1))) B rfl h_4 (vp_in_nI (by omega) (by omega)) ((congrArg f_2 (nI_clamp (by omega))).trans (RmR.nx hR1 (by omega))) dX4_removeAt_44 ?_
        obtain ⟨v_6, v_7, v_8, v_9, v_10, h_14⟩ := in19 (k := 83 + pp (i_1 + 1)) hI2 (kd_f (k := 82) rfl (show pp (i_1 + 1) < 12 from TbR.lt hcf0 (by omega)))
        have h_15 : Φl1 (x + (83 + pp (i_1 + 1))) = some (o_ 5 [.long v_6, .long v_7, .long v_8, .int v_9, .int v_10]) := h_14
        refine z_aast B rfl h_4 (Nat.le_trans hx (Nat.le_add_right x 82)) h_15 rfl (vp_in_nI (by omega) (by omega)) dX4_removeAt_45 (fun Φ4 hΦ3 => ?_)
        have h_16 : Φ4 (x + 82) = some (aq_ G 5 12 (va_up f_2 (nI i_1).toNatClampNeg (some (x + (83 + pp (i_1 + 1)))))) := fset_at hΦ3
        have hI5 : In G x (ca) Φ4 := In.put (k := 82) hI2 hΦ3 (ok18 (k := 82) rfl ⟨_, rfl, row_up r_3 ⟨pp (i_1 + 1), (show pp (i_1 + 1) < 12 from TbR.lt hcf0 (by omega)), rfl⟩⟩)
        have h_17 : Φ4 (x + 82) = some (aq_ G 5 12 (va_up f_2 (nI i_1).toNatClampNeg (some (x + (83 + pp (i_1 + 1)))))) := fset_at hΦ3
        have r_5 : ∀ j9, j9 < 12 → ∃ m9, m9 < 12 ∧ (va_up f_2 (nI i_1).toNatClampNeg (some (x + (83 + pp (i_1 + 1))))) j9 = some (x + (83 + m9)) := row_up r_3 ⟨pp (i_1 + 1), (show pp (i_1 + 1) < 12 from TbR.lt hcf0 (by omega)), rfl⟩
        refine z_iinc (k := 0) (v := nI (i_1 + 1)) (lv' := [(3, .int (nI (i_1 + 1))), (2, .ref (x + (83 + pp i))), (0, .ref (x + 81)), (1, .int (nI i))]) B dX4_removeAt_46 rfl (nI_add i_1 1) (Nat.le_of_ble_eq_true rfl) rfl ?_
        refine z_goto (tgt := 22) B dX4_removeAt_49 rfl ?_
        refine z_lv [0, 1, 2, 3] rfl ?_
        exact ih1 (i_1 + 1) Φ4 (show n - (i_1 + 1) < n - i_1 by omega) ⟨hI5, (fun b9 h9 => ((fset_fr hΦ3 (fun h8 => h9 (82) h8 (show 82 = 82 by decide))).trans ((hF2 b9 h9).trans rfl))), (show i ≤ (i_1 + 1) ∧ (i_1 + 1) < n by omega), ⟨_, h_17, r_5, RmR.s hR1 (nI_clamp (by omega)) (by omega)⟩, trivial⟩
    · have e_6 : ¬ (i < n) := fun h9 => c_2 ((nI_ltI (a := i) (b := n) (by omega) (by omega)).mpr h9)
      refine z_aload_n B dX4_removeAt_18 rfl 0 rfl ?_
      exact z_ret_a B dX4_removeAt_19 ⟨((show False by omega).elim), rfl, hI1, (fun b9 h9 => ((hF1 b9 (fun j9 h8 h7 => (show False from h7).elim)).trans rfl))⟩

set_option maxHeartbeats 4000000 in
set_option maxRecDepth 100000 in
theorem s_X4_indexOfEarliestLastX (G : EnvG) (l : Launch) (Φ : Hm) (sz x ca : Nat) (n : Nat) (Fs : Nat → Fl) (pp : Nat → Nat) (hx : G.2.2.2 ≤ x) (hI : In G x ca Φ) (hc0 : Φ (x + 81) = some (o_ 6 [.ref (x + 82), .int (nI n)])) (hcf0 : TbC G x n 99 Fs pp Φ) (hn1 : 1 ≤ n) (hn : n ≤ 12) : Ct G l yX4_indexOfEarliestLast wsX4_indexOfEarliestLast ({ frames := 0, cells := 0, slots := 0, locals := 0 }) 0 0 [.ref (x + 81)] Φ sz (fun v Φ1 sz1 => (v = some (.int (nI (elN Fs n)))) ∧ sz1 = sz ∧ In G x (ca) Φ1 ∧ Fr x (fun j9 => False) Φ Φ1) := by
  refine Ct.of (cc := cX4_indexOfEarliestLast) (maxL := 3) (ret := (some .int)) (by decide) rfl (Nat.le_of_ble_eq_true rfl) ?_
  intro p9 e9 s9 m9 w9 t9 k9 B
  show Z p9 l e9 _ s9 m9 _ w9 t9 k9 _ G 3 0 [(0, .ref (x + 81))] [] Φ sz 0 0
  refine z_iconst (v := 0) B dX4_indexOfEarliestLast_0 rfl ?_
  refine z_istore_n (lv' := [(1, .int 0), (0, .ref (x + 81))]) B dX4_indexOfEarliestLast_1 rfl (Nat.le_of_ble_eq_true rfl) rfl ?_
  refine z_iconst (v := 1) B dX4_indexOfEarliestLast_2 rfl ?_
  refine z_istore_n (lv' := [(2, .int 1), (1, .int 0), (0, .ref (x + 81))]) B dX4_indexOfEarliestLast_3 rfl (Nat.le_of_ble_eq_true rfl) rfl ?_
  refine z_lv [0, 1, 2] rfl ?_
  refine z_loop (α := Nat × Nat) (fun (a9 : Nat × Nat) Φi => In G x (ca) Φi ∧ Fr x (fun j9 => False) Φ Φi ∧ (a9.1 ≤ n) ∧ (a9.2 < a9.1) ∧ (a9.2 = elN Fs a9.1) ∧ True) (fun a9 => [(2, .int (nI (a9.1))), (1, .int (nI (a9.2))), (0, .ref (x + 81))]) (fun a9 => n - a9.1) ?_ (1, 0) ⟨hI, fun _ _ => rfl, (show 1 ≤ n by omega), (show 0 < 1 by omega), (elN_1 Fs).symm, trivial⟩
  rintro ⟨i_1, i_2⟩ Φl1 ⟨hI1, hF1, b_1, b_2, b_3, -⟩ ih1
  replace hI1 : In G x (ca) Φl1 := hI1
  replace b_1 : i_1 ≤ n := b_1
  replace b_2 : i_2 < i_1 := b_2
  replace b_3 : i_2 = elN Fs i_1 := b_3
  show Z p9 l e9 _ s9 m9 _ w9 t9 k9 _ G 3 4 [(2, .int (nI i_1)), (1, .int (nI i_2)), (0, .ref (x + 81))] [] Φl1 _ _ _
  refine z_iload_n B dX4_indexOfEarliestLast_4 rfl 0 rfl ?_
  refine z_aload_n B dX4_indexOfEarliestLast_5 rfl 2 rfl ?_
  have h_1 : Φl1 (x + 81) = some (o_ 6 [.ref (x + 82), .int (nI n)]) := ((hF1 (x + 81) (fun j9 h8 h7 => (show False from h7).elim)).trans hc0)
  refine z_get (ref := "FlowExporter$FlowTable") (C := RX4) (T := TX4) (N := 2) (ci := 6) (v := .int (nI n)) B hu_X4_indexOfEarliestLast_X4 rfl 1 (Nat.le_of_ble_eq_true rfl) hv_X4_indexOfEarliestLast_9 rfl h_1 rfl dX4_indexOfEarliestLast_6 ?_
  refine z_icmp_ge (tgt := 41) B dX4_indexOfEarliestLast_9 rfl (fun c_1 => ?_) (fun c_1 => ?_)
  · have e_1 : n ≤ i_1 := (nI_leI (a := n) (b := i_1) (by omega) (by omega)).mp c_1
    refine z_iload_n B dX4_indexOfEarliestLast_41 rfl 1 rfl ?_
    exact z_ret_i B dX4_indexOfEarliestLast_42 ⟨(congrArg (fun w9 : Nat => some (Value.int (nI w9))) (b_3.trans (congrArg (elN Fs) (show i_1 = n by omega)))), rfl, hI1, (fun b9 h9 => ((hF1 b9 (fun j9 h8 h7 => (show False from h7).elim)).trans rfl))⟩
  · have e_2 : ¬ (n ≤ i_1) := fun h9 => c_1 ((nI_leI (a := n) (b := i_1) (by omega) (by omega)).mpr h9)
    refine z_aload_n B dX4_indexOfEarliestLast_12 rfl 2 rfl ?_
    refine z_get (ref := "FlowExporter$FlowTable") (C := RX4) (T := TX4) (N := 2) (ci := 6) (v := .ref (x + 82)) B hu_X4_indexOfEarliestLast_X4 rfl 0 (Nat.le_of_ble_eq_true rfl) hv_X4_indexOfEarliestLast_23 rfl h_1 rfl dX4_indexOfEarliestLast_13 ?_
    refine z_iload_n B dX4_indexOfEarliestLast_16 rfl 0 rfl ?_
    obtain ⟨f_1, h_2, r_1⟩ := in18 (k := 82) hI1 rfl
    replace r_1 : ∀ j, j < 12 → ∃ m, m < 12 ∧ f_1 j = some (x + (83 + m)) := r_1
    have h_3 : Φl1 (x + 82) = some (aq_ G 5 12 f_1) := h_2
    have hcg1 : TbC G x n 99 Fs pp Φl1 := (TbC.fr hcf0 hF1 (fun j9 h7 => (show False from h7).elim))
    have e_3 := TbR.fl hcg1 (show i_1 < n by omega) (show ¬ i_1 = 99 by omega)
    have b_4 : (Fs i_1).1 < 2 ^ 40 ∧ (Fs i_1).2.2.2.1 ≤ 1000000 ∧ (Fs i_1).2.2.2.2 ≤ 1000000 := e_3.1
    have h_4 : Φl1 (x + (83 + pp i_1)) = some (o_ 5 [.long (Int64.ofNat (Fs i_1).1), .long ((Fs i_1).2.1), .long ((Fs i_1).2.2.1), .int (nI ((Fs i_1).2.2.2.1)), .int (nI ((Fs i_1).2.2.2.2))]) := e_3.2
    refine z_aald (b := x + (83 + pp i_1)) B rfl h_3 (vp_in_nI (by omega) (by omega)) ((congrArg f_1 (nI_clamp (by omega))).trans (TbR.row hcg1 h_3 (show i_1 < 12 by omega))) dX4_indexOfEarliestLast_17 ?_
    refine z_get (ref := "FlowExporter$Flow") (C := RX3) (T := TX3) (N := 5) (ci := 5) (v := .int (nI ((Fs i_1).2.2.2.2))) B hu_X4_indexOfEarliestLast_X3 rfl 4 (Nat.le_of_ble_eq_true rfl) hv_X4_indexOfEarliestLast_43 rfl h_4 rfl dX4_indexOfEarliestLast_18 ?_
    refine z_aload_n B dX4_indexOfEarliestLast_21 rfl 2 rfl ?_
    refine z_get (ref := "FlowExporter$FlowTable") (C := RX4) (T := TX4) (N := 2) (ci := 6) (v := .ref (x + 82)) B hu_X4_indexOfEarliestLast_X4 rfl 0 (Nat.le_of_ble_eq_true rfl) hv_X4_indexOfEarliestLast_23 rfl h_1 rfl dX4_indexOfEarliestLast_22 ?_
    refine z_iload_n B dX4_indexOfEarliestLast_25 rfl 1 rfl ?_
    have e_4 := TbR.fl hcg1 (show i_2 < n by omega) (show ¬ i_2 = 99 by omega)
    have b_5 : (Fs i_2).1 < 2 ^ 40 ∧ (Fs i_2).2.2.2.1 ≤ 1000000 ∧ (Fs i_2).2.2.2.2 ≤ 1000000 := e_4.1
    have h_5 : Φl1 (x + (83 + pp i_2)) = some (o_ 5 [.long (Int64.ofNat (Fs i_2).1), .long ((Fs i_2).2.1), .long ((Fs i_2).2.2.1), .int (nI ((Fs i_2).2.2.2.1)), .int (nI ((Fs i_2).2.2.2.2))]) := e_4.2
    refine z_aald (b := x + (83 + pp i_2)) B rfl h_3 (vp_in_nI (by omega) (by omega)) ((congrArg f_1 (nI_clamp (by omega))).trans (TbR.row hcg1 h_3 (show i_2 < 12 by omega))) dX4_indexOfEarliestLast_26 ?_
    refine z_get (ref := "FlowExporter$Flow") (C := RX3) (T := TX3) (N := 5) (ci := 5) (v := .int (nI ((Fs i_2).2.2.2.2))) B hu_X4_indexOfEarliestLast_X3 rfl 4 (Nat.le_of_ble_eq_true rfl) hv_X4_indexOfEarliestLast_43 rfl h_5 rfl dX4_indexOfEarliestLast_27 ?_
    refine z_icmp_ge (tgt := 35) B dX4_indexOfEarliestLast_30 rfl (fun c_2 => ?_) (fun c_2 => ?_)
    · have e_5 : (Fs i_2).2.2.2.2 ≤ (Fs i_1).2.2.2.2 := (nI_leI (a := (Fs i_2).2.2.2.2) (b := (Fs i_1).2.2.2.2) (by omega) (by omega)).mp c_2
      refine z_iinc (k := 0) (v := nI (i_1 + 1)) (lv' := [(2, .int (nI (i_1 + 1))), (1, .int (nI i_2)), (0, .ref (x + 81))]) B dX4_indexOfEarliestLast_35 rfl (nI_add i_1 1) (Nat.le_of_ble_eq_true rfl) rfl ?_
      refine z_goto (tgt := 4) B dX4_indexOfEarliestLast_38 rfl ?_
      refine z_lv [0, 1, 2] rfl ?_
      exact ih1 (i_1 + 1, i_2) Φl1 (show n - (i_1 + 1) < n - i_1 by omega) ⟨hI1, (fun b9 h9 => ((hF1 b9 (fun j9 h8 h7 => (show False from h7).elim)).trans rfl)), (show (i_1 + 1) ≤ n by omega), (show i_2 < (i_1 + 1) by omega), (elN_n b_3 (by omega)).symm, trivial⟩
    · have e_6 : ¬ ((Fs i_2).2.2.2.2 ≤ (Fs i_1).2.2.2.2) := fun h9 => c_2 ((nI_leI (a := (Fs i_2).2.2.2.2) (b := (Fs i_1).2.2.2.2) (by omega) (by omega)).mpr h9)
      refine z_iload_n B dX4_indexOfEarliestLast_33 rfl 0 rfl ?_
      refine z_istore_n (lv' := [(1, .int (nI i_1)), (2, .int (nI i_1)), (0, .ref (x + 81))]) B dX4_indexOfEarliestLast_34 rfl (Nat.le_of_ble_eq_true rfl) rfl ?_
      refine z_iinc (k := 1) (v := nI (i_1 + 1)) (lv' := [(2, .int (nI (i_1 + 1))), (1, .int (nI i_1)), (0, .ref (x + 81))]) B dX4_indexOfEarliestLast_35 rfl (nI_add i_1 1) (Nat.le_of_ble_eq_true rfl) rfl ?_
      refine z_goto (tgt := 4) B dX4_indexOfEarliestLast_38 rfl ?_
      refine z_lv [0, 1, 2] rfl ?_
      exact ih1 (i_1 + 1, i_1) Φl1 (show n - (i_1 + 1) < n - i_1 by omega) ⟨hI1, (fun b9 h9 => ((hF1 b9 (fun j9 h8 h7 => (show False from h7).elim)).trans rfl)), (show (i_1 + 1) ≤ n by omega), (show i_1 < (i_1 + 1) by omega), (elN_y b_3 (by omega)).symm, trivial⟩

set_option maxHeartbeats 4000000 in
set_option maxRecDepth 100000 in
theorem s_X3_partOf0X (G : EnvG) (l : Launch) (Φ : Hm) (sz x ca : Nat) (K : Nat) (hx : G.2.2.2 ≤ x) (hI : In G x ca Φ) (hK : K < 2 ^ 40) : Ct G l yX3_partOf wsX3_partOf ({ frames := 0, cells := 0, slots := 0, locals := 0 }) 0 0 [.long (Int64.ofNat K), .int 0] Φ sz (fun v Φ1 sz1 => (v = some (.int (nI (K / 2 ^ 32 % 2 ^ 8)))) ∧ sz1 = sz ∧ In G x (ca) Φ1 ∧ Fr x (fun j9 => False) Φ Φ1) := by
  refine Ct.of (cc := cX3_partOf) (maxL := 3) (ret := (some .int)) (by decide) rfl (Nat.le_of_ble_eq_true rfl) ?_
  intro p9 e9 s9 m9 w9 t9 k9 B
  show Z p9 l e9 _ s9 m9 _ w9 t9 k9 _ G 3 0 [(0, .long (Int64.ofNat K)), (2, .int 0)] [] Φ sz 0 0
  refine z_iload_n B dX3_partOf_0 rfl 1 rfl ?_
  refine z_if_lt (tgt := 20) B dX3_partOf_1 rfl (fun h9 => absurd h9 (by decide)) (fun c_1 => ?_)
  refine z_iload_n B dX3_partOf_4 rfl 1 rfl ?_
  refine z_sta B B.2.2.2.2.2.1.1.2.2.2.2.1 (by decide +kernel) rfl dX3_partOf_5 ?_
  refine z_slen (v := 4) B B.2.2.2.2.2.1.2.2.2.1.2.2.2.2.1 (B.2.2.2.2.2.1.2.2.2.2 4 (by decide)) rfl dX3_partOf_8 ?_
  refine z_icmp_ge (tgt := 20) B dX3_partOf_9 rfl (fun h9 => absurd h9 (by decide)) (fun c_2 => ?_)
  refine z_iload_n B dX3_partOf_12 rfl 1 rfl ?_
  refine z_sta B B.2.2.2.2.2.1.1.2.2.2.2.2 (by decide +kernel) rfl dX3_partOf_13 ?_
  refine z_slen (v := 4) B B.2.2.2.2.2.1.2.2.2.1.2.2.2.2.2 (B.2.2.2.2.2.1.2.2.2.2 5 (by decide)) rfl dX3_partOf_16 ?_
  refine z_icmp_lt (tgt := 22) B dX3_partOf_17 rfl (fun c_3 => ?_) (fun h9 => absurd (by decide) h9)
  refine z_lload_n B dX3_partOf_22 rfl 0 rfl ?_
  refine z_sta B B.2.2.2.2.2.1.1.2.2.2.2.1 (by decide +kernel) rfl dX3_partOf_23 ?_
  refine z_iload_n B dX3_partOf_26 rfl 1 rfl ?_
  refine z_sald B B.2.2.2.2.2.1.2.2.2.1.2.2.2.2.1 (B.2.2.2.2.2.1.2.2.2.2 4 (by decide)) (vin rfl) dX3_partOf_27 ?_
  refine z_top (st1 := [.int 32, .long (Int64.ofNat K)]) (by rfl) ?_
  refine z_lshr (v := (Int64.ofNat K) >>> ((32 : Int32).toInt64 &&& 63)) B dX3_partOf_28 rfl ?_
  refine z_l2i (v := ((Int64.ofNat K) >>> ((32 : Int32).toInt64 &&& 63)).toInt32) B dX3_partOf_29 rfl ?_
  refine z_sta B B.2.2.2.2.2.1.1.2.2.2.2.2 (by decide +kernel) rfl dX3_partOf_30 ?_
  refine z_iload_n B dX3_partOf_33 rfl 1 rfl ?_
  refine z_sald B B.2.2.2.2.2.1.2.2.2.1.2.2.2.2.2 (B.2.2.2.2.2.1.2.2.2.2 5 (by decide)) (vin rfl) dX3_partOf_34 ?_
  refine z_top (st1 := [.int 255, .int (((Int64.ofNat K) >>> ((32 : Int32).toInt64 &&& 63)).toInt32)]) (by rfl) ?_
  refine z_iand B dX3_partOf_35 ?_
  exact z_ret_i B dX3_partOf_36 ⟨(congrArg (fun w9 : Int32 => some (Value.int w9)) (pt_k (s := 32) (q := 8) _ (by decide) (by omega) (by decide) (by decide))), rfl, hI, (fun b9 h9 => rfl)⟩

set_option maxHeartbeats 4000000 in
set_option maxRecDepth 100000 in
theorem s_X3_partOf1X (G : EnvG) (l : Launch) (Φ : Hm) (sz x ca : Nat) (K : Nat) (hx : G.2.2.2 ≤ x) (hI : In G x ca Φ) (hK : K < 2 ^ 40) : Ct G l yX3_partOf wsX3_partOf ({ frames := 0, cells := 0, slots := 0, locals := 0 }) 0 0 [.long (Int64.ofNat K), .int 1] Φ sz (fun v Φ1 sz1 => (v = some (.int (nI (K / 2 ^ 24 % 2 ^ 8)))) ∧ sz1 = sz ∧ In G x (ca) Φ1 ∧ Fr x (fun j9 => False) Φ Φ1) := by
  refine Ct.of (cc := cX3_partOf) (maxL := 3) (ret := (some .int)) (by decide) rfl (Nat.le_of_ble_eq_true rfl) ?_
  intro p9 e9 s9 m9 w9 t9 k9 B
  show Z p9 l e9 _ s9 m9 _ w9 t9 k9 _ G 3 0 [(0, .long (Int64.ofNat K)), (2, .int 1)] [] Φ sz 0 0
  refine z_iload_n B dX3_partOf_0 rfl 1 rfl ?_
  refine z_if_lt (tgt := 20) B dX3_partOf_1 rfl (fun h9 => absurd h9 (by decide)) (fun c_1 => ?_)
  refine z_iload_n B dX3_partOf_4 rfl 1 rfl ?_
  refine z_sta B B.2.2.2.2.2.1.1.2.2.2.2.1 (by decide +kernel) rfl dX3_partOf_5 ?_
  refine z_slen (v := 4) B B.2.2.2.2.2.1.2.2.2.1.2.2.2.2.1 (B.2.2.2.2.2.1.2.2.2.2 4 (by decide)) rfl dX3_partOf_8 ?_
  refine z_icmp_ge (tgt := 20) B dX3_partOf_9 rfl (fun h9 => absurd h9 (by decide)) (fun c_2 => ?_)
  refine z_iload_n B dX3_partOf_12 rfl 1 rfl ?_
  refine z_sta B B.2.2.2.2.2.1.1.2.2.2.2.2 (by decide +kernel) rfl dX3_partOf_13 ?_
  refine z_slen (v := 4) B B.2.2.2.2.2.1.2.2.2.1.2.2.2.2.2 (B.2.2.2.2.2.1.2.2.2.2 5 (by decide)) rfl dX3_partOf_16 ?_
  refine z_icmp_lt (tgt := 22) B dX3_partOf_17 rfl (fun c_3 => ?_) (fun h9 => absurd (by decide) h9)
  refine z_lload_n B dX3_partOf_22 rfl 0 rfl ?_
  refine z_sta B B.2.2.2.2.2.1.1.2.2.2.2.1 (by decide +kernel) rfl dX3_partOf_23 ?_
  refine z_iload_n B dX3_partOf_26 rfl 1 rfl ?_
  refine z_sald B B.2.2.2.2.2.1.2.2.2.1.2.2.2.2.1 (B.2.2.2.2.2.1.2.2.2.2 4 (by decide)) (vin rfl) dX3_partOf_27 ?_
  refine z_top (st1 := [.int 24, .long (Int64.ofNat K)]) (by rfl) ?_
  refine z_lshr (v := (Int64.ofNat K) >>> ((24 : Int32).toInt64 &&& 63)) B dX3_partOf_28 rfl ?_
  refine z_l2i (v := ((Int64.ofNat K) >>> ((24 : Int32).toInt64 &&& 63)).toInt32) B dX3_partOf_29 rfl ?_
  refine z_sta B B.2.2.2.2.2.1.1.2.2.2.2.2 (by decide +kernel) rfl dX3_partOf_30 ?_
  refine z_iload_n B dX3_partOf_33 rfl 1 rfl ?_
  refine z_sald B B.2.2.2.2.2.1.2.2.2.1.2.2.2.2.2 (B.2.2.2.2.2.1.2.2.2.2 5 (by decide)) (vin rfl) dX3_partOf_34 ?_
  refine z_top (st1 := [.int 255, .int (((Int64.ofNat K) >>> ((24 : Int32).toInt64 &&& 63)).toInt32)]) (by rfl) ?_
  refine z_iand B dX3_partOf_35 ?_
  exact z_ret_i B dX3_partOf_36 ⟨(congrArg (fun w9 : Int32 => some (Value.int w9)) (pt_k (s := 24) (q := 8) _ (by decide) (by omega) (by decide) (by decide))), rfl, hI, (fun b9 h9 => rfl)⟩

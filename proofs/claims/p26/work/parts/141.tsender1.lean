set_option maxRecDepth 20000 in
theorem ggX7_init_X5_init : GoodIn wsX7_init wsX5_init := (goodIn_ca (goodIn_r _ [12, 13, 2, 3, 14, 15, 16, 17, 18, 19, 20] rfl (by decide +kernel)) (goodIn_sub (fun _ h => List.mem_cons_of_mem _ (List.mem_append_right _ h)) gw_wsX50))
set_option maxRecDepth 20000 in
theorem gX7_init_X5_init : GoodIn wsX7_init (wsX5_init) := ggX7_init_X5_init
theorem dX7_init_0 : decode cX7_init 0 = .ok (.aload_n 0, 1) := by decide +kernel
theorem dX7_init_1 : decode cX7_init 1 = .ok (.invokespecial 3, 3) := by decide +kernel
theorem dX7_init_4 : decode cX7_init 4 = .ok (.aload_n 0, 1) := by decide +kernel
theorem dX7_init_5 : decode cX7_init 5 = .ok (.bipush 13, 2) := by decide +kernel
theorem dX7_init_7 : decode cX7_init 7 = .ok (.anewarray 9, 3) := by decide +kernel
theorem dX7_init_10 : decode cX7_init 10 = .ok (.putfield 11, 3) := by decide +kernel
theorem dX7_init_13 : decode cX7_init 13 = .ok (.aload_n 0, 1) := by decide +kernel
theorem dX7_init_14 : decode cX7_init 14 = .ok (.iconst 0, 1) := by decide +kernel
theorem dX7_init_15 : decode cX7_init 15 = .ok (.putfield 17, 3) := by decide +kernel
theorem dX7_init_18 : decode cX7_init 18 = .ok (.aload_n 0, 1) := by decide +kernel
theorem dX7_init_19 : decode cX7_init 19 = .ok (.iconst 0, 1) := by decide +kernel
theorem dX7_init_20 : decode cX7_init 20 = .ok (.putfield 21, 3) := by decide +kernel
theorem dX7_init_23 : decode cX7_init 23 = .ok (.iconst 0, 1) := by decide +kernel
theorem dX7_init_24 : decode cX7_init 24 = .ok (.istore_n 1, 1) := by decide +kernel
theorem dX7_init_25 : decode cX7_init 25 = .ok (.iload_n 1, 1) := by decide +kernel
theorem dX7_init_26 : decode cX7_init 26 = .ok (.aload_n 0, 1) := by decide +kernel
theorem dX7_init_27 : decode cX7_init 27 = .ok (.getfield 11, 3) := by decide +kernel
theorem dX7_init_30 : decode cX7_init 30 = .ok (.arraylength, 1) := by decide +kernel
theorem dX7_init_31 : decode cX7_init 31 = .ok (.if_icmp .ge 25, 3) := by decide +kernel
theorem dX7_init_34 : decode cX7_init 34 = .ok (.aload_n 0, 1) := by decide +kernel
theorem dX7_init_35 : decode cX7_init 35 = .ok (.getfield 11, 3) := by decide +kernel
theorem dX7_init_38 : decode cX7_init 38 = .ok (.iload_n 1, 1) := by decide +kernel
theorem dX7_init_39 : decode cX7_init 39 = .ok (.new 9, 3) := by decide +kernel
theorem dX7_init_42 : decode cX7_init 42 = .ok (.dup, 1) := by decide +kernel
theorem dX7_init_43 : decode cX7_init 43 = .ok (.sipush 600, 3) := by decide +kernel
theorem dX7_init_46 : decode cX7_init 46 = .ok (.invokespecial 24, 3) := by decide +kernel
theorem dX7_init_49 : decode cX7_init 49 = .ok (.aastore, 1) := by decide +kernel
theorem dX7_init_50 : decode cX7_init 50 = .ok (.iinc 1 1, 3) := by decide +kernel
theorem dX7_init_53 : decode cX7_init 53 = .ok (.goto (-28), 3) := by decide +kernel
theorem dX7_init_56 : decode cX7_init 56 = .ok (.return_, 1) := by decide +kernel
set_option maxRecDepth 20000 in
theorem ggX8_init_X5_init : GoodIn wsX8_init wsX5_init := (goodIn_ca (goodIn_r _ [20, 21, 2, 3, 22, 23, 24, 25, 26, 27, 28] rfl (by decide +kernel)) (goodIn_sub (fun _ h => List.mem_cons_of_mem _ (List.mem_append_left _ (List.mem_append_right _ h))) gw_wsX50))
set_option maxRecDepth 20000 in
theorem gX8_init_X5_init : GoodIn wsX8_init (wsX5_init) := ggX8_init_X5_init
theorem dX8_init_0 : decode cX8_init 0 = .ok (.aload_n 0, 1) := by decide +kernel
theorem dX8_init_1 : decode cX8_init 1 = .ok (.invokespecial 3, 3) := by decide +kernel
theorem dX8_init_4 : decode cX8_init 4 = .ok (.aload_n 0, 1) := by decide +kernel
theorem dX8_init_5 : decode cX8_init 5 = .ok (.new 9, 3) := by decide +kernel
theorem dX8_init_8 : decode cX8_init 8 = .ok (.dup, 1) := by decide +kernel
theorem dX8_init_9 : decode cX8_init 9 = .ok (.sipush 348, 3) := by decide +kernel
theorem dX8_init_12 : decode cX8_init 12 = .ok (.invokespecial 11, 3) := by decide +kernel
theorem dX8_init_15 : decode cX8_init 15 = .ok (.putfield 14, 3) := by decide +kernel
theorem dX8_init_18 : decode cX8_init 18 = .ok (.aload_n 0, 1) := by decide +kernel
theorem dX8_init_19 : decode cX8_init 19 = .ok (.bipush 12, 2) := by decide +kernel
theorem dX8_init_21 : decode cX8_init 21 = .ok (.newarray .int, 2) := by decide +kernel
theorem dX8_init_23 : decode cX8_init 23 = .ok (.putfield 20, 3) := by decide +kernel
theorem dX8_init_26 : decode cX8_init 26 = .ok (.aload_n 0, 1) := by decide +kernel
theorem dX8_init_27 : decode cX8_init 27 = .ok (.iconst 0, 1) := by decide +kernel
theorem dX8_init_28 : decode cX8_init 28 = .ok (.putfield 24, 3) := by decide +kernel
theorem dX8_init_31 : decode cX8_init 31 = .ok (.aload_n 0, 1) := by decide +kernel
theorem dX8_init_32 : decode cX8_init 32 = .ok (.iconst 4, 1) := by decide +kernel
theorem dX8_init_33 : decode cX8_init 33 = .ok (.newarray .int, 2) := by decide +kernel
theorem dX8_init_35 : decode cX8_init 35 = .ok (.putfield 28, 3) := by decide +kernel
theorem dX8_init_38 : decode cX8_init 38 = .ok (.aload_n 0, 1) := by decide +kernel
theorem dX8_init_39 : decode cX8_init 39 = .ok (.iconst 4, 1) := by decide +kernel
theorem dX8_init_40 : decode cX8_init 40 = .ok (.newarray .int, 2) := by decide +kernel
theorem dX8_init_42 : decode cX8_init 42 = .ok (.putfield 31, 3) := by decide +kernel
theorem dX8_init_45 : decode cX8_init 45 = .ok (.aload_n 0, 1) := by decide +kernel
theorem dX8_init_46 : decode cX8_init 46 = .ok (.iconst 0, 1) := by decide +kernel
theorem dX8_init_47 : decode cX8_init 47 = .ok (.putfield 34, 3) := by decide +kernel
theorem dX8_init_50 : decode cX8_init 50 = .ok (.aload_n 0, 1) := by decide +kernel
theorem dX8_init_51 : decode cX8_init 51 = .ok (.lconst 0, 1) := by decide +kernel
theorem dX8_init_52 : decode cX8_init 52 = .ok (.putfield 37, 3) := by decide +kernel
theorem dX8_init_55 : decode cX8_init 55 = .ok (.aload_n 0, 1) := by decide +kernel
theorem dX8_init_56 : decode cX8_init 56 = .ok (.iconst 0, 1) := by decide +kernel
theorem dX8_init_57 : decode cX8_init 57 = .ok (.putfield 41, 3) := by decide +kernel
theorem dX8_init_60 : decode cX8_init 60 = .ok (.aload_n 0, 1) := by decide +kernel
theorem dX8_init_61 : decode cX8_init 61 = .ok (.aload_n 1, 1) := by decide +kernel
theorem dX8_init_62 : decode cX8_init 62 = .ok (.putfield 44, 3) := by decide +kernel
theorem dX8_init_65 : decode cX8_init 65 = .ok (.aload_n 0, 1) := by decide +kernel
theorem dX8_init_66 : decode cX8_init 66 = .ok (.aload_n 2, 1) := by decide +kernel
theorem dX8_init_67 : decode cX8_init 67 = .ok (.putfield 48, 3) := by decide +kernel
theorem dX8_init_70 : decode cX8_init 70 = .ok (.return_, 1) := by decide +kernel
set_option maxHeartbeats 4000000 in
set_option maxRecDepth 100000 in
theorem c_X7_clear (G : EnvG) (l : Launch) (Φ : Hm) (sz : Nat) (h : Nat) (f : Nat) (a : Int32) (b : Int32) (hc0 : Φ h = some (o_ 9 [.ref f, .int a, .int b])) (hna_h : G.2.2.2 ≤ h) : Ct G l yX7_clear wsX7_clear ({ frames := 0, cells := 0, slots := 0, locals := 0 }) 0 0 [.ref h] Φ sz (fun v Φ1 sz1 => v = none ∧ sz1 = sz ∧ (∀ b9 : Nat, b9 ≠ h → Φ1 b9 = Φ b9) ∧ Φ1 h = some (o_ 9 [.ref f, .int 0, .int 0])) := by
  refine Ct.of (cc := cX7_clear) (maxL := 1) (ret := none) (by decide) rfl (Nat.le_of_ble_eq_true rfl) ?_
  intro p9 e9 s9 m9 w9 t9 k9 B
  show Z p9 l e9 _ s9 m9 _ w9 t9 k9 _ G 1 0 [(0, .ref h)] [] Φ (sz) 0 0
  refine z_aload_n B dX7_clear_0 rfl 0 rfl ?_
  refine z_iconst (v := 0) B dX7_clear_1 rfl ?_
  refine z_put (ref := "FlowExporter$Queue") (C := RX7) (T := TX7) (N := 3) (ci := 9) (v := .int 0) B (by decide +kernel) tyX7 tyX7_ok nmX7 rfl 1 (by decide) (by decide +kernel) rfl (Or.inl rfl) hc0 hna_h rfl rfl (Nat.le_of_ble_eq_true rfl) dX7_clear_2 (fun Φ1 hΦ1 => ?_)
  have h_1 : Φ1 h = some (o_ 9 [.ref f, .int 0, .int b]) := fset_at hΦ1
  refine z_aload_n B dX7_clear_5 rfl 0 rfl ?_
  refine z_iconst (v := 0) B dX7_clear_6 rfl ?_
  refine z_put (ref := "FlowExporter$Queue") (C := RX7) (T := TX7) (N := 3) (ci := 9) (v := .int 0) B (by decide +kernel) tyX7 tyX7_ok nmX7 rfl 2 (by decide) (by decide +kernel) rfl (Or.inl rfl) h_1 hna_h rfl rfl (Nat.le_of_ble_eq_true rfl) dX7_clear_7 (fun Φ2 hΦ2 => ?_)
  have h_2 : Φ2 h = some (o_ 9 [.ref f, .int 0, .int 0]) := fset_at hΦ2
  exact z_ret_v B dX7_clear_10 ⟨rfl, rfl, (fun b9 h9a => ((fset_fr hΦ2 h9a).trans ((fset_fr hΦ1 h9a).trans rfl))), h_2⟩

set_option maxHeartbeats 4000000 in
set_option maxRecDepth 100000 in
theorem c_X7_init (G : EnvG) (l : Launch) (Φ : Hm) (sz : Nat) (h : Nat) (hc0 : Φ h = some (o_ 9 [.null, .int 0, .int 0])) (hna_h : G.2.2.2 ≤ h) : Ct G l yX7_init wsX7_init ({ frames := 2, cells := 27, slots := 7839, locals := 35 }) 27 7839 [.ref h] Φ sz (fun v Φ1 sz1 => v = none ∧ sz1 = sz + 27 ∧ (∀ b9 : Nat, b9 < sz → b9 ≠ h → Φ1 b9 = Φ b9) ∧ Φ1 h = some (o_ 9 [.ref sz, .int 0, .int 0]) ∧ Φ1 sz = some (aq_ G 6 13 (va_up (va_up (va_up (va_up (va_up (va_up (va_up (va_up (va_up (va_up (va_up (va_up (va_up (fun _ => none) (0 : Int32).toNatClampNeg (some (sz + 1))) (1 : Int32).toNatClampNeg (some (sz + 3))) (2 : Int32).toNatClampNeg (some (sz + 5))) (3 : Int32).toNatClampNeg (some (sz + 7))) (4 : Int32).toNatClampNeg (some (sz + 9))) (5 : Int32).toNatClampNeg (some (sz + 11))) (6 : Int32).toNatClampNeg (some (sz + 13))) (7 : Int32).toNatClampNeg (some (sz + 15))) (8 : Int32).toNatClampNeg (some (sz + 17))) (9 : Int32).toNatClampNeg (some (sz + 19))) (10 : Int32).toNatClampNeg (some (sz + 21))) (11 : Int32).toNatClampNeg (some (sz + 23))) (12 : Int32).toNatClampNeg (some (sz + 25)))) ∧ Φ1 (sz + 1) = some (o_ 7 [.ref (sz + 2), .int 0]) ∧ Φ1 (sz + 2) = some (ab_ G 600 (fun _ => 0)) ∧ Φ1 (sz + 3) = some (o_ 7 [.ref (sz + 4), .int 0]) ∧ Φ1 (sz + 4) = some (ab_ G 600 (fun _ => 0)) ∧ Φ1 (sz + 5) = some (o_ 7 [.ref (sz + 6), .int 0]) ∧ Φ1 (sz + 6) = some (ab_ G 600 (fun _ => 0)) ∧ Φ1 (sz + 7) = some (o_ 7 [.ref (sz + 8), .int 0]) ∧ Φ1 (sz + 8) = some (ab_ G 600 (fun _ => 0)) ∧ Φ1 (sz + 9) = some (o_ 7 [.ref (sz + 10), .int 0]) ∧ Φ1 (sz + 10) = some (ab_ G 600 (fun _ => 0)) ∧ Φ1 (sz + 11) = some (o_ 7 [.ref (sz + 12), .int 0]) ∧ Φ1 (sz + 12) = some (ab_ G 600 (fun _ => 0)) ∧ Φ1 (sz + 13) = some (o_ 7 [.ref (sz + 14), .int 0]) ∧ Φ1 (sz + 14) = some (ab_ G 600 (fun _ => 0)) ∧ Φ1 (sz + 15) = some (o_ 7 [.ref (sz + 16), .int 0]) ∧ Φ1 (sz + 16) = some (ab_ G 600 (fun _ => 0)) ∧ Φ1 (sz + 17) = some (o_ 7 [.ref (sz + 18), .int 0]) ∧ Φ1 (sz + 18) = some (ab_ G 600 (fun _ => 0)) ∧ Φ1 (sz + 19) = some (o_ 7 [.ref (sz + 20), .int 0]) ∧ Φ1 (sz + 20) = some (ab_ G 600 (fun _ => 0)) ∧ Φ1 (sz + 21) = some (o_ 7 [.ref (sz + 22), .int 0]) ∧ Φ1 (sz + 22) = some (ab_ G 600 (fun _ => 0)) ∧ Φ1 (sz + 23) = some (o_ 7 [.ref (sz + 24), .int 0]) ∧ Φ1 (sz + 24) = some (ab_ G 600 (fun _ => 0)) ∧ Φ1 (sz + 25) = some (o_ 7 [.ref (sz + 26), .int 0]) ∧ Φ1 (sz + 26) = some (ab_ G 600 (fun _ => 0))) := by
  refine Ct.of (cc := cX7_init) (maxL := 2) (ret := none) (by decide) rfl (Nat.le_of_ble_eq_true rfl) ?_
  intro p9 e9 s9 m9 w9 t9 k9 B
  show Z p9 l e9 _ s9 m9 _ w9 t9 k9 _ G 2 0 [(0, .ref h)] [] Φ (sz) 0 0
  refine z_lt (fun hlt => ?_)
  refine z_aload_n B dX7_init_0 rfl 0 rfl ?_
  refine z_obj B (by decide +kernel) (by decide +kernel) (by decide +kernel) rfl ⟨Nat.le_of_ble_eq_true rfl, Nat.le_of_ble_eq_true rfl⟩ dX7_init_1 ?_
  refine z_aload_n B dX7_init_4 rfl 0 rfl ?_
  refine z_bipush (v := 13) B dX7_init_5 rfl ?_
  refine z_newq (C := RX5) (t := 6) (N' := 13) B (by decide +kernel) B.2.2.2.2.1.2.1.2.2 rfl (by decide) rfl (Nat.le_of_ble_eq_true rfl) (Nat.le_of_ble_eq_true rfl) (Nat.le_of_ble_eq_true rfl) dX7_init_7 (fun Φ1 hΦ1 hz1 => ?_)
  have h_1 : Φ1 sz = some (aq_ G 6 13 (fun _ => none)) := fset_at hΦ1
  have h_2 : Φ1 h = some (o_ 9 [.null, .int 0, .int 0]) := ((fset_fr hΦ1 (Nat.ne_of_lt (hlt _ _ hc0))).trans hc0)
  refine z_put (ref := "FlowExporter$Queue") (C := RX7) (T := TX7) (N := 3) (ci := 9) (v := .ref sz) B (by decide +kernel) tyX7 tyX7_ok nmX7 rfl 0 (by decide) (by decide +kernel) rfl (Or.inr ⟨rfl, rfl, rfl⟩) h_2 hna_h rfl rfl (Nat.le_of_ble_eq_true rfl) dX7_init_10 (fun Φ2 hΦ2 => ?_)
  have h_3 : Φ2 h = some (o_ 9 [.ref sz, .int 0, .int 0]) := fset_at hΦ2
  refine z_aload_n B dX7_init_13 rfl 0 rfl ?_
  refine z_iconst (v := 0) B dX7_init_14 rfl ?_
  refine z_put (ref := "FlowExporter$Queue") (C := RX7) (T := TX7) (N := 3) (ci := 9) (v := .int 0) B (by decide +kernel) tyX7 tyX7_ok nmX7 rfl 1 (by decide) (by decide +kernel) rfl (Or.inl rfl) h_3 hna_h rfl rfl (Nat.le_of_ble_eq_true rfl) dX7_init_15 (fun Φ3 hΦ3 => ?_)
  have h_4 : Φ3 h = some (o_ 9 [.ref sz, .int 0, .int 0]) := fset_at hΦ3
  refine z_aload_n B dX7_init_18 rfl 0 rfl ?_
  refine z_iconst (v := 0) B dX7_init_19 rfl ?_
  refine z_put (ref := "FlowExporter$Queue") (C := RX7) (T := TX7) (N := 3) (ci := 9) (v := .int 0) B (by decide +kernel) tyX7 tyX7_ok nmX7 rfl 2 (by decide) (by decide +kernel) rfl (Or.inl rfl) h_4 hna_h rfl rfl (Nat.le_of_ble_eq_true rfl) dX7_init_20 (fun Φ4 hΦ4 => ?_)
  have h_5 : Φ4 h = some (o_ 9 [.ref sz, .int 0, .int 0]) := fset_at hΦ4
  refine z_iconst (v := 0) B dX7_init_23 rfl ?_
  refine z_istore_n (lv' := [(1, .int 0), (0, .ref h)]) B dX7_init_24 rfl (Nat.le_of_ble_eq_true rfl) rfl ?_
  refine z_iload_n B dX7_init_25 rfl 0 rfl ?_
  refine z_aload_n B dX7_init_26 rfl 1 rfl ?_
  refine z_get (ref := "FlowExporter$Queue") (C := RX7) (T := TX7) (N := 3) (ci := 9) (v := .ref sz) B (by decide +kernel) rfl 0 (by decide) (by decide +kernel) rfl h_5 rfl dX7_init_27 ?_
  have h_6 : Φ4 sz = some (aq_ G 6 13 (fun _ => none)) := ((fset_fr hΦ4 (Nat.ne_of_gt (hlt _ _ hc0))).trans ((fset_fr hΦ3 (Nat.ne_of_gt (hlt _ _ hc0))).trans ((fset_fr hΦ2 (Nat.ne_of_gt (hlt _ _ hc0))).trans h_1)))
  refine z_alen (t := 6) (v := 13) B rfl h_6 rfl dX7_init_30 ?_
  refine z_icmp_ge (tgt := 56) B dX7_init_31 rfl (fun h9 => absurd h9 (by decide)) (fun c_1 => ?_)
  refine z_aload_n B dX7_init_34 rfl 1 rfl ?_
  refine z_get (ref := "FlowExporter$Queue") (C := RX7) (T := TX7) (N := 3) (ci := 9) (v := .ref sz) B (by decide +kernel) rfl 0 (by decide) (by decide +kernel) rfl h_5 rfl dX7_init_35 ?_
  refine z_iload_n B dX7_init_38 rfl 0 rfl ?_
  refine z_new (C := RX5) (T := TX5) (N := 2) (ci := 7) (fs := [.null, .int 0]) B (by decide +kernel) tyX5 tyX5_ok (by decide +kernel) (by decide +kernel) (by decide +kernel) rfl (by decide +kernel) (Nat.le_of_ble_eq_true rfl) (Nat.le_of_ble_eq_true rfl) dX7_init_39 (fun Φ5 hΦ5 hz2 => ?_)
  have h_7 : Φ5 (sz + 1) = some (o_ 7 [.null, .int 0]) := fset_at hΦ5
  refine z_dup B dX7_init_42 rfl ?_
  refine z_sipush (v := 600) B dX7_init_43 rfl ?_
  refine z_callI (As := [.int 600]) (rest := [.ref (sz + 1), .int 0, .ref sz]) B (c_X5_init_600 G l Φ5 (sz + 2) (sz + 1) h_7 hz2) (cwI 1 B.1.2.2.2.2 gX7_init_X5_init rfl rfl rfl (B.1.2.2.2.2 _ (by decide +kernel)) (B.1.2.2.2.2 _ (by decide +kernel)) (B.1.2.2.2.2 _ (by decide +kernel)) rfl (by decide +kernel) ⟨Nat.le_of_ble_eq_true rfl, Nat.le_of_ble_eq_true rfl⟩) rfl rfl (Nat.le_of_ble_eq_true rfl) dX7_init_46 ⟨Nat.le_of_ble_eq_true rfl, Nat.le_of_ble_eq_true rfl⟩ (fun v1 Φ6 sz1 st1 hp1 hs1 => ?_)
  obtain ⟨rfl, hq1, fr1, h_8, h_9⟩ := hp1
  replace hq1 : sz1 = sz + 3 := hq1
  subst sz1
  replace hs1 : st1 = [.ref (sz + 1), .int 0, .ref sz] := hs1
  subst st1
  have h_10 : Φ6 (sz + 1) = some (o_ 7 [.ref (sz + 2), .int 0]) := h_8
  have h_11 : Φ6 (sz + 2) = some (ab_ G 600 (fun _ => 0)) := h_9
  have h_12 : Φ6 sz = some (aq_ G 6 13 (fun _ => none)) := ((fr1 sz (lt_off (x := sz) (i := 0) (j := 2) rfl) (ne_off (x := sz) (i := 0) (j := 1) rfl)).trans ((fset_fr hΦ5 (ne_off (x := sz) (i := 0) (j := 1) rfl)).trans h_6))
  refine z_aast B rfl h_12 hz1 h_10 rfl (vin rfl) dX7_init_49 (fun Φ7 hΦ6 => ?_)
  have h_13 : Φ7 sz = some (aq_ G 6 13 (va_up (fun _ => none) (0 : Int32).toNatClampNeg (some (sz + 1)))) := fset_at hΦ6
  refine z_iinc (k := 0) (v := 1) (lv' := [(1, .int 1), (0, .ref h)]) B dX7_init_50 rfl rfl (Nat.le_of_ble_eq_true rfl) rfl ?_
  refine z_goto (tgt := 25) B dX7_init_53 rfl ?_
  refine z_iload_n B dX7_init_25 rfl 0 rfl ?_
  refine z_aload_n B dX7_init_26 rfl 1 rfl ?_
  have h_14 : Φ7 h = some (o_ 9 [.ref sz, .int 0, .int 0]) := ((fset_fr hΦ6 (Nat.ne_of_lt (hlt _ _ hc0))).trans ((fr1 h (Nat.lt_of_lt_of_le (hlt _ _ hc0) (Nat.le_add_right sz 2)) (Nat.ne_of_lt (Nat.lt_of_lt_of_le (hlt _ _ hc0) (Nat.le_add_right sz 1)))).trans ((fset_fr hΦ5 (Nat.ne_of_lt (Nat.lt_of_lt_of_le (hlt _ _ hc0) (Nat.le_add_right sz 1)))).trans h_5)))
  refine z_get (ref := "FlowExporter$Queue") (C := RX7) (T := TX7) (N := 3) (ci := 9) (v := .ref sz) B (by decide +kernel) rfl 0 (by decide) (by decide +kernel) rfl h_14 rfl dX7_init_27 ?_
  refine z_alen (t := 6) (v := 13) B rfl h_13 rfl dX7_init_30 ?_
  refine z_icmp_ge (tgt := 56) B dX7_init_31 rfl (fun h9 => absurd h9 (by decide)) (fun c_2 => ?_)
  refine z_aload_n B dX7_init_34 rfl 1 rfl ?_
  refine z_get (ref := "FlowExporter$Queue") (C := RX7) (T := TX7) (N := 3) (ci := 9) (v := .ref sz) B (by decide +kernel) rfl 0 (by decide) (by decide +kernel) rfl h_14 rfl dX7_init_35 ?_
  refine z_iload_n B dX7_init_38 rfl 0 rfl ?_
  refine z_new (C := RX5) (T := TX5) (N := 2) (ci := 7) (fs := [.null, .int 0]) B (by decide +kernel) tyX5 tyX5_ok (by decide +kernel) (by decide +kernel) (by decide +kernel) rfl (by decide +kernel) (Nat.le_of_ble_eq_true rfl) (Nat.le_of_ble_eq_true rfl) dX7_init_39 (fun Φ8 hΦ7 hz3 => ?_)
  have h_15 : Φ8 (sz + 3) = some (o_ 7 [.null, .int 0]) := fset_at hΦ7
  refine z_dup B dX7_init_42 rfl ?_
  refine z_sipush (v := 600) B dX7_init_43 rfl ?_
  refine z_callI (As := [.int 600]) (rest := [.ref (sz + 3), .int 1, .ref sz]) B (c_X5_init_600 G l Φ8 (sz + 4) (sz + 3) h_15 hz3) (cwI 1 B.1.2.2.2.2 gX7_init_X5_init rfl rfl rfl (B.1.2.2.2.2 _ (by decide +kernel)) (B.1.2.2.2.2 _ (by decide +kernel)) (B.1.2.2.2.2 _ (by decide +kernel)) rfl (by decide +kernel) ⟨Nat.le_of_ble_eq_true rfl, Nat.le_of_ble_eq_true rfl⟩) rfl rfl (Nat.le_of_ble_eq_true rfl) dX7_init_46 ⟨Nat.le_of_ble_eq_true rfl, Nat.le_of_ble_eq_true rfl⟩ (fun v2 Φ9 sz2 st2 hp2 hs2 => ?_)
  obtain ⟨rfl, hq2, fr2, h_16, h_17⟩ := hp2
  replace hq2 : sz2 = sz + 5 := hq2
  subst sz2
  replace hs2 : st2 = [.ref (sz + 3), .int 1, .ref sz] := hs2
  subst st2
  have h_18 : Φ9 (sz + 3) = some (o_ 7 [.ref (sz + 4), .int 0]) := h_16
  have h_19 : Φ9 (sz + 4) = some (ab_ G 600 (fun _ => 0)) := h_17
  have h_20 : Φ9 sz = some (aq_ G 6 13 (va_up (fun _ => none) (0 : Int32).toNatClampNeg (some (sz + 1)))) := ((fr2 sz (lt_off (x := sz) (i := 0) (j := 4) rfl) (ne_off (x := sz) (i := 0) (j := 3) rfl)).trans ((fset_fr hΦ7 (ne_off (x := sz) (i := 0) (j := 3) rfl)).trans h_13))
  refine z_aast B rfl h_20 hz1 h_18 rfl (vin rfl) dX7_init_49 (fun Φ10 hΦ8 => ?_)
  have h_21 : Φ10 sz = some (aq_ G 6 13 (va_up (va_up (fun _ => none) (0 : Int32).toNatClampNeg (some (sz + 1))) (1 : Int32).toNatClampNeg (some (sz + 3)))) := fset_at hΦ8
  refine z_iinc (k := 0) (v := 2) (lv' := [(1, .int 2), (0, .ref h)]) B dX7_init_50 rfl rfl (Nat.le_of_ble_eq_true rfl) rfl ?_
  refine z_goto (tgt := 25) B dX7_init_53 rfl ?_
  refine z_iload_n B dX7_init_25 rfl 0 rfl ?_
  refine z_aload_n B dX7_init_26 rfl 1 rfl ?_
  have h_22 : Φ10 h = some (o_ 9 [.ref sz, .int 0, .int 0]) := ((fset_fr hΦ8 (Nat.ne_of_lt (hlt _ _ hc0))).trans ((fr2 h (Nat.lt_of_lt_of_le (hlt _ _ hc0) (Nat.le_add_right sz 4)) (Nat.ne_of_lt (Nat.lt_of_lt_of_le (hlt _ _ hc0) (Nat.le_add_right sz 3)))).trans ((fset_fr hΦ7 (Nat.ne_of_lt (Nat.lt_of_lt_of_le (hlt _ _ hc0) (Nat.le_add_right sz 3)))).trans h_14)))
  refine z_get (ref := "FlowExporter$Queue") (C := RX7) (T := TX7) (N := 3) (ci := 9) (v := .ref sz) B (by decide +kernel) rfl 0 (by decide) (by decide +kernel) rfl h_22 rfl dX7_init_27 ?_
  refine z_alen (t := 6) (v := 13) B rfl h_21 rfl dX7_init_30 ?_
  refine z_icmp_ge (tgt := 56) B dX7_init_31 rfl (fun h9 => absurd h9 (by decide)) (fun c_3 => ?_)
  refine z_aload_n B dX7_init_34 rfl 1 rfl ?_
  refine z_get (ref := "FlowExporter$Queue") (C := RX7) (T := TX7) (N := 3) (ci := 9) (v := .ref sz) B (by decide +kernel) rfl 0 (by decide) (by decide +kernel) rfl h_22 rfl dX7_init_35 ?_
  refine z_iload_n B dX7_init_38 rfl 0 rfl ?_
  refine z_new (C := RX5) (T := TX5) (N := 2) (ci := 7) (fs := [.null, .int 0]) B (by decide +kernel) tyX5 tyX5_ok (by decide +kernel) (by decide +kernel) (by decide +kernel) rfl (by decide +kernel) (Nat.le_of_ble_eq_true rfl) (Nat.le_of_ble_eq_true rfl) dX7_init_39 (fun Φ11 hΦ9 hz4 => ?_)
  have h_23 : Φ11 (sz + 5) = some (o_ 7 [.null, .int 0]) := fset_at hΦ9
  refine z_dup B dX7_init_42 rfl ?_
  refine z_sipush (v := 600) B dX7_init_43 rfl ?_
  refine z_callI (As := [.int 600]) (rest := [.ref (sz + 5), .int 2, .ref sz]) B (c_X5_init_600 G l Φ11 (sz + 6) (sz + 5) h_23 hz4) (cwI 1 B.1.2.2.2.2 gX7_init_X5_init rfl rfl rfl (B.1.2.2.2.2 _ (by decide +kernel)) (B.1.2.2.2.2 _ (by decide +kernel)) (B.1.2.2.2.2 _ (by decide +kernel)) rfl (by decide +kernel) ⟨Nat.le_of_ble_eq_true rfl, Nat.le_of_ble_eq_true rfl⟩) rfl rfl (Nat.le_of_ble_eq_true rfl) dX7_init_46 ⟨Nat.le_of_ble_eq_true rfl, Nat.le_of_ble_eq_true rfl⟩ (fun v3 Φ12 sz3 st3 hp3 hs3 => ?_)
  obtain ⟨rfl, hq3, fr3, h_24, h_25⟩ := hp3
  replace hq3 : sz3 = sz + 7 := hq3
  subst sz3
  replace hs3 : st3 = [.ref (sz + 5), .int 2, .ref sz] := hs3
  subst st3
  have h_26 : Φ12 (sz + 5) = some (o_ 7 [.ref (sz + 6), .int 0]) := h_24
  have h_27 : Φ12 (sz + 6) = some (ab_ G 600 (fun _ => 0)) := h_25
  have h_28 : Φ12 sz = some (aq_ G 6 13 (va_up (va_up (fun _ => none) (0 : Int32).toNatClampNeg (some (sz + 1))) (1 : Int32).toNatClampNeg (some (sz + 3)))) := ((fr3 sz (lt_off (x := sz) (i := 0) (j := 6) rfl) (ne_off (x := sz) (i := 0) (j := 5) rfl)).trans ((fset_fr hΦ9 (ne_off (x := sz) (i := 0) (j := 5) rfl)).trans h_21))
  refine z_aast B rfl h_28 hz1 h_26 rfl (vin rfl) dX7_init_49 (fun Φ13 hΦ10 => ?_)
  have h_29 : Φ13 sz = some (aq_ G 6 13 (va_up (va_up (va_up (fun _ => none) (0 : Int32).toNatClampNeg (some (sz + 1))) (1 : Int32).toNatClampNeg (some (sz + 3))) (2 : Int32).toNatClampNeg (some (sz + 5)))) := fset_at hΦ10
  refine z_iinc (k := 0) (v := 3) (lv' := [(1, .int 3), (0, .ref h)]) B dX7_init_50 rfl rfl (Nat.le_of_ble_eq_true rfl) rfl ?_
  refine z_goto (tgt := 25) B dX7_init_53 rfl ?_
  refine z_iload_n B dX7_init_25 rfl 0 rfl ?_
  refine z_aload_n B dX7_init_26 rfl 1 rfl ?_
  have h_30 : Φ13 h = some (o_ 9 [.ref sz, .int 0, .int 0]) := ((fset_fr hΦ10 (Nat.ne_of_lt (hlt _ _ hc0))).trans ((fr3 h (Nat.lt_of_lt_of_le (hlt _ _ hc0) (Nat.le_add_right sz 6)) (Nat.ne_of_lt (Nat.lt_of_lt_of_le (hlt _ _ hc0) (Nat.le_add_right sz 5)))).trans ((fset_fr hΦ9 (Nat.ne_of_lt (Nat.lt_of_lt_of_le (hlt _ _ hc0) (Nat.le_add_right sz 5)))).trans h_22)))
  refine z_get (ref := "FlowExporter$Queue") (C := RX7) (T := TX7) (N := 3) (ci := 9) (v := .ref sz) B (by decide +kernel) rfl 0 (by decide) (by decide +kernel) rfl h_30 rfl dX7_init_27 ?_
  refine z_alen (t := 6) (v := 13) B rfl h_29 rfl dX7_init_30 ?_
  refine z_icmp_ge (tgt := 56) B dX7_init_31 rfl (fun h9 => absurd h9 (by decide)) (fun c_4 => ?_)
  refine z_aload_n B dX7_init_34 rfl 1 rfl ?_
  refine z_get (ref := "FlowExporter$Queue") (C := RX7) (T := TX7) (N := 3) (ci := 9) (v := .ref sz) B (by decide +kernel) rfl 0 (by decide) (by decide +kernel) rfl h_30 rfl dX7_init_35 ?_
  refine z_iload_n B dX7_init_38 rfl 0 rfl ?_
  refine z_new (C := RX5) (T := TX5) (N := 2) (ci := 7) (fs := [.null, .int 0]) B (by decide +kernel) tyX5 tyX5_ok (by decide +kernel) (by decide +kernel) (by decide +kernel) rfl (by decide +kernel) (Nat.le_of_ble_eq_true rfl) (Nat.le_of_ble_eq_true rfl) dX7_init_39 (fun Φ14 hΦ11 hz5 => ?_)
  have h_31 : Φ14 (sz + 7) = some (o_ 7 [.null, .int 0]) := fset_at hΦ11
  refine z_dup B dX7_init_42 rfl ?_
  refine z_sipush (v := 600) B dX7_init_43 rfl ?_
  refine z_callI (As := [.int 600]) (rest := [.ref (sz + 7), .int 3, .ref sz]) B (c_X5_init_600 G l Φ14 (sz + 8) (sz + 7) h_31 hz5) (cwI 1 B.1.2.2.2.2 gX7_init_X5_init rfl rfl rfl (B.1.2.2.2.2 _ (by decide +kernel)) (B.1.2.2.2.2 _ (by decide +kernel)) (B.1.2.2.2.2 _ (by decide +kernel)) rfl (by decide +kernel) ⟨Nat.le_of_ble_eq_true rfl, Nat.le_of_ble_eq_true rfl⟩) rfl rfl (Nat.le_of_ble_eq_true rfl) dX7_init_46 ⟨Nat.le_of_ble_eq_true rfl, Nat.le_of_ble_eq_true rfl⟩ (fun v4 Φ15 sz4 st4 hp4 hs4 => ?_)
  obtain ⟨rfl, hq4, fr4, h_32, h_33⟩ := hp4
  replace hq4 : sz4 = sz + 9 := hq4
  subst sz4
  replace hs4 : st4 = [.ref (sz + 7), .int 3, .ref sz] := hs4
  subst st4
  have h_34 : Φ15 (sz + 7) = some (o_ 7 [.ref (sz + 8), .int 0]) := h_32
  have h_35 : Φ15 (sz + 8) = some (ab_ G 600 (fun _ => 0)) := h_33
  have h_36 : Φ15 sz = some (aq_ G 6 13 (va_up (va_up (va_up (fun _ => none) (0 : Int32).toNatClampNeg (some (sz + 1))) (1 : Int32).toNatClampNeg (some (sz + 3))) (2 : Int32).toNatClampNeg (some (sz + 5)))) := ((fr4 sz (lt_off (x := sz) (i := 0) (j := 8) rfl) (ne_off (x := sz) (i := 0) (j := 7) rfl)).trans ((fset_fr hΦ11 (ne_off (x := sz) (i := 0) (j := 7) rfl)).trans h_29))
  refine z_aast B rfl h_36 hz1 h_34 rfl (vin rfl) dX7_init_49 (fun Φ16 hΦ12 => ?_)
  have h_37 : Φ16 sz = some (aq_ G 6 13 (va_up (va_up (va_up (va_up (fun _ => none) (0 : Int32).toNatClampNeg (some (sz + 1))) (1 : Int32).toNatClampNeg (some (sz + 3))) (2 : Int32).toNatClampNeg (some (sz + 5))) (3 : Int32).toNatClampNeg (some (sz + 7)))) := fset_at hΦ12
  refine z_iinc (k := 0) (v := 4) (lv' := [(1, .int 4), (0, .ref h)]) B dX7_init_50 rfl rfl (Nat.le_of_ble_eq_true rfl) rfl ?_
  refine z_goto (tgt := 25) B dX7_init_53 rfl ?_
  refine z_iload_n B dX7_init_25 rfl 0 rfl ?_
  refine z_aload_n B dX7_init_26 rfl 1 rfl ?_
  have h_38 : Φ16 h = some (o_ 9 [.ref sz, .int 0, .int 0]) := ((fset_fr hΦ12 (Nat.ne_of_lt (hlt _ _ hc0))).trans ((fr4 h (Nat.lt_of_lt_of_le (hlt _ _ hc0) (Nat.le_add_right sz 8)) (Nat.ne_of_lt (Nat.lt_of_lt_of_le (hlt _ _ hc0) (Nat.le_add_right sz 7)))).trans ((fset_fr hΦ11 (Nat.ne_of_lt (Nat.lt_of_lt_of_le (hlt _ _ hc0) (Nat.le_add_right sz 7)))).trans h_30)))
  refine z_get (ref := "FlowExporter$Queue") (C := RX7) (T := TX7) (N := 3) (ci := 9) (v := .ref sz) B (by decide +kernel) rfl 0 (by decide) (by decide +kernel) rfl h_38 rfl dX7_init_27 ?_
  refine z_alen (t := 6) (v := 13) B rfl h_37 rfl dX7_init_30 ?_
  refine z_icmp_ge (tgt := 56) B dX7_init_31 rfl (fun h9 => absurd h9 (by decide)) (fun c_5 => ?_)
  refine z_aload_n B dX7_init_34 rfl 1 rfl ?_
  refine z_get (ref := "FlowExporter$Queue") (C := RX7) (T := TX7) (N := 3) (ci := 9) (v := .ref sz) B (by decide +kernel) rfl 0 (by decide) (by decide +kernel) rfl h_38 rfl dX7_init_35 ?_
  refine z_iload_n B dX7_init_38 rfl 0 rfl ?_
  refine z_new (C := RX5) (T := TX5) (N := 2) (ci := 7) (fs := [.null, .int 0]) B (by decide +kernel) tyX5 tyX5_ok (by decide +kernel) (by decide +kernel) (by decide +kernel) rfl (by decide +kernel) (Nat.le_of_ble_eq_true rfl) (Nat.le_of_ble_eq_true rfl) dX7_init_39 (fun Φ17 hΦ13 hz6 => ?_)
  have h_39 : Φ17 (sz + 9) = some (o_ 7 [.null, .int 0]) := fset_at hΦ13
  refine z_dup B dX7_init_42 rfl ?_
  refine z_sipush (v := 600) B dX7_init_43 rfl ?_
  refine z_callI (As := [.int 600]) (rest := [.ref (sz + 9), .int 4, .ref sz]) B (c_X5_init_600 G l Φ17 (sz + 10) (sz + 9) h_39 hz6) (cwI 1 B.1.2.2.2.2 gX7_init_X5_init rfl rfl rfl (B.1.2.2.2.2 _ (by decide +kernel)) (B.1.2.2.2.2 _ (by decide +kernel)) (B.1.2.2.2.2 _ (by decide +kernel)) rfl (by decide +kernel) ⟨Nat.le_of_ble_eq_true rfl, Nat.le_of_ble_eq_true rfl⟩) rfl rfl (Nat.le_of_ble_eq_true rfl) dX7_init_46 ⟨Nat.le_of_ble_eq_true rfl, Nat.le_of_ble_eq_true rfl⟩ (fun v5 Φ18 sz5 st5 hp5 hs5 => ?_)
  obtain ⟨rfl, hq5, fr5, h_40, h_41⟩ := hp5
  replace hq5 : sz5 = sz + 11 := hq5
  subst sz5
  replace hs5 : st5 = [.ref (sz + 9), .int 4, .ref sz] := hs5
  subst st5
  have h_42 : Φ18 (sz + 9) = some (o_ 7 [.ref (sz + 10), .int 0]) := h_40
  have h_43 : Φ18 (sz + 10) = some (ab_ G 600 (fun _ => 0)) := h_41
  have h_44 : Φ18 sz = some (aq_ G 6 13 (va_up (va_up (va_up (va_up (fun _ => none) (0 : Int32).toNatClampNeg (some (sz + 1))) (1 : Int32).toNatClampNeg (some (sz + 3))) (2 : Int32).toNatClampNeg (some (sz + 5))) (3 : Int32).toNatClampNeg (some (sz + 7)))) := ((fr5 sz (lt_off (x := sz) (i := 0) (j := 10) rfl) (ne_off (x := sz) (i := 0) (j := 9) rfl)).trans ((fset_fr hΦ13 (ne_off (x := sz) (i := 0) (j := 9) rfl)).trans h_37))
  refine z_aast B rfl h_44 hz1 h_42 rfl (vin rfl) dX7_init_49 (fun Φ19 hΦ14 => ?_)
  have h_45 : Φ19 sz = some (aq_ G 6 13 (va_up (va_up (va_up (va_up (va_up (fun _ => none) (0 : Int32).toNatClampNeg (some (sz + 1))) (1 : Int32).toNatClampNeg (some (sz + 3))) (2 : Int32).toNatClampNeg (some (sz + 5))) (3 : Int32).toNatClampNeg (some (sz + 7))) (4 : Int32).toNatClampNeg (some (sz + 9)))) := fset_at hΦ14
  refine z_iinc (k := 0) (v := 5) (lv' := [(1, .int 5), (0, .ref h)]) B dX7_init_50 rfl rfl (Nat.le_of_ble_eq_true rfl) rfl ?_
  refine z_goto (tgt := 25) B dX7_init_53 rfl ?_
  refine z_iload_n B dX7_init_25 rfl 0 rfl ?_
  refine z_aload_n B dX7_init_26 rfl 1 rfl ?_
  have h_46 : Φ19 h = some (o_ 9 [.ref sz, .int 0, .int 0]) := ((fset_fr hΦ14 (Nat.ne_of_lt (hlt _ _ hc0))).trans ((fr5 h (Nat.lt_of_lt_of_le (hlt _ _ hc0) (Nat.le_add_right sz 10)) (Nat.ne_of_lt (Nat.lt_of_lt_of_le (hlt _ _ hc0) (Nat.le_add_right sz 9)))).trans ((fset_fr hΦ13 (Nat.ne_of_lt (Nat.lt_of_lt_of_le (hlt _ _ hc0) (Nat.le_add_right sz 9)))).trans h_38)))
  refine z_get (ref := "FlowExporter$Queue") (C := RX7) (T := TX7) (N := 3) (ci := 9) (v := .ref sz) B (by decide +kernel) rfl 0 (by decide) (by decide +kernel) rfl h_46 rfl dX7_init_27 ?_
  refine z_alen (t := 6) (v := 13) B rfl h_45 rfl dX7_init_30 ?_
  refine z_icmp_ge (tgt := 56) B dX7_init_31 rfl (fun h9 => absurd h9 (by decide)) (fun c_6 => ?_)
  refine z_aload_n B dX7_init_34 rfl 1 rfl ?_
  refine z_get (ref := "FlowExporter$Queue") (C := RX7) (T := TX7) (N := 3) (ci := 9) (v := .ref sz) B (by decide +kernel) rfl 0 (by decide) (by decide +kernel) rfl h_46 rfl dX7_init_35 ?_
  refine z_iload_n B dX7_init_38 rfl 0 rfl ?_
  refine z_new (C := RX5) (T := TX5) (N := 2) (ci := 7) (fs := [.null, .int 0]) B (by decide +kernel) tyX5 tyX5_ok (by decide +kernel) (by decide +kernel) (by decide +kernel) rfl (by decide +kernel) (Nat.le_of_ble_eq_true rfl) (Nat.le_of_ble_eq_true rfl) dX7_init_39 (fun Φ20 hΦ15 hz7 => ?_)
  have h_47 : Φ20 (sz + 11) = some (o_ 7 [.null, .int 0]) := fset_at hΦ15
  refine z_dup B dX7_init_42 rfl ?_
  refine z_sipush (v := 600) B dX7_init_43 rfl ?_
  refine z_callI (As := [.int 600]) (rest := [.ref (sz + 11), .int 5, .ref sz]) B (c_X5_init_600 G l Φ20 (sz + 12) (sz + 11) h_47 hz7) (cwI 1 B.1.2.2.2.2 gX7_init_X5_init rfl rfl rfl (B.1.2.2.2.2 _ (by decide +kernel)) (B.1.2.2.2.2 _ (by decide +kernel)) (B.1.2.2.2.2 _ (by decide +kernel)) rfl (by decide +kernel) ⟨Nat.le_of_ble_eq_true rfl, Nat.le_of_ble_eq_true rfl⟩) rfl rfl (Nat.le_of_ble_eq_true rfl) dX7_init_46 ⟨Nat.le_of_ble_eq_true rfl, Nat.le_of_ble_eq_true rfl⟩ (fun v6 Φ21 sz6 st6 hp6 hs6 => ?_)
  obtain ⟨rfl, hq6, fr6, h_48, h_49⟩ := hp6
  replace hq6 : sz6 = sz + 13 := hq6
  subst sz6
  replace hs6 : st6 = [.ref (sz + 11), .int 5, .ref sz] := hs6
  subst st6
  have h_50 : Φ21 (sz + 11) = some (o_ 7 [.ref (sz + 12), .int 0]) := h_48
  have h_51 : Φ21 (sz + 12) = some (ab_ G 600 (fun _ => 0)) := h_49
  have h_52 : Φ21 sz = some (aq_ G 6 13 (va_up (va_up (va_up (va_up (va_up (fun _ => none) (0 : Int32).toNatClampNeg (some (sz + 1))) (1 : Int32).toNatClampNeg (some (sz + 3))) (2 : Int32).toNatClampNeg (some (sz + 5))) (3 : Int32).toNatClampNeg (some (sz + 7))) (4 : Int32).toNatClampNeg (some (sz + 9)))) := ((fr6 sz (lt_off (x := sz) (i := 0) (j := 12) rfl) (ne_off (x := sz) (i := 0) (j := 11) rfl)).trans ((fset_fr hΦ15 (ne_off (x := sz) (i := 0) (j := 11) rfl)).trans h_45))
  refine z_aast B rfl h_52 hz1 h_50 rfl (vin rfl) dX7_init_49 (fun Φ22 hΦ16 => ?_)
  have h_53 : Φ22 sz = some (aq_ G 6 13 (va_up (va_up (va_up (va_up (va_up (va_up (fun _ => none) (0 : Int32).toNatClampNeg (some (sz + 1))) (1 : Int32).toNatClampNeg (some (sz + 3))) (2 : Int32).toNatClampNeg (some (sz + 5))) (3 : Int32).toNatClampNeg (some (sz + 7))) (4 : Int32).toNatClampNeg (some (sz + 9))) (5 : Int32).toNatClampNeg (some (sz + 11)))) := fset_at hΦ16
  refine z_iinc (k := 0) (v := 6) (lv' := [(1, .int 6), (0, .ref h)]) B dX7_init_50 rfl rfl (Nat.le_of_ble_eq_true rfl) rfl ?_
  refine z_goto (tgt := 25) B dX7_init_53 rfl ?_
  refine z_iload_n B dX7_init_25 rfl 0 rfl ?_
  refine z_aload_n B dX7_init_26 rfl 1 rfl ?_
  have h_54 : Φ22 h = some (o_ 9 [.ref sz, .int 0, .int 0]) := ((fset_fr hΦ16 (Nat.ne_of_lt (hlt _ _ hc0))).trans ((fr6 h (Nat.lt_of_lt_of_le (hlt _ _ hc0) (Nat.le_add_right sz 12)) (Nat.ne_of_lt (Nat.lt_of_lt_of_le (hlt _ _ hc0) (Nat.le_add_right sz 11)))).trans ((fset_fr hΦ15 (Nat.ne_of_lt (Nat.lt_of_lt_of_le (hlt _ _ hc0) (Nat.le_add_right sz 11)))).trans h_46)))
  refine z_get (ref := "FlowExporter$Queue") (C := RX7) (T := TX7) (N := 3) (ci := 9) (v := .ref sz) B (by decide +kernel) rfl 0 (by decide) (by decide +kernel) rfl h_54 rfl dX7_init_27 ?_
  refine z_alen (t := 6) (v := 13) B rfl h_53 rfl dX7_init_30 ?_
  refine z_icmp_ge (tgt := 56) B dX7_init_31 rfl (fun h9 => absurd h9 (by decide)) (fun c_7 => ?_)
  refine z_aload_n B dX7_init_34 rfl 1 rfl ?_
  refine z_get (ref := "FlowExporter$Queue") (C := RX7) (T := TX7) (N := 3) (ci := 9) (v := .ref sz) B (by decide +kernel) rfl 0 (by decide) (by decide +kernel) rfl h_54 rfl dX7_init_35 ?_
  refine z_iload_n B dX7_init_38 rfl 0 rfl ?_
  refine z_new (C := RX5) (T := TX5) (N := 2) (ci := 7) (fs := [.null, .int 0]) B (by decide +kernel) tyX5 tyX5_ok (by decide +kernel) (by decide +kernel) (by decide +kernel) rfl (by decide +kernel) (Nat.le_of_ble_eq_true rfl) (Nat.le_of_ble_eq_true rfl) dX7_init_39 (fun Φ23 hΦ17 hz8 => ?_)
  have h_55 : Φ23 (sz + 13) = some (o_ 7 [.null, .int 0]) := fset_at hΦ17
  refine z_dup B dX7_init_42 rfl ?_
  refine z_sipush (v := 600) B dX7_init_43 rfl ?_
  refine z_callI (As := [.int 600]) (rest := [.ref (sz + 13), .int 6, .ref sz]) B (c_X5_init_600 G l Φ23 (sz + 14) (sz + 13) h_55 hz8) (cwI 1 B.1.2.2.2.2 gX7_init_X5_init rfl rfl rfl (B.1.2.2.2.2 _ (by decide +kernel)) (B.1.2.2.2.2 _ (by decide +kernel)) (B.1.2.2.2.2 _ (by decide +kernel)) rfl (by decide +kernel) ⟨Nat.le_of_ble_eq_true rfl, Nat.le_of_ble_eq_true rfl⟩) rfl rfl (Nat.le_of_ble_eq_true rfl) dX7_init_46 ⟨Nat.le_of_ble_eq_true rfl, Nat.le_of_ble_eq_true rfl⟩ (fun v7 Φ24 sz7 st7 hp7 hs7 => ?_)
  obtain ⟨rfl, hq7, fr7, h_56, h_57⟩ := hp7
  replace hq7 : sz7 = sz + 15 := hq7
  subst sz7
  replace hs7 : st7 = [.ref (sz + 13), .int 6, .ref sz] := hs7
  subst st7
  have h_58 : Φ24 (sz + 13) = some (o_ 7 [.ref (sz + 14), .int 0]) := h_56
  have h_59 : Φ24 (sz + 14) = some (ab_ G 600 (fun _ => 0)) := h_57
  have h_60 : Φ24 sz = some (aq_ G 6 13 (va_up (va_up (va_up (va_up (va_up (va_up (fun _ => none) (0 : Int32).toNatClampNeg (some (sz + 1))) (1 : Int32).toNatClampNeg (some (sz + 3))) (2 : Int32).toNatClampNeg (some (sz + 5))) (3 : Int32).toNatClampNeg (some (sz + 7))) (4 : Int32).toNatClampNeg (some (sz + 9))) (5 : Int32).toNatClampNeg (some (sz + 11)))) := ((fr7 sz (lt_off (x := sz) (i := 0) (j := 14) rfl) (ne_off (x := sz) (i := 0) (j := 13) rfl)).trans ((fset_fr hΦ17 (ne_off (x := sz) (i := 0) (j := 13) rfl)).trans h_53))
  refine z_aast B rfl h_60 hz1 h_58 rfl (vin rfl) dX7_init_49 (fun Φ25 hΦ18 => ?_)
  have h_61 : Φ25 sz = some (aq_ G 6 13 (va_up (va_up (va_up (va_up (va_up (va_up (va_up (fun _ => none) (0 : Int32).toNatClampNeg (some (sz + 1))) (1 : Int32).toNatClampNeg (some (sz + 3))) (2 : Int32).toNatClampNeg (some (sz + 5))) (3 : Int32).toNatClampNeg (some (sz + 7))) (4 : Int32).toNatClampNeg (some (sz + 9))) (5 : Int32).toNatClampNeg (some (sz + 11))) (6 : Int32).toNatClampNeg (some (sz + 13)))) := fset_at hΦ18
  refine z_iinc (k := 0) (v := 7) (lv' := [(1, .int 7), (0, .ref h)]) B dX7_init_50 rfl rfl (Nat.le_of_ble_eq_true rfl) rfl ?_
  refine z_goto (tgt := 25) B dX7_init_53 rfl ?_
  refine z_iload_n B dX7_init_25 rfl 0 rfl ?_
  refine z_aload_n B dX7_init_26 rfl 1 rfl ?_
  have h_62 : Φ25 h = some (o_ 9 [.ref sz, .int 0, .int 0]) := ((fset_fr hΦ18 (Nat.ne_of_lt (hlt _ _ hc0))).trans ((fr7 h (Nat.lt_of_lt_of_le (hlt _ _ hc0) (Nat.le_add_right sz 14)) (Nat.ne_of_lt (Nat.lt_of_lt_of_le (hlt _ _ hc0) (Nat.le_add_right sz 13)))).trans ((fset_fr hΦ17 (Nat.ne_of_lt (Nat.lt_of_lt_of_le (hlt _ _ hc0) (Nat.le_add_right sz 13)))).trans h_54)))
  refine z_get (ref := "FlowExporter$Queue") (C := RX7) (T := TX7) (N := 3) (ci := 9) (v := .ref sz) B (by decide +kernel) rfl 0 (by decide) (by decide +kernel) rfl h_62 rfl dX7_init_27 ?_
  refine z_alen (t := 6) (v := 13) B rfl h_61 rfl dX7_init_30 ?_
  refine z_icmp_ge (tgt := 56) B dX7_init_31 rfl (fun h9 => absurd h9 (by decide)) (fun c_8 => ?_)
  refine z_aload_n B dX7_init_34 rfl 1 rfl ?_
  refine z_get (ref := "FlowExporter$Queue") (C := RX7) (T := TX7) (N := 3) (ci := 9) (v := .ref sz) B (by decide +kernel) rfl 0 (by decide) (by decide +kernel) rfl h_62 rfl dX7_init_35 ?_
  refine z_iload_n B dX7_init_38 rfl 0 rfl ?_
  refine z_new (C := RX5) (T := TX5) (N := 2) (ci := 7) (fs := [.null, .int 0]) B (by decide +kernel) tyX5 tyX5_ok (by decide +kernel) (by decide +kernel) (by decide +kernel) rfl (by decide +kernel) (Nat.le_of_ble_eq_true rfl) (Nat.le_of_ble_eq_true rfl) dX7_init_39 (fun Φ26 hΦ19 hz9 => ?_)
  have h_63 : Φ26 (sz + 15) = some (o_ 7 [.null, .int 0]) := fset_at hΦ19
  refine z_dup B dX7_init_42 rfl ?_
  refine z_sipush (v := 600) B dX7_init_43 rfl ?_
  refine z_callI (As := [.int 600]) (rest := [.ref (sz + 15), .int 7, .ref sz]) B (c_X5_init_600 G l Φ26 (sz + 16) (sz + 15) h_63 hz9) (cwI 1 B.1.2.2.2.2 gX7_init_X5_init rfl rfl rfl (B.1.2.2.2.2 _ (by decide +kernel)) (B.1.2.2.2.2 _ (by decide +kernel)) (B.1.2.2.2.2 _ (by decide +kernel)) rfl (by decide +kernel) ⟨Nat.le_of_ble_eq_true rfl, Nat.le_of_ble_eq_true rfl⟩) rfl rfl (Nat.le_of_ble_eq_true rfl) dX7_init_46 ⟨Nat.le_of_ble_eq_true rfl, Nat.le_of_ble_eq_true rfl⟩ (fun v8 Φ27 sz8 st8 hp8 hs8 => ?_)
  obtain ⟨rfl, hq8, fr8, h_64, h_65⟩ := hp8
  replace hq8 : sz8 = sz + 17 := hq8
  subst sz8
  replace hs8 : st8 = [.ref (sz + 15), .int 7, .ref sz] := hs8
  subst st8
  have h_66 : Φ27 (sz + 15) = some (o_ 7 [.ref (sz + 16), .int 0]) := h_64
  have h_67 : Φ27 (sz + 16) = some (ab_ G 600 (fun _ => 0)) := h_65
  have h_68 : Φ27 sz = some (aq_ G 6 13 (va_up (va_up (va_up (va_up (va_up (va_up (va_up (fun _ => none) (0 : Int32).toNatClampNeg (some (sz + 1))) (1 : Int32).toNatClampNeg (some (sz + 3))) (2 : Int32).toNatClampNeg (some (sz + 5))) (3 : Int32).toNatClampNeg (some (sz + 7))) (4 : Int32).toNatClampNeg (some (sz + 9))) (5 : Int32).toNatClampNeg (some (sz + 11))) (6 : Int32).toNatClampNeg (some (sz + 13)))) := ((fr8 sz (lt_off (x := sz) (i := 0) (j := 16) rfl) (ne_off (x := sz) (i := 0) (j := 15) rfl)).trans ((fset_fr hΦ19 (ne_off (x := sz) (i := 0) (j := 15) rfl)).trans h_61))
  refine z_aast B rfl h_68 hz1 h_66 rfl (vin rfl) dX7_init_49 (fun Φ28 hΦ20 => ?_)
  have h_69 : Φ28 sz = some (aq_ G 6 13 (va_up (va_up (va_up (va_up (va_up (va_up (va_up (va_up (fun _ => none) (0 : Int32).toNatClampNeg (some (sz + 1))) (1 : Int32).toNatClampNeg (some (sz + 3))) (2 : Int32).toNatClampNeg (some (sz + 5))) (3 : Int32).toNatClampNeg (some (sz + 7))) (4 : Int32).toNatClampNeg (some (sz + 9))) (5 : Int32).toNatClampNeg (some (sz + 11))) (6 : Int32).toNatClampNeg (some (sz + 13))) (7 : Int32).toNatClampNeg (some (sz + 15)))) := fset_at hΦ20
  refine z_iinc (k := 0) (v := 8) (lv' := [(1, .int 8), (0, .ref h)]) B dX7_init_50 rfl rfl (Nat.le_of_ble_eq_true rfl) rfl ?_
  refine z_goto (tgt := 25) B dX7_init_53 rfl ?_
  refine z_iload_n B dX7_init_25 rfl 0 rfl ?_
  refine z_aload_n B dX7_init_26 rfl 1 rfl ?_
  have h_70 : Φ28 h = some (o_ 9 [.ref sz, .int 0, .int 0]) := ((fset_fr hΦ20 (Nat.ne_of_lt (hlt _ _ hc0))).trans ((fr8 h (Nat.lt_of_lt_of_le (hlt _ _ hc0) (Nat.le_add_right sz 16)) (Nat.ne_of_lt (Nat.lt_of_lt_of_le (hlt _ _ hc0) (Nat.le_add_right sz 15)))).trans ((fset_fr hΦ19 (Nat.ne_of_lt (Nat.lt_of_lt_of_le (hlt _ _ hc0) (Nat.le_add_right sz 15)))).trans h_62)))
  refine z_get (ref := "FlowExporter$Queue") (C := RX7) (T := TX7) (N := 3) (ci := 9) (v := .ref sz) B (by decide +kernel) rfl 0 (by decide) (by decide +kernel) rfl h_70 rfl dX7_init_27 ?_
  refine z_alen (t := 6) (v := 13) B rfl h_69 rfl dX7_init_30 ?_
  refine z_icmp_ge (tgt := 56) B dX7_init_31 rfl (fun h9 => absurd h9 (by decide)) (fun c_9 => ?_)
  refine z_aload_n B dX7_init_34 rfl 1 rfl ?_
  refine z_get (ref := "FlowExporter$Queue") (C := RX7) (T := TX7) (N := 3) (ci := 9) (v := .ref sz) B (by decide +kernel) rfl 0 (by decide) (by decide +kernel) rfl h_70 rfl dX7_init_35 ?_
  refine z_iload_n B dX7_init_38 rfl 0 rfl ?_
  refine z_new (C := RX5) (T := TX5) (N := 2) (ci := 7) (fs := [.null, .int 0]) B (by decide +kernel) tyX5 tyX5_ok (by decide +kernel) (by decide +kernel) (by decide +kernel) rfl (by decide +kernel) (Nat.le_of_ble_eq_true rfl) (Nat.le_of_ble_eq_true rfl) dX7_init_39 (fun Φ29 hΦ21 hz10 => ?_)
  have h_71 : Φ29 (sz + 17) = some (o_ 7 [.null, .int 0]) := fset_at hΦ21
  refine z_dup B dX7_init_42 rfl ?_
  refine z_sipush (v := 600) B dX7_init_43 rfl ?_
  refine z_callI (As := [.int 600]) (rest := [.ref (sz + 17), .int 8, .ref sz]) B (c_X5_init_600 G l Φ29 (sz + 18) (sz + 17) h_71 hz10) (cwI 1 B.1.2.2.2.2 gX7_init_X5_init rfl rfl rfl (B.1.2.2.2.2 _ (by decide +kernel)) (B.1.2.2.2.2 _ (by decide +kernel)) (B.1.2.2.2.2 _ (by decide +kernel)) rfl (by decide +kernel) ⟨Nat.le_of_ble_eq_true rfl, Nat.le_of_ble_eq_true rfl⟩) rfl rfl (Nat.le_of_ble_eq_true rfl) dX7_init_46 ⟨Nat.le_of_ble_eq_true rfl, Nat.le_of_ble_eq_true rfl⟩ (fun v9 Φ30 sz9 st9 hp9 hs9 => ?_)
  obtain ⟨rfl, hq9, fr9, h_72, h_73⟩ := hp9
  replace hq9 : sz9 = sz + 19 := hq9
  subst sz9
  replace hs9 : st9 = [.ref (sz + 17), .int 8, .ref sz] := hs9
  subst st9
  have h_74 : Φ30 (sz + 17) = some (o_ 7 [.ref (sz + 18), .int 0]) := h_72
  have h_75 : Φ30 (sz + 18) = some (ab_ G 600 (fun _ => 0)) := h_73
  have h_76 : Φ30 sz = some (aq_ G 6 13 (va_up (va_up (va_up (va_up (va_up (va_up (va_up (va_up (fun _ => none) (0 : Int32).toNatClampNeg (some (sz + 1))) (1 : Int32).toNatClampNeg (some (sz + 3))) (2 : Int32).toNatClampNeg (some (sz + 5))) (3 : Int32).toNatClampNeg (some (sz + 7))) (4 : Int32).toNatClampNeg (some (sz + 9))) (5 : Int32).toNatClampNeg (some (sz + 11))) (6 : Int32).toNatClampNeg (some (sz + 13))) (7 : Int32).toNatClampNeg (some (sz + 15)))) := ((fr9 sz (lt_off (x := sz) (i := 0) (j := 18) rfl) (ne_off (x := sz) (i := 0) (j := 17) rfl)).trans ((fset_fr hΦ21 (ne_off (x := sz) (i := 0) (j := 17) rfl)).trans h_69))
  refine z_aast B rfl h_76 hz1 h_74 rfl (vin rfl) dX7_init_49 (fun Φ31 hΦ22 => ?_)
  have h_77 : Φ31 sz = some (aq_ G 6 13 (va_up (va_up (va_up (va_up (va_up (va_up (va_up (va_up (va_up (fun _ => none) (0 : Int32).toNatClampNeg (some (sz + 1))) (1 : Int32).toNatClampNeg (some (sz + 3))) (2 : Int32).toNatClampNeg (some (sz + 5))) (3 : Int32).toNatClampNeg (some (sz + 7))) (4 : Int32).toNatClampNeg (some (sz + 9))) (5 : Int32).toNatClampNeg (some (sz + 11))) (6 : Int32).toNatClampNeg (some (sz + 13))) (7 : Int32).toNatClampNeg (some (sz + 15))) (8 : Int32).toNatClampNeg (some (sz + 17)))) := fset_at hΦ22
  refine z_iinc (k := 0) (v := 9) (lv' := [(1, .int 9), (0, .ref h)]) B dX7_init_50 rfl rfl (Nat.le_of_ble_eq_true rfl) rfl ?_
  refine z_goto (tgt := 25) B dX7_init_53 rfl ?_
  refine z_iload_n B dX7_init_25 rfl 0 rfl ?_
  refine z_aload_n B dX7_init_26 rfl 1 rfl ?_
  have h_78 : Φ31 h = some (o_ 9 [.ref sz, .int 0, .int 0]) := ((fset_fr hΦ22 (Nat.ne_of_lt (hlt _ _ hc0))).trans ((fr9 h (Nat.lt_of_lt_of_le (hlt _ _ hc0) (Nat.le_add_right sz 18)) (Nat.ne_of_lt (Nat.lt_of_lt_of_le (hlt _ _ hc0) (Nat.le_add_right sz 17)))).trans ((fset_fr hΦ21 (Nat.ne_of_lt (Nat.lt_of_lt_of_le (hlt _ _ hc0) (Nat.le_add_right sz 17)))).trans h_70)))
  refine z_get (ref := "FlowExporter$Queue") (C := RX7) (T := TX7) (N := 3) (ci := 9) (v := .ref sz) B (by decide +kernel) rfl 0 (by decide) (by decide +kernel) rfl h_78 rfl dX7_init_27 ?_
  refine z_alen (t := 6) (v := 13) B rfl h_77 rfl dX7_init_30 ?_
  refine z_icmp_ge (tgt := 56) B dX7_init_31 rfl (fun h9 => absurd h9 (by decide)) (fun c_10 => ?_)
  refine z_aload_n B dX7_init_34 rfl 1 rfl ?_
  refine z_get (ref := "FlowExporter$Queue") (C := RX7) (T := TX7) (N := 3) (ci := 9) (v := .ref sz) B (by decide +kernel) rfl 0 (by decide) (by decide +kernel) rfl h_78 rfl dX7_init_35 ?_
  refine z_iload_n B dX7_init_38 rfl 0 rfl ?_
  refine z_new (C := RX5) (T := TX5) (N := 2) (ci := 7) (fs := [.null, .int 0]) B (by decide +kernel) tyX5 tyX5_ok (by decide +kernel) (by decide +kernel) (by decide +kernel) rfl (by decide +kernel) (Nat.le_of_ble_eq_true rfl) (Nat.le_of_ble_eq_true rfl) dX7_init_39 (fun Φ32 hΦ23 hz11 => ?_)
  have h_79 : Φ32 (sz + 19) = some (o_ 7 [.null, .int 0]) := fset_at hΦ23
  refine z_dup B dX7_init_42 rfl ?_
  refine z_sipush (v := 600) B dX7_init_43 rfl ?_
  refine z_callI (As := [.int 600]) (rest := [.ref (sz + 19), .int 9, .ref sz]) B (c_X5_init_600 G l Φ32 (sz + 20) (sz + 19) h_79 hz11) (cwI 1 B.1.2.2.2.2 gX7_init_X5_init rfl rfl rfl (B.1.2.2.2.2 _ (by decide +kernel)) (B.1.2.2.2.2 _ (by decide +kernel)) (B.1.2.2.2.2 _ (by decide +kernel)) rfl (by decide +kernel) ⟨Nat.le_of_ble_eq_true rfl, Nat.le_of_ble_eq_true rfl⟩) rfl rfl (Nat.le_of_ble_eq_true rfl) dX7_init_46 ⟨Nat.le_of_ble_eq_true rfl, Nat.le_of_ble_eq_true rfl⟩ (fun v10 Φ33 sz10 st10 hp10 hs10 => ?_)
  obtain ⟨rfl, hq10, fr10, h_80, h_81⟩ := hp10
  replace hq10 : sz10 = sz + 21 := hq10
  subst sz10
  replace hs10 : st10 = [.ref (sz + 19), .int 9, .ref sz] := hs10
  subst st10
  have h_82 : Φ33 (sz + 19) = some (o_ 7 [.ref (sz + 20), .int 0]) := h_80
  have h_83 : Φ33 (sz + 20) = some (ab_ G 600 (fun _ => 0)) := h_81
  have h_84 : Φ33 sz = some (aq_ G 6 13 (va_up (va_up (va_up (va_up (va_up (va_up (va_up (va_up (va_up (fun _ => none) (0 : Int32).toNatClampNeg (some (sz + 1))) (1 : Int32).toNatClampNeg (some (sz + 3))) (2 : Int32).toNatClampNeg (some (sz + 5))) (3 : Int32).toNatClampNeg (some (sz + 7))) (4 : Int32).toNatClampNeg (some (sz + 9))) (5 : Int32).toNatClampNeg (some (sz + 11))) (6 : Int32).toNatClampNeg (some (sz + 13))) (7 : Int32).toNatClampNeg (some (sz + 15))) (8 : Int32).toNatClampNeg (some (sz + 17)))) := ((fr10 sz (lt_off (x := sz) (i := 0) (j := 20) rfl) (ne_off (x := sz) (i := 0) (j := 19) rfl)).trans ((fset_fr hΦ23 (ne_off (x := sz) (i := 0) (j := 19) rfl)).trans h_77))
  refine z_aast B rfl h_84 hz1 h_82 rfl (vin rfl) dX7_init_49 (fun Φ34 hΦ24 => ?_)
  have h_85 : Φ34 sz = some (aq_ G 6 13 (va_up (va_up (va_up (va_up (va_up (va_up (va_up (va_up (va_up (va_up (fun _ => none) (0 : Int32).toNatClampNeg (some (sz + 1))) (1 : Int32).toNatClampNeg (some (sz + 3))) (2 : Int32).toNatClampNeg (some (sz + 5))) (3 : Int32).toNatClampNeg (some (sz + 7))) (4 : Int32).toNatClampNeg (some (sz + 9))) (5 : Int32).toNatClampNeg (some (sz + 11))) (6 : Int32).toNatClampNeg (some (sz + 13))) (7 : Int32).toNatClampNeg (some (sz + 15))) (8 : Int32).toNatClampNeg (some (sz + 17))) (9 : Int32).toNatClampNeg (some (sz + 19)))) := fset_at hΦ24
  refine z_iinc (k := 0) (v := 10) (lv' := [(1, .int 10), (0, .ref h)]) B dX7_init_50 rfl rfl (Nat.le_of_ble_eq_true rfl) rfl ?_
  refine z_goto (tgt := 25) B dX7_init_53 rfl ?_
  refine z_iload_n B dX7_init_25 rfl 0 rfl ?_
  refine z_aload_n B dX7_init_26 rfl 1 rfl ?_
  have h_86 : Φ34 h = some (o_ 9 [.ref sz, .int 0, .int 0]) := ((fset_fr hΦ24 (Nat.ne_of_lt (hlt _ _ hc0))).trans ((fr10 h (Nat.lt_of_lt_of_le (hlt _ _ hc0) (Nat.le_add_right sz 20)) (Nat.ne_of_lt (Nat.lt_of_lt_of_le (hlt _ _ hc0) (Nat.le_add_right sz 19)))).trans ((fset_fr hΦ23 (Nat.ne_of_lt (Nat.lt_of_lt_of_le (hlt _ _ hc0) (Nat.le_add_right sz 19)))).trans h_78)))
  refine z_get (ref := "FlowExporter$Queue") (C := RX7) (T := TX7) (N := 3) (ci := 9) (v := .ref sz) B (by decide +kernel) rfl 0 (by decide) (by decide +kernel) rfl h_86 rfl dX7_init_27 ?_
  refine z_alen (t := 6) (v := 13) B rfl h_85 rfl dX7_init_30 ?_
  refine z_icmp_ge (tgt := 56) B dX7_init_31 rfl (fun h9 => absurd h9 (by decide)) (fun c_11 => ?_)
  refine z_aload_n B dX7_init_34 rfl 1 rfl ?_
  refine z_get (ref := "FlowExporter$Queue") (C := RX7) (T := TX7) (N := 3) (ci := 9) (v := .ref sz) B (by decide +kernel) rfl 0 (by decide) (by decide +kernel) rfl h_86 rfl dX7_init_35 ?_
  refine z_iload_n B dX7_init_38 rfl 0 rfl ?_
  refine z_new (C := RX5) (T := TX5) (N := 2) (ci := 7) (fs := [.null, .int 0]) B (by decide +kernel) tyX5 tyX5_ok (by decide +kernel) (by decide +kernel) (by decide +kernel) rfl (by decide +kernel) (Nat.le_of_ble_eq_true rfl) (Nat.le_of_ble_eq_true rfl) dX7_init_39 (fun Φ35 hΦ25 hz12 => ?_)
  have h_87 : Φ35 (sz + 21) = some (o_ 7 [.null, .int 0]) := fset_at hΦ25
  refine z_dup B dX7_init_42 rfl ?_
  refine z_sipush (v := 600) B dX7_init_43 rfl ?_
  refine z_callI (As := [.int 600]) (rest := [.ref (sz + 21), .int 10, .ref sz]) B (c_X5_init_600 G l Φ35 (sz + 22) (sz + 21) h_87 hz12) (cwI 1 B.1.2.2.2.2 gX7_init_X5_init rfl rfl rfl (B.1.2.2.2.2 _ (by decide +kernel)) (B.1.2.2.2.2 _ (by decide +kernel)) (B.1.2.2.2.2 _ (by decide +kernel)) rfl (by decide +kernel) ⟨Nat.le_of_ble_eq_true rfl, Nat.le_of_ble_eq_true rfl⟩) rfl rfl (Nat.le_of_ble_eq_true rfl) dX7_init_46 ⟨Nat.le_of_ble_eq_true rfl, Nat.le_of_ble_eq_true rfl⟩ (fun v11 Φ36 sz11 st11 hp11 hs11 => ?_)
  obtain ⟨rfl, hq11, fr11, h_88, h_89⟩ := hp11
  replace hq11 : sz11 = sz + 23 := hq11
  subst sz11
  replace hs11 : st11 = [.ref (sz + 21), .int 10, .ref sz] := hs11
  subst st11
  have h_90 : Φ36 (sz + 21) = some (o_ 7 [.ref (sz + 22), .int 0]) := h_88
  have h_91 : Φ36 (sz + 22) = some (ab_ G 600 (fun _ => 0)) := h_89
  have h_92 : Φ36 sz = some (aq_ G 6 13 (va_up (va_up (va_up (va_up (va_up (va_up (va_up (va_up (va_up (va_up (fun _ => none) (0 : Int32).toNatClampNeg (some (sz + 1))) (1 : Int32).toNatClampNeg (some (sz + 3))) (2 : Int32).toNatClampNeg (some (sz + 5))) (3 : Int32).toNatClampNeg (some (sz + 7))) (4 : Int32).toNatClampNeg (some (sz + 9))) (5 : Int32).toNatClampNeg (some (sz + 11))) (6 : Int32).toNatClampNeg (some (sz + 13))) (7 : Int32).toNatClampNeg (some (sz + 15))) (8 : Int32).toNatClampNeg (some (sz + 17))) (9 : Int32).toNatClampNeg (some (sz + 19)))) := ((fr11 sz (lt_off (x := sz) (i := 0) (j := 22) rfl) (ne_off (x := sz) (i := 0) (j := 21) rfl)).trans ((fset_fr hΦ25 (ne_off (x := sz) (i := 0) (j := 21) rfl)).trans h_85))
  refine z_aast B rfl h_92 hz1 h_90 rfl (vin rfl) dX7_init_49 (fun Φ37 hΦ26 => ?_)
  have h_93 : Φ37 sz = some (aq_ G 6 13 (va_up (va_up (va_up (va_up (va_up (va_up (va_up (va_up (va_up (va_up (va_up (fun _ => none) (0 : Int32).toNatClampNeg (some (sz + 1))) (1 : Int32).toNatClampNeg (some (sz + 3))) (2 : Int32).toNatClampNeg (some (sz + 5))) (3 : Int32).toNatClampNeg (some (sz + 7))) (4 : Int32).toNatClampNeg (some (sz + 9))) (5 : Int32).toNatClampNeg (some (sz + 11))) (6 : Int32).toNatClampNeg (some (sz + 13))) (7 : Int32).toNatClampNeg (some (sz + 15))) (8 : Int32).toNatClampNeg (some (sz + 17))) (9 : Int32).toNatClampNeg (some (sz + 19))) (10 : Int32).toNatClampNeg (some (sz + 21)))) := fset_at hΦ26
  refine z_iinc (k := 0) (v := 11) (lv' := [(1, .int 11), (0, .ref h)]) B dX7_init_50 rfl rfl (Nat.le_of_ble_eq_true rfl) rfl ?_
  refine z_goto (tgt := 25) B dX7_init_53 rfl ?_
  refine z_iload_n B dX7_init_25 rfl 0 rfl ?_
  refine z_aload_n B dX7_init_26 rfl 1 rfl ?_
  have h_94 : Φ37 h = some (o_ 9 [.ref sz, .int 0, .int 0]) := ((fset_fr hΦ26 (Nat.ne_of_lt (hlt _ _ hc0))).trans ((fr11 h (Nat.lt_of_lt_of_le (hlt _ _ hc0) (Nat.le_add_right sz 22)) (Nat.ne_of_lt (Nat.lt_of_lt_of_le (hlt _ _ hc0) (Nat.le_add_right sz 21)))).trans ((fset_fr hΦ25 (Nat.ne_of_lt (Nat.lt_of_lt_of_le (hlt _ _ hc0) (Nat.le_add_right sz 21)))).trans h_86)))
  refine z_get (ref := "FlowExporter$Queue") (C := RX7) (T := TX7) (N := 3) (ci := 9) (v := .ref sz) B (by decide +kernel) rfl 0 (by decide) (by decide +kernel) rfl h_94 rfl dX7_init_27 ?_
  refine z_alen (t := 6) (v := 13) B rfl h_93 rfl dX7_init_30 ?_
  refine z_icmp_ge (tgt := 56) B dX7_init_31 rfl (fun h9 => absurd h9 (by decide)) (fun c_12 => ?_)
  refine z_aload_n B dX7_init_34 rfl 1 rfl ?_
  refine z_get (ref := "FlowExporter$Queue") (C := RX7) (T := TX7) (N := 3) (ci := 9) (v := .ref sz) B (by decide +kernel) rfl 0 (by decide) (by decide +kernel) rfl h_94 rfl dX7_init_35 ?_
  refine z_iload_n B dX7_init_38 rfl 0 rfl ?_
  refine z_new (C := RX5) (T := TX5) (N := 2) (ci := 7) (fs := [.null, .int 0]) B (by decide +kernel) tyX5 tyX5_ok (by decide +kernel) (by decide +kernel) (by decide +kernel) rfl (by decide +kernel) (Nat.le_of_ble_eq_true rfl) (Nat.le_of_ble_eq_true rfl) dX7_init_39 (fun Φ38 hΦ27 hz13 => ?_)
  have h_95 : Φ38 (sz + 23) = some (o_ 7 [.null, .int 0]) := fset_at hΦ27
  refine z_dup B dX7_init_42 rfl ?_
  refine z_sipush (v := 600) B dX7_init_43 rfl ?_
  refine z_callI (As := [.int 600]) (rest := [.ref (sz + 23), .int 11, .ref sz]) B (c_X5_init_600 G l Φ38 (sz + 24) (sz + 23) h_95 hz13) (cwI 1 B.1.2.2.2.2 gX7_init_X5_init rfl rfl rfl (B.1.2.2.2.2 _ (by decide +kernel)) (B.1.2.2.2.2 _ (by decide +kernel)) (B.1.2.2.2.2 _ (by decide +kernel)) rfl (by decide +kernel) ⟨Nat.le_of_ble_eq_true rfl, Nat.le_of_ble_eq_true rfl⟩) rfl rfl (Nat.le_of_ble_eq_true rfl) dX7_init_46 ⟨Nat.le_of_ble_eq_true rfl, Nat.le_of_ble_eq_true rfl⟩ (fun v12 Φ39 sz12 st12 hp12 hs12 => ?_)
  obtain ⟨rfl, hq12, fr12, h_96, h_97⟩ := hp12
  replace hq12 : sz12 = sz + 25 := hq12
  subst sz12
  replace hs12 : st12 = [.ref (sz + 23), .int 11, .ref sz] := hs12
  subst st12
  have h_98 : Φ39 (sz + 23) = some (o_ 7 [.ref (sz + 24), .int 0]) := h_96
  have h_99 : Φ39 (sz + 24) = some (ab_ G 600 (fun _ => 0)) := h_97
  have h_100 : Φ39 sz = some (aq_ G 6 13 (va_up (va_up (va_up (va_up (va_up (va_up (va_up (va_up (va_up (va_up (va_up (fun _ => none) (0 : Int32).toNatClampNeg (some (sz + 1))) (1 : Int32).toNatClampNeg (some (sz + 3))) (2 : Int32).toNatClampNeg (some (sz + 5))) (3 : Int32).toNatClampNeg (some (sz + 7))) (4 : Int32).toNatClampNeg (some (sz + 9))) (5 : Int32).toNatClampNeg (some (sz + 11))) (6 : Int32).toNatClampNeg (some (sz + 13))) (7 : Int32).toNatClampNeg (some (sz + 15))) (8 : Int32).toNatClampNeg (some (sz + 17))) (9 : Int32).toNatClampNeg (some (sz + 19))) (10 : Int32).toNatClampNeg (some (sz + 21)))) := ((fr12 sz (lt_off (x := sz) (i := 0) (j := 24) rfl) (ne_off (x := sz) (i := 0) (j := 23) rfl)).trans ((fset_fr hΦ27 (ne_off (x := sz) (i := 0) (j := 23) rfl)).trans h_93))
  refine z_aast B rfl h_100 hz1 h_98 rfl (vin rfl) dX7_init_49 (fun Φ40 hΦ28 => ?_)
  have h_101 : Φ40 sz = some (aq_ G 6 13 (va_up (va_up (va_up (va_up (va_up (va_up (va_up (va_up (va_up (va_up (va_up (va_up (fun _ => none) (0 : Int32).toNatClampNeg (some (sz + 1))) (1 : Int32).toNatClampNeg (some (sz + 3))) (2 : Int32).toNatClampNeg (some (sz + 5))) (3 : Int32).toNatClampNeg (some (sz + 7))) (4 : Int32).toNatClampNeg (some (sz + 9))) (5 : Int32).toNatClampNeg (some (sz + 11))) (6 : Int32).toNatClampNeg (some (sz + 13))) (7 : Int32).toNatClampNeg (some (sz + 15))) (8 : Int32).toNatClampNeg (some (sz + 17))) (9 : Int32).toNatClampNeg (some (sz + 19))) (10 : Int32).toNatClampNeg (some (sz + 21))) (11 : Int32).toNatClampNeg (some (sz + 23)))) := fset_at hΦ28
  refine z_iinc (k := 0) (v := 12) (lv' := [(1, .int 12), (0, .ref h)]) B dX7_init_50 rfl rfl (Nat.le_of_ble_eq_true rfl) rfl ?_
  refine z_goto (tgt := 25) B dX7_init_53 rfl ?_
  refine z_iload_n B dX7_init_25 rfl 0 rfl ?_
  refine z_aload_n B dX7_init_26 rfl 1 rfl ?_
  have h_102 : Φ40 h = some (o_ 9 [.ref sz, .int 0, .int 0]) := ((fset_fr hΦ28 (Nat.ne_of_lt (hlt _ _ hc0))).trans ((fr12 h (Nat.lt_of_lt_of_le (hlt _ _ hc0) (Nat.le_add_right sz 24)) (Nat.ne_of_lt (Nat.lt_of_lt_of_le (hlt _ _ hc0) (Nat.le_add_right sz 23)))).trans ((fset_fr hΦ27 (Nat.ne_of_lt (Nat.lt_of_lt_of_le (hlt _ _ hc0) (Nat.le_add_right sz 23)))).trans h_94)))
  refine z_get (ref := "FlowExporter$Queue") (C := RX7) (T := TX7) (N := 3) (ci := 9) (v := .ref sz) B (by decide +kernel) rfl 0 (by decide) (by decide +kernel) rfl h_102 rfl dX7_init_27 ?_
  refine z_alen (t := 6) (v := 13) B rfl h_101 rfl dX7_init_30 ?_
  refine z_icmp_ge (tgt := 56) B dX7_init_31 rfl (fun h9 => absurd h9 (by decide)) (fun c_13 => ?_)
  refine z_aload_n B dX7_init_34 rfl 1 rfl ?_
  refine z_get (ref := "FlowExporter$Queue") (C := RX7) (T := TX7) (N := 3) (ci := 9) (v := .ref sz) B (by decide +kernel) rfl 0 (by decide) (by decide +kernel) rfl h_102 rfl dX7_init_35 ?_
  refine z_iload_n B dX7_init_38 rfl 0 rfl ?_
  refine z_new (C := RX5) (T := TX5) (N := 2) (ci := 7) (fs := [.null, .int 0]) B (by decide +kernel) tyX5 tyX5_ok (by decide +kernel) (by decide +kernel) (by decide +kernel) rfl (by decide +kernel) (Nat.le_of_ble_eq_true rfl) (Nat.le_of_ble_eq_true rfl) dX7_init_39 (fun Φ41 hΦ29 hz14 => ?_)
  have h_103 : Φ41 (sz + 25) = some (o_ 7 [.null, .int 0]) := fset_at hΦ29
  refine z_dup B dX7_init_42 rfl ?_
  refine z_sipush (v := 600) B dX7_init_43 rfl ?_
  refine z_callI (As := [.int 600]) (rest := [.ref (sz + 25), .int 12, .ref sz]) B (c_X5_init_600 G l Φ41 (sz + 26) (sz + 25) h_103 hz14) (cwI 1 B.1.2.2.2.2 gX7_init_X5_init rfl rfl rfl (B.1.2.2.2.2 _ (by decide +kernel)) (B.1.2.2.2.2 _ (by decide +kernel)) (B.1.2.2.2.2 _ (by decide +kernel)) rfl (by decide +kernel) ⟨Nat.le_of_ble_eq_true rfl, Nat.le_of_ble_eq_true rfl⟩) rfl rfl (Nat.le_of_ble_eq_true rfl) dX7_init_46 ⟨Nat.le_of_ble_eq_true rfl, Nat.le_of_ble_eq_true rfl⟩ (fun v13 Φ42 sz13 st13 hp13 hs13 => ?_)
  obtain ⟨rfl, hq13, fr13, h_104, h_105⟩ := hp13
  replace hq13 : sz13 = sz + 27 := hq13
  subst sz13
  replace hs13 : st13 = [.ref (sz + 25), .int 12, .ref sz] := hs13
  subst st13
  have h_106 : Φ42 (sz + 25) = some (o_ 7 [.ref (sz + 26), .int 0]) := h_104
  have h_107 : Φ42 (sz + 26) = some (ab_ G 600 (fun _ => 0)) := h_105
  have h_108 : Φ42 sz = some (aq_ G 6 13 (va_up (va_up (va_up (va_up (va_up (va_up (va_up (va_up (va_up (va_up (va_up (va_up (fun _ => none) (0 : Int32).toNatClampNeg (some (sz + 1))) (1 : Int32).toNatClampNeg (some (sz + 3))) (2 : Int32).toNatClampNeg (some (sz + 5))) (3 : Int32).toNatClampNeg (some (sz + 7))) (4 : Int32).toNatClampNeg (some (sz + 9))) (5 : Int32).toNatClampNeg (some (sz + 11))) (6 : Int32).toNatClampNeg (some (sz + 13))) (7 : Int32).toNatClampNeg (some (sz + 15))) (8 : Int32).toNatClampNeg (some (sz + 17))) (9 : Int32).toNatClampNeg (some (sz + 19))) (10 : Int32).toNatClampNeg (some (sz + 21))) (11 : Int32).toNatClampNeg (some (sz + 23)))) := ((fr13 sz (lt_off (x := sz) (i := 0) (j := 26) rfl) (ne_off (x := sz) (i := 0) (j := 25) rfl)).trans ((fset_fr hΦ29 (ne_off (x := sz) (i := 0) (j := 25) rfl)).trans h_101))
  refine z_aast B rfl h_108 hz1 h_106 rfl (vin rfl) dX7_init_49 (fun Φ43 hΦ30 => ?_)
  have h_109 : Φ43 sz = some (aq_ G 6 13 (va_up (va_up (va_up (va_up (va_up (va_up (va_up (va_up (va_up (va_up (va_up (va_up (va_up (fun _ => none) (0 : Int32).toNatClampNeg (some (sz + 1))) (1 : Int32).toNatClampNeg (some (sz + 3))) (2 : Int32).toNatClampNeg (some (sz + 5))) (3 : Int32).toNatClampNeg (some (sz + 7))) (4 : Int32).toNatClampNeg (some (sz + 9))) (5 : Int32).toNatClampNeg (some (sz + 11))) (6 : Int32).toNatClampNeg (some (sz + 13))) (7 : Int32).toNatClampNeg (some (sz + 15))) (8 : Int32).toNatClampNeg (some (sz + 17))) (9 : Int32).toNatClampNeg (some (sz + 19))) (10 : Int32).toNatClampNeg (some (sz + 21))) (11 : Int32).toNatClampNeg (some (sz + 23))) (12 : Int32).toNatClampNeg (some (sz + 25)))) := fset_at hΦ30
  refine z_iinc (k := 0) (v := 13) (lv' := [(1, .int 13), (0, .ref h)]) B dX7_init_50 rfl rfl (Nat.le_of_ble_eq_true rfl) rfl ?_
  refine z_goto (tgt := 25) B dX7_init_53 rfl ?_
  refine z_iload_n B dX7_init_25 rfl 0 rfl ?_
  refine z_aload_n B dX7_init_26 rfl 1 rfl ?_
  have h_110 : Φ43 h = some (o_ 9 [.ref sz, .int 0, .int 0]) := ((fset_fr hΦ30 (Nat.ne_of_lt (hlt _ _ hc0))).trans ((fr13 h (Nat.lt_of_lt_of_le (hlt _ _ hc0) (Nat.le_add_right sz 26)) (Nat.ne_of_lt (Nat.lt_of_lt_of_le (hlt _ _ hc0) (Nat.le_add_right sz 25)))).trans ((fset_fr hΦ29 (Nat.ne_of_lt (Nat.lt_of_lt_of_le (hlt _ _ hc0) (Nat.le_add_right sz 25)))).trans h_102)))
  refine z_get (ref := "FlowExporter$Queue") (C := RX7) (T := TX7) (N := 3) (ci := 9) (v := .ref sz) B (by decide +kernel) rfl 0 (by decide) (by decide +kernel) rfl h_110 rfl dX7_init_27 ?_
  refine z_alen (t := 6) (v := 13) B rfl h_109 rfl dX7_init_30 ?_
  refine z_icmp_ge (tgt := 56) B dX7_init_31 rfl (fun c_14 => ?_) (fun h9 => absurd (by decide) h9)
  have h_111 : Φ43 (sz + 1) = some (o_ 7 [.ref (sz + 2), .int 0]) := ((fset_fr hΦ30 (ne_off (x := sz) (i := 1) (j := 0) rfl)).trans ((fr13 (sz + 1) (lt_off (x := sz) (i := 1) (j := 26) rfl) (ne_off (x := sz) (i := 1) (j := 25) rfl)).trans ((fset_fr hΦ29 (ne_off (x := sz) (i := 1) (j := 25) rfl)).trans ((fset_fr hΦ28 (ne_off (x := sz) (i := 1) (j := 0) rfl)).trans ((fr12 (sz + 1) (lt_off (x := sz) (i := 1) (j := 24) rfl) (ne_off (x := sz) (i := 1) (j := 23) rfl)).trans ((fset_fr hΦ27 (ne_off (x := sz) (i := 1) (j := 23) rfl)).trans ((fset_fr hΦ26 (ne_off (x := sz) (i := 1) (j := 0) rfl)).trans ((fr11 (sz + 1) (lt_off (x := sz) (i := 1) (j := 22) rfl) (ne_off (x := sz) (i := 1) (j := 21) rfl)).trans ((fset_fr hΦ25 (ne_off (x := sz) (i := 1) (j := 21) rfl)).trans ((fset_fr hΦ24 (ne_off (x := sz) (i := 1) (j := 0) rfl)).trans ((fr10 (sz + 1) (lt_off (x := sz) (i := 1) (j := 20) rfl) (ne_off (x := sz) (i := 1) (j := 19) rfl)).trans ((fset_fr hΦ23 (ne_off (x := sz) (i := 1) (j := 19) rfl)).trans ((fset_fr hΦ22 (ne_off (x := sz) (i := 1) (j := 0) rfl)).trans ((fr9 (sz + 1) (lt_off (x := sz) (i := 1) (j := 18) rfl) (ne_off (x := sz) (i := 1) (j := 17) rfl)).trans ((fset_fr hΦ21 (ne_off (x := sz) (i := 1) (j := 17) rfl)).trans ((fset_fr hΦ20 (ne_off (x := sz) (i := 1) (j := 0) rfl)).trans ((fr8 (sz + 1) (lt_off (x := sz) (i := 1) (j := 16) rfl) (ne_off (x := sz) (i := 1) (j := 15) rfl)).trans ((fset_fr hΦ19 (ne_off (x := sz) (i := 1) (j := 15) rfl)).trans ((fset_fr hΦ18 (ne_off (x := sz) (i := 1) (j := 0) rfl)).trans ((fr7 (sz + 1) (lt_off (x := sz) (i := 1) (j := 14) rfl) (ne_off (x := sz) (i := 1) (j := 13) rfl)).trans ((fset_fr hΦ17 (ne_off (x := sz) (i := 1) (j := 13) rfl)).trans ((fset_fr hΦ16 (ne_off (x := sz) (i := 1) (j := 0) rfl)).trans ((fr6 (sz + 1) (lt_off (x := sz) (i := 1) (j := 12) rfl) (ne_off (x := sz) (i := 1) (j := 11) rfl)).trans ((fset_fr hΦ15 (ne_off (x := sz) (i := 1) (j := 11) rfl)).trans ((fset_fr hΦ14 (ne_off (x := sz) (i := 1) (j := 0) rfl)).trans ((fr5 (sz + 1) (lt_off (x := sz) (i := 1) (j := 10) rfl) (ne_off (x := sz) (i := 1) (j := 9) rfl)).trans ((fset_fr hΦ13 (ne_off (x := sz) (i := 1) (j := 9) rfl)).trans ((fset_fr hΦ12 (ne_off (x := sz) (i := 1) (j := 0) rfl)).trans ((fr4 (sz + 1) (lt_off (x := sz) (i := 1) (j := 8) rfl) (ne_off (x := sz) (i := 1) (j := 7) rfl)).trans ((fset_fr hΦ11 (ne_off (x := sz) (i := 1) (j := 7) rfl)).trans ((fset_fr hΦ10 (ne_off (x := sz) (i := 1) (j := 0) rfl)).trans ((fr3 (sz + 1) (lt_off (x := sz) (i := 1) (j := 6) rfl) (ne_off (x := sz) (i := 1) (j := 5) rfl)).trans ((fset_fr hΦ9 (ne_off (x := sz) (i := 1) (j := 5) rfl)).trans ((fset_fr hΦ8 (ne_off (x := sz) (i := 1) (j := 0) rfl)).trans ((fr2 (sz + 1) (lt_off (x := sz) (i := 1) (j := 4) rfl) (ne_off (x := sz) (i := 1) (j := 3) rfl)).trans ((fset_fr hΦ7 (ne_off (x := sz) (i := 1) (j := 3) rfl)).trans ((fset_fr hΦ6 (ne_off (x := sz) (i := 1) (j := 0) rfl)).trans h_10)))))))))))))))))))))))))))))))))))))
  have h_112 : Φ43 (sz + 2) = some (ab_ G 600 (fun _ => 0)) := ((fset_fr hΦ30 (ne_off (x := sz) (i := 2) (j := 0) rfl)).trans ((fr13 (sz + 2) (lt_off (x := sz) (i := 2) (j := 26) rfl) (ne_off (x := sz) (i := 2) (j := 25) rfl)).trans ((fset_fr hΦ29 (ne_off (x := sz) (i := 2) (j := 25) rfl)).trans ((fset_fr hΦ28 (ne_off (x := sz) (i := 2) (j := 0) rfl)).trans ((fr12 (sz + 2) (lt_off (x := sz) (i := 2) (j := 24) rfl) (ne_off (x := sz) (i := 2) (j := 23) rfl)).trans ((fset_fr hΦ27 (ne_off (x := sz) (i := 2) (j := 23) rfl)).trans ((fset_fr hΦ26 (ne_off (x := sz) (i := 2) (j := 0) rfl)).trans ((fr11 (sz + 2) (lt_off (x := sz) (i := 2) (j := 22) rfl) (ne_off (x := sz) (i := 2) (j := 21) rfl)).trans ((fset_fr hΦ25 (ne_off (x := sz) (i := 2) (j := 21) rfl)).trans ((fset_fr hΦ24 (ne_off (x := sz) (i := 2) (j := 0) rfl)).trans ((fr10 (sz + 2) (lt_off (x := sz) (i := 2) (j := 20) rfl) (ne_off (x := sz) (i := 2) (j := 19) rfl)).trans ((fset_fr hΦ23 (ne_off (x := sz) (i := 2) (j := 19) rfl)).trans ((fset_fr hΦ22 (ne_off (x := sz) (i := 2) (j := 0) rfl)).trans ((fr9 (sz + 2) (lt_off (x := sz) (i := 2) (j := 18) rfl) (ne_off (x := sz) (i := 2) (j := 17) rfl)).trans ((fset_fr hΦ21 (ne_off (x := sz) (i := 2) (j := 17) rfl)).trans ((fset_fr hΦ20 (ne_off (x := sz) (i := 2) (j := 0) rfl)).trans ((fr8 (sz + 2) (lt_off (x := sz) (i := 2) (j := 16) rfl) (ne_off (x := sz) (i := 2) (j := 15) rfl)).trans ((fset_fr hΦ19 (ne_off (x := sz) (i := 2) (j := 15) rfl)).trans ((fset_fr hΦ18 (ne_off (x := sz) (i := 2) (j := 0) rfl)).trans ((fr7 (sz + 2) (lt_off (x := sz) (i := 2) (j := 14) rfl) (ne_off (x := sz) (i := 2) (j := 13) rfl)).trans ((fset_fr hΦ17 (ne_off (x := sz) (i := 2) (j := 13) rfl)).trans ((fset_fr hΦ16 (ne_off (x := sz) (i := 2) (j := 0) rfl)).trans ((fr6 (sz + 2) (lt_off (x := sz) (i := 2) (j := 12) rfl) (ne_off (x := sz) (i := 2) (j := 11) rfl)).trans ((fset_fr hΦ15 (ne_off (x := sz) (i := 2) (j := 11) rfl)).trans ((fset_fr hΦ14 (ne_off (x := sz) (i := 2) (j := 0) rfl)).trans ((fr5 (sz + 2) (lt_off (x := sz) (i := 2) (j := 10) rfl) (ne_off (x := sz) (i := 2) (j := 9) rfl)).trans ((fset_fr hΦ13 (ne_off (x := sz) (i := 2) (j := 9) rfl)).trans ((fset_fr hΦ12 (ne_off (x := sz) (i := 2) (j := 0) rfl)).trans ((fr4 (sz + 2) (lt_off (x := sz) (i := 2) (j := 8) rfl) (ne_off (x := sz) (i := 2) (j := 7) rfl)).trans ((fset_fr hΦ11 (ne_off (x := sz) (i := 2) (j := 7) rfl)).trans ((fset_fr hΦ10 (ne_off (x := sz) (i := 2) (j := 0) rfl)).trans ((fr3 (sz + 2) (lt_off (x := sz) (i := 2) (j := 6) rfl) (ne_off (x := sz) (i := 2) (j := 5) rfl)).trans ((fset_fr hΦ9 (ne_off (x := sz) (i := 2) (j := 5) rfl)).trans ((fset_fr hΦ8 (ne_off (x := sz) (i := 2) (j := 0) rfl)).trans ((fr2 (sz + 2) (lt_off (x := sz) (i := 2) (j := 4) rfl) (ne_off (x := sz) (i := 2) (j := 3) rfl)).trans ((fset_fr hΦ7 (ne_off (x := sz) (i := 2) (j := 3) rfl)).trans ((fset_fr hΦ6 (ne_off (x := sz) (i := 2) (j := 0) rfl)).trans h_11)))))))))))))))))))))))))))))))))))))
  have h_113 : Φ43 (sz + 3) = some (o_ 7 [.ref (sz + 4), .int 0]) := ((fset_fr hΦ30 (ne_off (x := sz) (i := 3) (j := 0) rfl)).trans ((fr13 (sz + 3) (lt_off (x := sz) (i := 3) (j := 26) rfl) (ne_off (x := sz) (i := 3) (j := 25) rfl)).trans ((fset_fr hΦ29 (ne_off (x := sz) (i := 3) (j := 25) rfl)).trans ((fset_fr hΦ28 (ne_off (x := sz) (i := 3) (j := 0) rfl)).trans ((fr12 (sz + 3) (lt_off (x := sz) (i := 3) (j := 24) rfl) (ne_off (x := sz) (i := 3) (j := 23) rfl)).trans ((fset_fr hΦ27 (ne_off (x := sz) (i := 3) (j := 23) rfl)).trans ((fset_fr hΦ26 (ne_off (x := sz) (i := 3) (j := 0) rfl)).trans ((fr11 (sz + 3) (lt_off (x := sz) (i := 3) (j := 22) rfl) (ne_off (x := sz) (i := 3) (j := 21) rfl)).trans ((fset_fr hΦ25 (ne_off (x := sz) (i := 3) (j := 21) rfl)).trans ((fset_fr hΦ24 (ne_off (x := sz) (i := 3) (j := 0) rfl)).trans ((fr10 (sz + 3) (lt_off (x := sz) (i := 3) (j := 20) rfl) (ne_off (x := sz) (i := 3) (j := 19) rfl)).trans ((fset_fr hΦ23 (ne_off (x := sz) (i := 3) (j := 19) rfl)).trans ((fset_fr hΦ22 (ne_off (x := sz) (i := 3) (j := 0) rfl)).trans ((fr9 (sz + 3) (lt_off (x := sz) (i := 3) (j := 18) rfl) (ne_off (x := sz) (i := 3) (j := 17) rfl)).trans ((fset_fr hΦ21 (ne_off (x := sz) (i := 3) (j := 17) rfl)).trans ((fset_fr hΦ20 (ne_off (x := sz) (i := 3) (j := 0) rfl)).trans ((fr8 (sz + 3) (lt_off (x := sz) (i := 3) (j := 16) rfl) (ne_off (x := sz) (i := 3) (j := 15) rfl)).trans ((fset_fr hΦ19 (ne_off (x := sz) (i := 3) (j := 15) rfl)).trans ((fset_fr hΦ18 (ne_off (x := sz) (i := 3) (j := 0) rfl)).trans ((fr7 (sz + 3) (lt_off (x := sz) (i := 3) (j := 14) rfl) (ne_off (x := sz) (i := 3) (j := 13) rfl)).trans ((fset_fr hΦ17 (ne_off (x := sz) (i := 3) (j := 13) rfl)).trans ((fset_fr hΦ16 (ne_off (x := sz) (i := 3) (j := 0) rfl)).trans ((fr6 (sz + 3) (lt_off (x := sz) (i := 3) (j := 12) rfl) (ne_off (x := sz) (i := 3) (j := 11) rfl)).trans ((fset_fr hΦ15 (ne_off (x := sz) (i := 3) (j := 11) rfl)).trans ((fset_fr hΦ14 (ne_off (x := sz) (i := 3) (j := 0) rfl)).trans ((fr5 (sz + 3) (lt_off (x := sz) (i := 3) (j := 10) rfl) (ne_off (x := sz) (i := 3) (j := 9) rfl)).trans ((fset_fr hΦ13 (ne_off (x := sz) (i := 3) (j := 9) rfl)).trans ((fset_fr hΦ12 (ne_off (x := sz) (i := 3) (j := 0) rfl)).trans ((fr4 (sz + 3) (lt_off (x := sz) (i := 3) (j := 8) rfl) (ne_off (x := sz) (i := 3) (j := 7) rfl)).trans ((fset_fr hΦ11 (ne_off (x := sz) (i := 3) (j := 7) rfl)).trans ((fset_fr hΦ10 (ne_off (x := sz) (i := 3) (j := 0) rfl)).trans ((fr3 (sz + 3) (lt_off (x := sz) (i := 3) (j := 6) rfl) (ne_off (x := sz) (i := 3) (j := 5) rfl)).trans ((fset_fr hΦ9 (ne_off (x := sz) (i := 3) (j := 5) rfl)).trans ((fset_fr hΦ8 (ne_off (x := sz) (i := 3) (j := 0) rfl)).trans h_18))))))))))))))))))))))))))))))))))
  have h_114 : Φ43 (sz + 4) = some (ab_ G 600 (fun _ => 0)) := ((fset_fr hΦ30 (ne_off (x := sz) (i := 4) (j := 0) rfl)).trans ((fr13 (sz + 4) (lt_off (x := sz) (i := 4) (j := 26) rfl) (ne_off (x := sz) (i := 4) (j := 25) rfl)).trans ((fset_fr hΦ29 (ne_off (x := sz) (i := 4) (j := 25) rfl)).trans ((fset_fr hΦ28 (ne_off (x := sz) (i := 4) (j := 0) rfl)).trans ((fr12 (sz + 4) (lt_off (x := sz) (i := 4) (j := 24) rfl) (ne_off (x := sz) (i := 4) (j := 23) rfl)).trans ((fset_fr hΦ27 (ne_off (x := sz) (i := 4) (j := 23) rfl)).trans ((fset_fr hΦ26 (ne_off (x := sz) (i := 4) (j := 0) rfl)).trans ((fr11 (sz + 4) (lt_off (x := sz) (i := 4) (j := 22) rfl) (ne_off (x := sz) (i := 4) (j := 21) rfl)).trans ((fset_fr hΦ25 (ne_off (x := sz) (i := 4) (j := 21) rfl)).trans ((fset_fr hΦ24 (ne_off (x := sz) (i := 4) (j := 0) rfl)).trans ((fr10 (sz + 4) (lt_off (x := sz) (i := 4) (j := 20) rfl) (ne_off (x := sz) (i := 4) (j := 19) rfl)).trans ((fset_fr hΦ23 (ne_off (x := sz) (i := 4) (j := 19) rfl)).trans ((fset_fr hΦ22 (ne_off (x := sz) (i := 4) (j := 0) rfl)).trans ((fr9 (sz + 4) (lt_off (x := sz) (i := 4) (j := 18) rfl) (ne_off (x := sz) (i := 4) (j := 17) rfl)).trans ((fset_fr hΦ21 (ne_off (x := sz) (i := 4) (j := 17) rfl)).trans ((fset_fr hΦ20 (ne_off (x := sz) (i := 4) (j := 0) rfl)).trans ((fr8 (sz + 4) (lt_off (x := sz) (i := 4) (j := 16) rfl) (ne_off (x := sz) (i := 4) (j := 15) rfl)).trans ((fset_fr hΦ19 (ne_off (x := sz) (i := 4) (j := 15) rfl)).trans ((fset_fr hΦ18 (ne_off (x := sz) (i := 4) (j := 0) rfl)).trans ((fr7 (sz + 4) (lt_off (x := sz) (i := 4) (j := 14) rfl) (ne_off (x := sz) (i := 4) (j := 13) rfl)).trans ((fset_fr hΦ17 (ne_off (x := sz) (i := 4) (j := 13) rfl)).trans ((fset_fr hΦ16 (ne_off (x := sz) (i := 4) (j := 0) rfl)).trans ((fr6 (sz + 4) (lt_off (x := sz) (i := 4) (j := 12) rfl) (ne_off (x := sz) (i := 4) (j := 11) rfl)).trans ((fset_fr hΦ15 (ne_off (x := sz) (i := 4) (j := 11) rfl)).trans ((fset_fr hΦ14 (ne_off (x := sz) (i := 4) (j := 0) rfl)).trans ((fr5 (sz + 4) (lt_off (x := sz) (i := 4) (j := 10) rfl) (ne_off (x := sz) (i := 4) (j := 9) rfl)).trans ((fset_fr hΦ13 (ne_off (x := sz) (i := 4) (j := 9) rfl)).trans ((fset_fr hΦ12 (ne_off (x := sz) (i := 4) (j := 0) rfl)).trans ((fr4 (sz + 4) (lt_off (x := sz) (i := 4) (j := 8) rfl) (ne_off (x := sz) (i := 4) (j := 7) rfl)).trans ((fset_fr hΦ11 (ne_off (x := sz) (i := 4) (j := 7) rfl)).trans ((fset_fr hΦ10 (ne_off (x := sz) (i := 4) (j := 0) rfl)).trans ((fr3 (sz + 4) (lt_off (x := sz) (i := 4) (j := 6) rfl) (ne_off (x := sz) (i := 4) (j := 5) rfl)).trans ((fset_fr hΦ9 (ne_off (x := sz) (i := 4) (j := 5) rfl)).trans ((fset_fr hΦ8 (ne_off (x := sz) (i := 4) (j := 0) rfl)).trans h_19))))))))))))))))))))))))))))))))))
  have h_115 : Φ43 (sz + 5) = some (o_ 7 [.ref (sz + 6), .int 0]) := ((fset_fr hΦ30 (ne_off (x := sz) (i := 5) (j := 0) rfl)).trans ((fr13 (sz + 5) (lt_off (x := sz) (i := 5) (j := 26) rfl) (ne_off (x := sz) (i := 5) (j := 25) rfl)).trans ((fset_fr hΦ29 (ne_off (x := sz) (i := 5) (j := 25) rfl)).trans ((fset_fr hΦ28 (ne_off (x := sz) (i := 5) (j := 0) rfl)).trans ((fr12 (sz + 5) (lt_off (x := sz) (i := 5) (j := 24) rfl) (ne_off (x := sz) (i := 5) (j := 23) rfl)).trans ((fset_fr hΦ27 (ne_off (x := sz) (i := 5) (j := 23) rfl)).trans ((fset_fr hΦ26 (ne_off (x := sz) (i := 5) (j := 0) rfl)).trans ((fr11 (sz + 5) (lt_off (x := sz) (i := 5) (j := 22) rfl) (ne_off (x := sz) (i := 5) (j := 21) rfl)).trans ((fset_fr hΦ25 (ne_off (x := sz) (i := 5) (j := 21) rfl)).trans ((fset_fr hΦ24 (ne_off (x := sz) (i := 5) (j := 0) rfl)).trans ((fr10 (sz + 5) (lt_off (x := sz) (i := 5) (j := 20) rfl) (ne_off (x := sz) (i := 5) (j := 19) rfl)).trans ((fset_fr hΦ23 (ne_off (x := sz) (i := 5) (j := 19) rfl)).trans ((fset_fr hΦ22 (ne_off (x := sz) (i := 5) (j := 0) rfl)).trans ((fr9 (sz + 5) (lt_off (x := sz) (i := 5) (j := 18) rfl) (ne_off (x := sz) (i := 5) (j := 17) rfl)).trans ((fset_fr hΦ21 (ne_off (x := sz) (i := 5) (j := 17) rfl)).trans ((fset_fr hΦ20 (ne_off (x := sz) (i := 5) (j := 0) rfl)).trans ((fr8 (sz + 5) (lt_off (x := sz) (i := 5) (j := 16) rfl) (ne_off (x := sz) (i := 5) (j := 15) rfl)).trans ((fset_fr hΦ19 (ne_off (x := sz) (i := 5) (j := 15) rfl)).trans ((fset_fr hΦ18 (ne_off (x := sz) (i := 5) (j := 0) rfl)).trans ((fr7 (sz + 5) (lt_off (x := sz) (i := 5) (j := 14) rfl) (ne_off (x := sz) (i := 5) (j := 13) rfl)).trans ((fset_fr hΦ17 (ne_off (x := sz) (i := 5) (j := 13) rfl)).trans ((fset_fr hΦ16 (ne_off (x := sz) (i := 5) (j := 0) rfl)).trans ((fr6 (sz + 5) (lt_off (x := sz) (i := 5) (j := 12) rfl) (ne_off (x := sz) (i := 5) (j := 11) rfl)).trans ((fset_fr hΦ15 (ne_off (x := sz) (i := 5) (j := 11) rfl)).trans ((fset_fr hΦ14 (ne_off (x := sz) (i := 5) (j := 0) rfl)).trans ((fr5 (sz + 5) (lt_off (x := sz) (i := 5) (j := 10) rfl) (ne_off (x := sz) (i := 5) (j := 9) rfl)).trans ((fset_fr hΦ13 (ne_off (x := sz) (i := 5) (j := 9) rfl)).trans ((fset_fr hΦ12 (ne_off (x := sz) (i := 5) (j := 0) rfl)).trans ((fr4 (sz + 5) (lt_off (x := sz) (i := 5) (j := 8) rfl) (ne_off (x := sz) (i := 5) (j := 7) rfl)).trans ((fset_fr hΦ11 (ne_off (x := sz) (i := 5) (j := 7) rfl)).trans ((fset_fr hΦ10 (ne_off (x := sz) (i := 5) (j := 0) rfl)).trans h_26)))))))))))))))))))))))))))))))
  have h_116 : Φ43 (sz + 6) = some (ab_ G 600 (fun _ => 0)) := ((fset_fr hΦ30 (ne_off (x := sz) (i := 6) (j := 0) rfl)).trans ((fr13 (sz + 6) (lt_off (x := sz) (i := 6) (j := 26) rfl) (ne_off (x := sz) (i := 6) (j := 25) rfl)).trans ((fset_fr hΦ29 (ne_off (x := sz) (i := 6) (j := 25) rfl)).trans ((fset_fr hΦ28 (ne_off (x := sz) (i := 6) (j := 0) rfl)).trans ((fr12 (sz + 6) (lt_off (x := sz) (i := 6) (j := 24) rfl) (ne_off (x := sz) (i := 6) (j := 23) rfl)).trans ((fset_fr hΦ27 (ne_off (x := sz) (i := 6) (j := 23) rfl)).trans ((fset_fr hΦ26 (ne_off (x := sz) (i := 6) (j := 0) rfl)).trans ((fr11 (sz + 6) (lt_off (x := sz) (i := 6) (j := 22) rfl) (ne_off (x := sz) (i := 6) (j := 21) rfl)).trans ((fset_fr hΦ25 (ne_off (x := sz) (i := 6) (j := 21) rfl)).trans ((fset_fr hΦ24 (ne_off (x := sz) (i := 6) (j := 0) rfl)).trans ((fr10 (sz + 6) (lt_off (x := sz) (i := 6) (j := 20) rfl) (ne_off (x := sz) (i := 6) (j := 19) rfl)).trans ((fset_fr hΦ23 (ne_off (x := sz) (i := 6) (j := 19) rfl)).trans ((fset_fr hΦ22 (ne_off (x := sz) (i := 6) (j := 0) rfl)).trans ((fr9 (sz + 6) (lt_off (x := sz) (i := 6) (j := 18) rfl) (ne_off (x := sz) (i := 6) (j := 17) rfl)).trans ((fset_fr hΦ21 (ne_off (x := sz) (i := 6) (j := 17) rfl)).trans ((fset_fr hΦ20 (ne_off (x := sz) (i := 6) (j := 0) rfl)).trans ((fr8 (sz + 6) (lt_off (x := sz) (i := 6) (j := 16) rfl) (ne_off (x := sz) (i := 6) (j := 15) rfl)).trans ((fset_fr hΦ19 (ne_off (x := sz) (i := 6) (j := 15) rfl)).trans ((fset_fr hΦ18 (ne_off (x := sz) (i := 6) (j := 0) rfl)).trans ((fr7 (sz + 6) (lt_off (x := sz) (i := 6) (j := 14) rfl) (ne_off (x := sz) (i := 6) (j := 13) rfl)).trans ((fset_fr hΦ17 (ne_off (x := sz) (i := 6) (j := 13) rfl)).trans ((fset_fr hΦ16 (ne_off (x := sz) (i := 6) (j := 0) rfl)).trans ((fr6 (sz + 6) (lt_off (x := sz) (i := 6) (j := 12) rfl) (ne_off (x := sz) (i := 6) (j := 11) rfl)).trans ((fset_fr hΦ15 (ne_off (x := sz) (i := 6) (j := 11) rfl)).trans ((fset_fr hΦ14 (ne_off (x := sz) (i := 6) (j := 0) rfl)).trans ((fr5 (sz + 6) (lt_off (x := sz) (i := 6) (j := 10) rfl) (ne_off (x := sz) (i := 6) (j := 9) rfl)).trans ((fset_fr hΦ13 (ne_off (x := sz) (i := 6) (j := 9) rfl)).trans ((fset_fr hΦ12 (ne_off (x := sz) (i := 6) (j := 0) rfl)).trans ((fr4 (sz + 6) (lt_off (x := sz) (i := 6) (j := 8) rfl) (ne_off (x := sz) (i := 6) (j := 7) rfl)).trans ((fset_fr hΦ11 (ne_off (x := sz) (i := 6) (j := 7) rfl)).trans ((fset_fr hΦ10 (ne_off (x := sz) (i := 6) (j := 0) rfl)).trans h_27)))))))))))))))))))))))))))))))
  have h_117 : Φ43 (sz + 7) = some (o_ 7 [.ref (sz + 8), .int 0]) := ((fset_fr hΦ30 (ne_off (x := sz) (i := 7) (j := 0) rfl)).trans ((fr13 (sz + 7) (lt_off (x := sz) (i := 7) (j := 26) rfl) (ne_off (x := sz) (i := 7) (j := 25) rfl)).trans ((fset_fr hΦ29 (ne_off (x := sz) (i := 7) (j := 25) rfl)).trans ((fset_fr hΦ28 (ne_off (x := sz) (i := 7) (j := 0) rfl)).trans ((fr12 (sz + 7) (lt_off (x := sz) (i := 7) (j := 24) rfl) (ne_off (x := sz) (i := 7) (j := 23) rfl)).trans ((fset_fr hΦ27 (ne_off (x := sz) (i := 7) (j := 23) rfl)).trans ((fset_fr hΦ26 (ne_off (x := sz) (i := 7) (j := 0) rfl)).trans ((fr11 (sz + 7) (lt_off (x := sz) (i := 7) (j := 22) rfl) (ne_off (x := sz) (i := 7) (j := 21) rfl)).trans ((fset_fr hΦ25 (ne_off (x := sz) (i := 7) (j := 21) rfl)).trans ((fset_fr hΦ24 (ne_off (x := sz) (i := 7) (j := 0) rfl)).trans ((fr10 (sz + 7) (lt_off (x := sz) (i := 7) (j := 20) rfl) (ne_off (x := sz) (i := 7) (j := 19) rfl)).trans ((fset_fr hΦ23 (ne_off (x := sz) (i := 7) (j := 19) rfl)).trans ((fset_fr hΦ22 (ne_off (x := sz) (i := 7) (j := 0) rfl)).trans ((fr9 (sz + 7) (lt_off (x := sz) (i := 7) (j := 18) rfl) (ne_off (x := sz) (i := 7) (j := 17) rfl)).trans ((fset_fr hΦ21 (ne_off (x := sz) (i := 7) (j := 17) rfl)).trans ((fset_fr hΦ20 (ne_off (x := sz) (i := 7) (j := 0) rfl)).trans ((fr8 (sz + 7) (lt_off (x := sz) (i := 7) (j := 16) rfl) (ne_off (x := sz) (i := 7) (j := 15) rfl)).trans ((fset_fr hΦ19 (ne_off (x := sz) (i := 7) (j := 15) rfl)).trans ((fset_fr hΦ18 (ne_off (x := sz) (i := 7) (j := 0) rfl)).trans ((fr7 (sz + 7) (lt_off (x := sz) (i := 7) (j := 14) rfl) (ne_off (x := sz) (i := 7) (j := 13) rfl)).trans ((fset_fr hΦ17 (ne_off (x := sz) (i := 7) (j := 13) rfl)).trans ((fset_fr hΦ16 (ne_off (x := sz) (i := 7) (j := 0) rfl)).trans ((fr6 (sz + 7) (lt_off (x := sz) (i := 7) (j := 12) rfl) (ne_off (x := sz) (i := 7) (j := 11) rfl)).trans ((fset_fr hΦ15 (ne_off (x := sz) (i := 7) (j := 11) rfl)).trans ((fset_fr hΦ14 (ne_off (x := sz) (i := 7) (j := 0) rfl)).trans ((fr5 (sz + 7) (lt_off (x := sz) (i := 7) (j := 10) rfl) (ne_off (x := sz) (i := 7) (j := 9) rfl)).trans ((fset_fr hΦ13 (ne_off (x := sz) (i := 7) (j := 9) rfl)).trans ((fset_fr hΦ12 (ne_off (x := sz) (i := 7) (j := 0) rfl)).trans h_34))))))))))))))))))))))))))))
  have h_118 : Φ43 (sz + 8) = some (ab_ G 600 (fun _ => 0)) := ((fset_fr hΦ30 (ne_off (x := sz) (i := 8) (j := 0) rfl)).trans ((fr13 (sz + 8) (lt_off (x := sz) (i := 8) (j := 26) rfl) (ne_off (x := sz) (i := 8) (j := 25) rfl)).trans ((fset_fr hΦ29 (ne_off (x := sz) (i := 8) (j := 25) rfl)).trans ((fset_fr hΦ28 (ne_off (x := sz) (i := 8) (j := 0) rfl)).trans ((fr12 (sz + 8) (lt_off (x := sz) (i := 8) (j := 24) rfl) (ne_off (x := sz) (i := 8) (j := 23) rfl)).trans ((fset_fr hΦ27 (ne_off (x := sz) (i := 8) (j := 23) rfl)).trans ((fset_fr hΦ26 (ne_off (x := sz) (i := 8) (j := 0) rfl)).trans ((fr11 (sz + 8) (lt_off (x := sz) (i := 8) (j := 22) rfl) (ne_off (x := sz) (i := 8) (j := 21) rfl)).trans ((fset_fr hΦ25 (ne_off (x := sz) (i := 8) (j := 21) rfl)).trans ((fset_fr hΦ24 (ne_off (x := sz) (i := 8) (j := 0) rfl)).trans ((fr10 (sz + 8) (lt_off (x := sz) (i := 8) (j := 20) rfl) (ne_off (x := sz) (i := 8) (j := 19) rfl)).trans ((fset_fr hΦ23 (ne_off (x := sz) (i := 8) (j := 19) rfl)).trans ((fset_fr hΦ22 (ne_off (x := sz) (i := 8) (j := 0) rfl)).trans ((fr9 (sz + 8) (lt_off (x := sz) (i := 8) (j := 18) rfl) (ne_off (x := sz) (i := 8) (j := 17) rfl)).trans ((fset_fr hΦ21 (ne_off (x := sz) (i := 8) (j := 17) rfl)).trans ((fset_fr hΦ20 (ne_off (x := sz) (i := 8) (j := 0) rfl)).trans ((fr8 (sz + 8) (lt_off (x := sz) (i := 8) (j := 16) rfl) (ne_off (x := sz) (i := 8) (j := 15) rfl)).trans ((fset_fr hΦ19 (ne_off (x := sz) (i := 8) (j := 15) rfl)).trans ((fset_fr hΦ18 (ne_off (x := sz) (i := 8) (j := 0) rfl)).trans ((fr7 (sz + 8) (lt_off (x := sz) (i := 8) (j := 14) rfl) (ne_off (x := sz) (i := 8) (j := 13) rfl)).trans ((fset_fr hΦ17 (ne_off (x := sz) (i := 8) (j := 13) rfl)).trans ((fset_fr hΦ16 (ne_off (x := sz) (i := 8) (j := 0) rfl)).trans ((fr6 (sz + 8) (lt_off (x := sz) (i := 8) (j := 12) rfl) (ne_off (x := sz) (i := 8) (j := 11) rfl)).trans ((fset_fr hΦ15 (ne_off (x := sz) (i := 8) (j := 11) rfl)).trans ((fset_fr hΦ14 (ne_off (x := sz) (i := 8) (j := 0) rfl)).trans ((fr5 (sz + 8) (lt_off (x := sz) (i := 8) (j := 10) rfl) (ne_off (x := sz) (i := 8) (j := 9) rfl)).trans ((fset_fr hΦ13 (ne_off (x := sz) (i := 8) (j := 9) rfl)).trans ((fset_fr hΦ12 (ne_off (x := sz) (i := 8) (j := 0) rfl)).trans h_35))))))))))))))))))))))))))))
  have h_119 : Φ43 (sz + 9) = some (o_ 7 [.ref (sz + 10), .int 0]) := ((fset_fr hΦ30 (ne_off (x := sz) (i := 9) (j := 0) rfl)).trans ((fr13 (sz + 9) (lt_off (x := sz) (i := 9) (j := 26) rfl) (ne_off (x := sz) (i := 9) (j := 25) rfl)).trans ((fset_fr hΦ29 (ne_off (x := sz) (i := 9) (j := 25) rfl)).trans ((fset_fr hΦ28 (ne_off (x := sz) (i := 9) (j := 0) rfl)).trans ((fr12 (sz + 9) (lt_off (x := sz) (i := 9) (j := 24) rfl) (ne_off (x := sz) (i := 9) (j := 23) rfl)).trans ((fset_fr hΦ27 (ne_off (x := sz) (i := 9) (j := 23) rfl)).trans ((fset_fr hΦ26 (ne_off (x := sz) (i := 9) (j := 0) rfl)).trans ((fr11 (sz + 9) (lt_off (x := sz) (i := 9) (j := 22) rfl) (ne_off (x := sz) (i := 9) (j := 21) rfl)).trans ((fset_fr hΦ25 (ne_off (x := sz) (i := 9) (j := 21) rfl)).trans ((fset_fr hΦ24 (ne_off (x := sz) (i := 9) (j := 0) rfl)).trans ((fr10 (sz + 9) (lt_off (x := sz) (i := 9) (j := 20) rfl) (ne_off (x := sz) (i := 9) (j := 19) rfl)).trans ((fset_fr hΦ23 (ne_off (x := sz) (i := 9) (j := 19) rfl)).trans ((fset_fr hΦ22 (ne_off (x := sz) (i := 9) (j := 0) rfl)).trans ((fr9 (sz + 9) (lt_off (x := sz) (i := 9) (j := 18) rfl) (ne_off (x := sz) (i := 9) (j := 17) rfl)).trans ((fset_fr hΦ21 (ne_off (x := sz) (i := 9) (j := 17) rfl)).trans ((fset_fr hΦ20 (ne_off (x := sz) (i := 9) (j := 0) rfl)).trans ((fr8 (sz + 9) (lt_off (x := sz) (i := 9) (j := 16) rfl) (ne_off (x := sz) (i := 9) (j := 15) rfl)).trans ((fset_fr hΦ19 (ne_off (x := sz) (i := 9) (j := 15) rfl)).trans ((fset_fr hΦ18 (ne_off (x := sz) (i := 9) (j := 0) rfl)).trans ((fr7 (sz + 9) (lt_off (x := sz) (i := 9) (j := 14) rfl) (ne_off (x := sz) (i := 9) (j := 13) rfl)).trans ((fset_fr hΦ17 (ne_off (x := sz) (i := 9) (j := 13) rfl)).trans ((fset_fr hΦ16 (ne_off (x := sz) (i := 9) (j := 0) rfl)).trans ((fr6 (sz + 9) (lt_off (x := sz) (i := 9) (j := 12) rfl) (ne_off (x := sz) (i := 9) (j := 11) rfl)).trans ((fset_fr hΦ15 (ne_off (x := sz) (i := 9) (j := 11) rfl)).trans ((fset_fr hΦ14 (ne_off (x := sz) (i := 9) (j := 0) rfl)).trans h_42)))))))))))))))))))))))))
  have h_120 : Φ43 (sz + 10) = some (ab_ G 600 (fun _ => 0)) := ((fset_fr hΦ30 (ne_off (x := sz) (i := 10) (j := 0) rfl)).trans ((fr13 (sz + 10) (lt_off (x := sz) (i := 10) (j := 26) rfl) (ne_off (x := sz) (i := 10) (j := 25) rfl)).trans ((fset_fr hΦ29 (ne_off (x := sz) (i := 10) (j := 25) rfl)).trans ((fset_fr hΦ28 (ne_off (x := sz) (i := 10) (j := 0) rfl)).trans ((fr12 (sz + 10) (lt_off (x := sz) (i := 10) (j := 24) rfl) (ne_off (x := sz) (i := 10) (j := 23) rfl)).trans ((fset_fr hΦ27 (ne_off (x := sz) (i := 10) (j := 23) rfl)).trans ((fset_fr hΦ26 (ne_off (x := sz) (i := 10) (j := 0) rfl)).trans ((fr11 (sz + 10) (lt_off (x := sz) (i := 10) (j := 22) rfl) (ne_off (x := sz) (i := 10) (j := 21) rfl)).trans ((fset_fr hΦ25 (ne_off (x := sz) (i := 10) (j := 21) rfl)).trans ((fset_fr hΦ24 (ne_off (x := sz) (i := 10) (j := 0) rfl)).trans ((fr10 (sz + 10) (lt_off (x := sz) (i := 10) (j := 20) rfl) (ne_off (x := sz) (i := 10) (j := 19) rfl)).trans ((fset_fr hΦ23 (ne_off (x := sz) (i := 10) (j := 19) rfl)).trans ((fset_fr hΦ22 (ne_off (x := sz) (i := 10) (j := 0) rfl)).trans ((fr9 (sz + 10) (lt_off (x := sz) (i := 10) (j := 18) rfl) (ne_off (x := sz) (i := 10) (j := 17) rfl)).trans ((fset_fr hΦ21 (ne_off (x := sz) (i := 10) (j := 17) rfl)).trans ((fset_fr hΦ20 (ne_off (x := sz) (i := 10) (j := 0) rfl)).trans ((fr8 (sz + 10) (lt_off (x := sz) (i := 10) (j := 16) rfl) (ne_off (x := sz) (i := 10) (j := 15) rfl)).trans ((fset_fr hΦ19 (ne_off (x := sz) (i := 10) (j := 15) rfl)).trans ((fset_fr hΦ18 (ne_off (x := sz) (i := 10) (j := 0) rfl)).trans ((fr7 (sz + 10) (lt_off (x := sz) (i := 10) (j := 14) rfl) (ne_off (x := sz) (i := 10) (j := 13) rfl)).trans ((fset_fr hΦ17 (ne_off (x := sz) (i := 10) (j := 13) rfl)).trans ((fset_fr hΦ16 (ne_off (x := sz) (i := 10) (j := 0) rfl)).trans ((fr6 (sz + 10) (lt_off (x := sz) (i := 10) (j := 12) rfl) (ne_off (x := sz) (i := 10) (j := 11) rfl)).trans ((fset_fr hΦ15 (ne_off (x := sz) (i := 10) (j := 11) rfl)).trans ((fset_fr hΦ14 (ne_off (x := sz) (i := 10) (j := 0) rfl)).trans h_43)))))))))))))))))))))))))
  have h_121 : Φ43 (sz + 11) = some (o_ 7 [.ref (sz + 12), .int 0]) := ((fset_fr hΦ30 (ne_off (x := sz) (i := 11) (j := 0) rfl)).trans ((fr13 (sz + 11) (lt_off (x := sz) (i := 11) (j := 26) rfl) (ne_off (x := sz) (i := 11) (j := 25) rfl)).trans ((fset_fr hΦ29 (ne_off (x := sz) (i := 11) (j := 25) rfl)).trans ((fset_fr hΦ28 (ne_off (x := sz) (i := 11) (j := 0) rfl)).trans ((fr12 (sz + 11) (lt_off (x := sz) (i := 11) (j := 24) rfl) (ne_off (x := sz) (i := 11) (j := 23) rfl)).trans ((fset_fr hΦ27 (ne_off (x := sz) (i := 11) (j := 23) rfl)).trans ((fset_fr hΦ26 (ne_off (x := sz) (i := 11) (j := 0) rfl)).trans ((fr11 (sz + 11) (lt_off (x := sz) (i := 11) (j := 22) rfl) (ne_off (x := sz) (i := 11) (j := 21) rfl)).trans ((fset_fr hΦ25 (ne_off (x := sz) (i := 11) (j := 21) rfl)).trans ((fset_fr hΦ24 (ne_off (x := sz) (i := 11) (j := 0) rfl)).trans ((fr10 (sz + 11) (lt_off (x := sz) (i := 11) (j := 20) rfl) (ne_off (x := sz) (i := 11) (j := 19) rfl)).trans ((fset_fr hΦ23 (ne_off (x := sz) (i := 11) (j := 19) rfl)).trans ((fset_fr hΦ22 (ne_off (x := sz) (i := 11) (j := 0) rfl)).trans ((fr9 (sz + 11) (lt_off (x := sz) (i := 11) (j := 18) rfl) (ne_off (x := sz) (i := 11) (j := 17) rfl)).trans ((fset_fr hΦ21 (ne_off (x := sz) (i := 11) (j := 17) rfl)).trans ((fset_fr hΦ20 (ne_off (x := sz) (i := 11) (j := 0) rfl)).trans ((fr8 (sz + 11) (lt_off (x := sz) (i := 11) (j := 16) rfl) (ne_off (x := sz) (i := 11) (j := 15) rfl)).trans ((fset_fr hΦ19 (ne_off (x := sz) (i := 11) (j := 15) rfl)).trans ((fset_fr hΦ18 (ne_off (x := sz) (i := 11) (j := 0) rfl)).trans ((fr7 (sz + 11) (lt_off (x := sz) (i := 11) (j := 14) rfl) (ne_off (x := sz) (i := 11) (j := 13) rfl)).trans ((fset_fr hΦ17 (ne_off (x := sz) (i := 11) (j := 13) rfl)).trans ((fset_fr hΦ16 (ne_off (x := sz) (i := 11) (j := 0) rfl)).trans h_50))))))))))))))))))))))
  have h_122 : Φ43 (sz + 12) = some (ab_ G 600 (fun _ => 0)) := ((fset_fr hΦ30 (ne_off (x := sz) (i := 12) (j := 0) rfl)).trans ((fr13 (sz + 12) (lt_off (x := sz) (i := 12) (j := 26) rfl) (ne_off (x := sz) (i := 12) (j := 25) rfl)).trans ((fset_fr hΦ29 (ne_off (x := sz) (i := 12) (j := 25) rfl)).trans ((fset_fr hΦ28 (ne_off (x := sz) (i := 12) (j := 0) rfl)).trans ((fr12 (sz + 12) (lt_off (x := sz) (i := 12) (j := 24) rfl) (ne_off (x := sz) (i := 12) (j := 23) rfl)).trans ((fset_fr hΦ27 (ne_off (x := sz) (i := 12) (j := 23) rfl)).trans ((fset_fr hΦ26 (ne_off (x := sz) (i := 12) (j := 0) rfl)).trans ((fr11 (sz + 12) (lt_off (x := sz) (i := 12) (j := 22) rfl) (ne_off (x := sz) (i := 12) (j := 21) rfl)).trans ((fset_fr hΦ25 (ne_off (x := sz) (i := 12) (j := 21) rfl)).trans ((fset_fr hΦ24 (ne_off (x := sz) (i := 12) (j := 0) rfl)).trans ((fr10 (sz + 12) (lt_off (x := sz) (i := 12) (j := 20) rfl) (ne_off (x := sz) (i := 12) (j := 19) rfl)).trans ((fset_fr hΦ23 (ne_off (x := sz) (i := 12) (j := 19) rfl)).trans ((fset_fr hΦ22 (ne_off (x := sz) (i := 12) (j := 0) rfl)).trans ((fr9 (sz + 12) (lt_off (x := sz) (i := 12) (j := 18) rfl) (ne_off (x := sz) (i := 12) (j := 17) rfl)).trans ((fset_fr hΦ21 (ne_off (x := sz) (i := 12) (j := 17) rfl)).trans ((fset_fr hΦ20 (ne_off (x := sz) (i := 12) (j := 0) rfl)).trans ((fr8 (sz + 12) (lt_off (x := sz) (i := 12) (j := 16) rfl) (ne_off (x := sz) (i := 12) (j := 15) rfl)).trans ((fset_fr hΦ19 (ne_off (x := sz) (i := 12) (j := 15) rfl)).trans ((fset_fr hΦ18 (ne_off (x := sz) (i := 12) (j := 0) rfl)).trans ((fr7 (sz + 12) (lt_off (x := sz) (i := 12) (j := 14) rfl) (ne_off (x := sz) (i := 12) (j := 13) rfl)).trans ((fset_fr hΦ17 (ne_off (x := sz) (i := 12) (j := 13) rfl)).trans ((fset_fr hΦ16 (ne_off (x := sz) (i := 12) (j := 0) rfl)).trans h_51))))))))))))))))))))))
  have h_123 : Φ43 (sz + 13) = some (o_ 7 [.ref (sz + 14), .int 0]) := ((fset_fr hΦ30 (ne_off (x := sz) (i := 13) (j := 0) rfl)).trans ((fr13 (sz + 13) (lt_off (x := sz) (i := 13) (j := 26) rfl) (ne_off (x := sz) (i := 13) (j := 25) rfl)).trans ((fset_fr hΦ29 (ne_off (x := sz) (i := 13) (j := 25) rfl)).trans ((fset_fr hΦ28 (ne_off (x := sz) (i := 13) (j := 0) rfl)).trans ((fr12 (sz + 13) (lt_off (x := sz) (i := 13) (j := 24) rfl) (ne_off (x := sz) (i := 13) (j := 23) rfl)).trans ((fset_fr hΦ27 (ne_off (x := sz) (i := 13) (j := 23) rfl)).trans ((fset_fr hΦ26 (ne_off (x := sz) (i := 13) (j := 0) rfl)).trans ((fr11 (sz + 13) (lt_off (x := sz) (i := 13) (j := 22) rfl) (ne_off (x := sz) (i := 13) (j := 21) rfl)).trans ((fset_fr hΦ25 (ne_off (x := sz) (i := 13) (j := 21) rfl)).trans ((fset_fr hΦ24 (ne_off (x := sz) (i := 13) (j := 0) rfl)).trans ((fr10 (sz + 13) (lt_off (x := sz) (i := 13) (j := 20) rfl) (ne_off (x := sz) (i := 13) (j := 19) rfl)).trans ((fset_fr hΦ23 (ne_off (x := sz) (i := 13) (j := 19) rfl)).trans ((fset_fr hΦ22 (ne_off (x := sz) (i := 13) (j := 0) rfl)).trans ((fr9 (sz + 13) (lt_off (x := sz) (i := 13) (j := 18) rfl) (ne_off (x := sz) (i := 13) (j := 17) rfl)).trans ((fset_fr hΦ21 (ne_off (x := sz) (i := 13) (j := 17) rfl)).trans ((fset_fr hΦ20 (ne_off (x := sz) (i := 13) (j := 0) rfl)).trans ((fr8 (sz + 13) (lt_off (x := sz) (i := 13) (j := 16) rfl) (ne_off (x := sz) (i := 13) (j := 15) rfl)).trans ((fset_fr hΦ19 (ne_off (x := sz) (i := 13) (j := 15) rfl)).trans ((fset_fr hΦ18 (ne_off (x := sz) (i := 13) (j := 0) rfl)).trans h_58)))))))))))))))))))
  have h_124 : Φ43 (sz + 14) = some (ab_ G 600 (fun _ => 0)) := ((fset_fr hΦ30 (ne_off (x := sz) (i := 14) (j := 0) rfl)).trans ((fr13 (sz + 14) (lt_off (x := sz) (i := 14) (j := 26) rfl) (ne_off (x := sz) (i := 14) (j := 25) rfl)).trans ((fset_fr hΦ29 (ne_off (x := sz) (i := 14) (j := 25) rfl)).trans ((fset_fr hΦ28 (ne_off (x := sz) (i := 14) (j := 0) rfl)).trans ((fr12 (sz + 14) (lt_off (x := sz) (i := 14) (j := 24) rfl) (ne_off (x := sz) (i := 14) (j := 23) rfl)).trans ((fset_fr hΦ27 (ne_off (x := sz) (i := 14) (j := 23) rfl)).trans ((fset_fr hΦ26 (ne_off (x := sz) (i := 14) (j := 0) rfl)).trans ((fr11 (sz + 14) (lt_off (x := sz) (i := 14) (j := 22) rfl) (ne_off (x := sz) (i := 14) (j := 21) rfl)).trans ((fset_fr hΦ25 (ne_off (x := sz) (i := 14) (j := 21) rfl)).trans ((fset_fr hΦ24 (ne_off (x := sz) (i := 14) (j := 0) rfl)).trans ((fr10 (sz + 14) (lt_off (x := sz) (i := 14) (j := 20) rfl) (ne_off (x := sz) (i := 14) (j := 19) rfl)).trans ((fset_fr hΦ23 (ne_off (x := sz) (i := 14) (j := 19) rfl)).trans ((fset_fr hΦ22 (ne_off (x := sz) (i := 14) (j := 0) rfl)).trans ((fr9 (sz + 14) (lt_off (x := sz) (i := 14) (j := 18) rfl) (ne_off (x := sz) (i := 14) (j := 17) rfl)).trans ((fset_fr hΦ21 (ne_off (x := sz) (i := 14) (j := 17) rfl)).trans ((fset_fr hΦ20 (ne_off (x := sz) (i := 14) (j := 0) rfl)).trans ((fr8 (sz + 14) (lt_off (x := sz) (i := 14) (j := 16) rfl) (ne_off (x := sz) (i := 14) (j := 15) rfl)).trans ((fset_fr hΦ19 (ne_off (x := sz) (i := 14) (j := 15) rfl)).trans ((fset_fr hΦ18 (ne_off (x := sz) (i := 14) (j := 0) rfl)).trans h_59)))))))))))))))))))
  have h_125 : Φ43 (sz + 15) = some (o_ 7 [.ref (sz + 16), .int 0]) := ((fset_fr hΦ30 (ne_off (x := sz) (i := 15) (j := 0) rfl)).trans ((fr13 (sz + 15) (lt_off (x := sz) (i := 15) (j := 26) rfl) (ne_off (x := sz) (i := 15) (j := 25) rfl)).trans ((fset_fr hΦ29 (ne_off (x := sz) (i := 15) (j := 25) rfl)).trans ((fset_fr hΦ28 (ne_off (x := sz) (i := 15) (j := 0) rfl)).trans ((fr12 (sz + 15) (lt_off (x := sz) (i := 15) (j := 24) rfl) (ne_off (x := sz) (i := 15) (j := 23) rfl)).trans ((fset_fr hΦ27 (ne_off (x := sz) (i := 15) (j := 23) rfl)).trans ((fset_fr hΦ26 (ne_off (x := sz) (i := 15) (j := 0) rfl)).trans ((fr11 (sz + 15) (lt_off (x := sz) (i := 15) (j := 22) rfl) (ne_off (x := sz) (i := 15) (j := 21) rfl)).trans ((fset_fr hΦ25 (ne_off (x := sz) (i := 15) (j := 21) rfl)).trans ((fset_fr hΦ24 (ne_off (x := sz) (i := 15) (j := 0) rfl)).trans ((fr10 (sz + 15) (lt_off (x := sz) (i := 15) (j := 20) rfl) (ne_off (x := sz) (i := 15) (j := 19) rfl)).trans ((fset_fr hΦ23 (ne_off (x := sz) (i := 15) (j := 19) rfl)).trans ((fset_fr hΦ22 (ne_off (x := sz) (i := 15) (j := 0) rfl)).trans ((fr9 (sz + 15) (lt_off (x := sz) (i := 15) (j := 18) rfl) (ne_off (x := sz) (i := 15) (j := 17) rfl)).trans ((fset_fr hΦ21 (ne_off (x := sz) (i := 15) (j := 17) rfl)).trans ((fset_fr hΦ20 (ne_off (x := sz) (i := 15) (j := 0) rfl)).trans h_66))))))))))))))))
  have h_126 : Φ43 (sz + 16) = some (ab_ G 600 (fun _ => 0)) := ((fset_fr hΦ30 (ne_off (x := sz) (i := 16) (j := 0) rfl)).trans ((fr13 (sz + 16) (lt_off (x := sz) (i := 16) (j := 26) rfl) (ne_off (x := sz) (i := 16) (j := 25) rfl)).trans ((fset_fr hΦ29 (ne_off (x := sz) (i := 16) (j := 25) rfl)).trans ((fset_fr hΦ28 (ne_off (x := sz) (i := 16) (j := 0) rfl)).trans ((fr12 (sz + 16) (lt_off (x := sz) (i := 16) (j := 24) rfl) (ne_off (x := sz) (i := 16) (j := 23) rfl)).trans ((fset_fr hΦ27 (ne_off (x := sz) (i := 16) (j := 23) rfl)).trans ((fset_fr hΦ26 (ne_off (x := sz) (i := 16) (j := 0) rfl)).trans ((fr11 (sz + 16) (lt_off (x := sz) (i := 16) (j := 22) rfl) (ne_off (x := sz) (i := 16) (j := 21) rfl)).trans ((fset_fr hΦ25 (ne_off (x := sz) (i := 16) (j := 21) rfl)).trans ((fset_fr hΦ24 (ne_off (x := sz) (i := 16) (j := 0) rfl)).trans ((fr10 (sz + 16) (lt_off (x := sz) (i := 16) (j := 20) rfl) (ne_off (x := sz) (i := 16) (j := 19) rfl)).trans ((fset_fr hΦ23 (ne_off (x := sz) (i := 16) (j := 19) rfl)).trans ((fset_fr hΦ22 (ne_off (x := sz) (i := 16) (j := 0) rfl)).trans ((fr9 (sz + 16) (lt_off (x := sz) (i := 16) (j := 18) rfl) (ne_off (x := sz) (i := 16) (j := 17) rfl)).trans ((fset_fr hΦ21 (ne_off (x := sz) (i := 16) (j := 17) rfl)).trans ((fset_fr hΦ20 (ne_off (x := sz) (i := 16) (j := 0) rfl)).trans h_67))))))))))))))))
  have h_127 : Φ43 (sz + 17) = some (o_ 7 [.ref (sz + 18), .int 0]) := ((fset_fr hΦ30 (ne_off (x := sz) (i := 17) (j := 0) rfl)).trans ((fr13 (sz + 17) (lt_off (x := sz) (i := 17) (j := 26) rfl) (ne_off (x := sz) (i := 17) (j := 25) rfl)).trans ((fset_fr hΦ29 (ne_off (x := sz) (i := 17) (j := 25) rfl)).trans ((fset_fr hΦ28 (ne_off (x := sz) (i := 17) (j := 0) rfl)).trans ((fr12 (sz + 17) (lt_off (x := sz) (i := 17) (j := 24) rfl) (ne_off (x := sz) (i := 17) (j := 23) rfl)).trans ((fset_fr hΦ27 (ne_off (x := sz) (i := 17) (j := 23) rfl)).trans ((fset_fr hΦ26 (ne_off (x := sz) (i := 17) (j := 0) rfl)).trans ((fr11 (sz + 17) (lt_off (x := sz) (i := 17) (j := 22) rfl) (ne_off (x := sz) (i := 17) (j := 21) rfl)).trans ((fset_fr hΦ25 (ne_off (x := sz) (i := 17) (j := 21) rfl)).trans ((fset_fr hΦ24 (ne_off (x := sz) (i := 17) (j := 0) rfl)).trans ((fr10 (sz + 17) (lt_off (x := sz) (i := 17) (j := 20) rfl) (ne_off (x := sz) (i := 17) (j := 19) rfl)).trans ((fset_fr hΦ23 (ne_off (x := sz) (i := 17) (j := 19) rfl)).trans ((fset_fr hΦ22 (ne_off (x := sz) (i := 17) (j := 0) rfl)).trans h_74)))))))))))))
  have h_128 : Φ43 (sz + 18) = some (ab_ G 600 (fun _ => 0)) := ((fset_fr hΦ30 (ne_off (x := sz) (i := 18) (j := 0) rfl)).trans ((fr13 (sz + 18) (lt_off (x := sz) (i := 18) (j := 26) rfl) (ne_off (x := sz) (i := 18) (j := 25) rfl)).trans ((fset_fr hΦ29 (ne_off (x := sz) (i := 18) (j := 25) rfl)).trans ((fset_fr hΦ28 (ne_off (x := sz) (i := 18) (j := 0) rfl)).trans ((fr12 (sz + 18) (lt_off (x := sz) (i := 18) (j := 24) rfl) (ne_off (x := sz) (i := 18) (j := 23) rfl)).trans ((fset_fr hΦ27 (ne_off (x := sz) (i := 18) (j := 23) rfl)).trans ((fset_fr hΦ26 (ne_off (x := sz) (i := 18) (j := 0) rfl)).trans ((fr11 (sz + 18) (lt_off (x := sz) (i := 18) (j := 22) rfl) (ne_off (x := sz) (i := 18) (j := 21) rfl)).trans ((fset_fr hΦ25 (ne_off (x := sz) (i := 18) (j := 21) rfl)).trans ((fset_fr hΦ24 (ne_off (x := sz) (i := 18) (j := 0) rfl)).trans ((fr10 (sz + 18) (lt_off (x := sz) (i := 18) (j := 20) rfl) (ne_off (x := sz) (i := 18) (j := 19) rfl)).trans ((fset_fr hΦ23 (ne_off (x := sz) (i := 18) (j := 19) rfl)).trans ((fset_fr hΦ22 (ne_off (x := sz) (i := 18) (j := 0) rfl)).trans h_75)))))))))))))
  have h_129 : Φ43 (sz + 19) = some (o_ 7 [.ref (sz + 20), .int 0]) := ((fset_fr hΦ30 (ne_off (x := sz) (i := 19) (j := 0) rfl)).trans ((fr13 (sz + 19) (lt_off (x := sz) (i := 19) (j := 26) rfl) (ne_off (x := sz) (i := 19) (j := 25) rfl)).trans ((fset_fr hΦ29 (ne_off (x := sz) (i := 19) (j := 25) rfl)).trans ((fset_fr hΦ28 (ne_off (x := sz) (i := 19) (j := 0) rfl)).trans ((fr12 (sz + 19) (lt_off (x := sz) (i := 19) (j := 24) rfl) (ne_off (x := sz) (i := 19) (j := 23) rfl)).trans ((fset_fr hΦ27 (ne_off (x := sz) (i := 19) (j := 23) rfl)).trans ((fset_fr hΦ26 (ne_off (x := sz) (i := 19) (j := 0) rfl)).trans ((fr11 (sz + 19) (lt_off (x := sz) (i := 19) (j := 22) rfl) (ne_off (x := sz) (i := 19) (j := 21) rfl)).trans ((fset_fr hΦ25 (ne_off (x := sz) (i := 19) (j := 21) rfl)).trans ((fset_fr hΦ24 (ne_off (x := sz) (i := 19) (j := 0) rfl)).trans h_82))))))))))
  have h_130 : Φ43 (sz + 20) = some (ab_ G 600 (fun _ => 0)) := ((fset_fr hΦ30 (ne_off (x := sz) (i := 20) (j := 0) rfl)).trans ((fr13 (sz + 20) (lt_off (x := sz) (i := 20) (j := 26) rfl) (ne_off (x := sz) (i := 20) (j := 25) rfl)).trans ((fset_fr hΦ29 (ne_off (x := sz) (i := 20) (j := 25) rfl)).trans ((fset_fr hΦ28 (ne_off (x := sz) (i := 20) (j := 0) rfl)).trans ((fr12 (sz + 20) (lt_off (x := sz) (i := 20) (j := 24) rfl) (ne_off (x := sz) (i := 20) (j := 23) rfl)).trans ((fset_fr hΦ27 (ne_off (x := sz) (i := 20) (j := 23) rfl)).trans ((fset_fr hΦ26 (ne_off (x := sz) (i := 20) (j := 0) rfl)).trans ((fr11 (sz + 20) (lt_off (x := sz) (i := 20) (j := 22) rfl) (ne_off (x := sz) (i := 20) (j := 21) rfl)).trans ((fset_fr hΦ25 (ne_off (x := sz) (i := 20) (j := 21) rfl)).trans ((fset_fr hΦ24 (ne_off (x := sz) (i := 20) (j := 0) rfl)).trans h_83))))))))))
  have h_131 : Φ43 (sz + 21) = some (o_ 7 [.ref (sz + 22), .int 0]) := ((fset_fr hΦ30 (ne_off (x := sz) (i := 21) (j := 0) rfl)).trans ((fr13 (sz + 21) (lt_off (x := sz) (i := 21) (j := 26) rfl) (ne_off (x := sz) (i := 21) (j := 25) rfl)).trans ((fset_fr hΦ29 (ne_off (x := sz) (i := 21) (j := 25) rfl)).trans ((fset_fr hΦ28 (ne_off (x := sz) (i := 21) (j := 0) rfl)).trans ((fr12 (sz + 21) (lt_off (x := sz) (i := 21) (j := 24) rfl) (ne_off (x := sz) (i := 21) (j := 23) rfl)).trans ((fset_fr hΦ27 (ne_off (x := sz) (i := 21) (j := 23) rfl)).trans ((fset_fr hΦ26 (ne_off (x := sz) (i := 21) (j := 0) rfl)).trans h_90)))))))
  have h_132 : Φ43 (sz + 22) = some (ab_ G 600 (fun _ => 0)) := ((fset_fr hΦ30 (ne_off (x := sz) (i := 22) (j := 0) rfl)).trans ((fr13 (sz + 22) (lt_off (x := sz) (i := 22) (j := 26) rfl) (ne_off (x := sz) (i := 22) (j := 25) rfl)).trans ((fset_fr hΦ29 (ne_off (x := sz) (i := 22) (j := 25) rfl)).trans ((fset_fr hΦ28 (ne_off (x := sz) (i := 22) (j := 0) rfl)).trans ((fr12 (sz + 22) (lt_off (x := sz) (i := 22) (j := 24) rfl) (ne_off (x := sz) (i := 22) (j := 23) rfl)).trans ((fset_fr hΦ27 (ne_off (x := sz) (i := 22) (j := 23) rfl)).trans ((fset_fr hΦ26 (ne_off (x := sz) (i := 22) (j := 0) rfl)).trans h_91)))))))
  have h_133 : Φ43 (sz + 23) = some (o_ 7 [.ref (sz + 24), .int 0]) := ((fset_fr hΦ30 (ne_off (x := sz) (i := 23) (j := 0) rfl)).trans ((fr13 (sz + 23) (lt_off (x := sz) (i := 23) (j := 26) rfl) (ne_off (x := sz) (i := 23) (j := 25) rfl)).trans ((fset_fr hΦ29 (ne_off (x := sz) (i := 23) (j := 25) rfl)).trans ((fset_fr hΦ28 (ne_off (x := sz) (i := 23) (j := 0) rfl)).trans h_98))))
  have h_134 : Φ43 (sz + 24) = some (ab_ G 600 (fun _ => 0)) := ((fset_fr hΦ30 (ne_off (x := sz) (i := 24) (j := 0) rfl)).trans ((fr13 (sz + 24) (lt_off (x := sz) (i := 24) (j := 26) rfl) (ne_off (x := sz) (i := 24) (j := 25) rfl)).trans ((fset_fr hΦ29 (ne_off (x := sz) (i := 24) (j := 25) rfl)).trans ((fset_fr hΦ28 (ne_off (x := sz) (i := 24) (j := 0) rfl)).trans h_99))))
  have h_135 : Φ43 (sz + 25) = some (o_ 7 [.ref (sz + 26), .int 0]) := ((fset_fr hΦ30 (ne_off (x := sz) (i := 25) (j := 0) rfl)).trans h_106)
  have h_136 : Φ43 (sz + 26) = some (ab_ G 600 (fun _ => 0)) := ((fset_fr hΦ30 (ne_off (x := sz) (i := 26) (j := 0) rfl)).trans h_107)
  exact z_ret_v B dX7_init_56 ⟨rfl, rfl, (fun b9 hb9 h9a => ((fset_fr hΦ30 (Nat.ne_of_lt hb9)).trans ((fr13 b9 (Nat.lt_of_lt_of_le hb9 (Nat.le_add_right sz 26)) (Nat.ne_of_lt (Nat.lt_of_lt_of_le hb9 (Nat.le_add_right sz 25)))).trans ((fset_fr hΦ29 (Nat.ne_of_lt (Nat.lt_of_lt_of_le hb9 (Nat.le_add_right sz 25)))).trans ((fset_fr hΦ28 (Nat.ne_of_lt hb9)).trans ((fr12 b9 (Nat.lt_of_lt_of_le hb9 (Nat.le_add_right sz 24)) (Nat.ne_of_lt (Nat.lt_of_lt_of_le hb9 (Nat.le_add_right sz 23)))).trans ((fset_fr hΦ27 (Nat.ne_of_lt (Nat.lt_of_lt_of_le hb9 (Nat.le_add_right sz 23)))).trans ((fset_fr hΦ26 (Nat.ne_of_lt hb9)).trans ((fr11 b9 (Nat.lt_of_lt_of_le hb9 (Nat.le_add_right sz 22)) (Nat.ne_of_lt (Nat.lt_of_lt_of_le hb9 (Nat.le_add_right sz 21)))).trans ((fset_fr hΦ25 (Nat.ne_of_lt (Nat.lt_of_lt_of_le hb9 (Nat.le_add_right sz 21)))).trans ((fset_fr hΦ24 (Nat.ne_of_lt hb9)).trans ((fr10 b9 (Nat.lt_of_lt_of_le hb9 (Nat.le_add_right sz 20)) (Nat.ne_of_lt (Nat.lt_of_lt_of_le hb9 (Nat.le_add_right sz 19)))).trans ((fset_fr hΦ23 (Nat.ne_of_lt (Nat.lt_of_lt_of_le hb9 (Nat.le_add_right sz 19)))).trans ((fset_fr hΦ22 (Nat.ne_of_lt hb9)).trans ((fr9 b9 (Nat.lt_of_lt_of_le hb9 (Nat.le_add_right sz 18)) (Nat.ne_of_lt (Nat.lt_of_lt_of_le hb9 (Nat.le_add_right sz 17)))).trans ((fset_fr hΦ21 (Nat.ne_of_lt (Nat.lt_of_lt_of_le hb9 (Nat.le_add_right sz 17)))).trans ((fset_fr hΦ20 (Nat.ne_of_lt hb9)).trans ((fr8 b9 (Nat.lt_of_lt_of_le hb9 (Nat.le_add_right sz 16)) (Nat.ne_of_lt (Nat.lt_of_lt_of_le hb9 (Nat.le_add_right sz 15)))).trans ((fset_fr hΦ19 (Nat.ne_of_lt (Nat.lt_of_lt_of_le hb9 (Nat.le_add_right sz 15)))).trans ((fset_fr hΦ18 (Nat.ne_of_lt hb9)).trans ((fr7 b9 (Nat.lt_of_lt_of_le hb9 (Nat.le_add_right sz 14)) (Nat.ne_of_lt (Nat.lt_of_lt_of_le hb9 (Nat.le_add_right sz 13)))).trans ((fset_fr hΦ17 (Nat.ne_of_lt (Nat.lt_of_lt_of_le hb9 (Nat.le_add_right sz 13)))).trans ((fset_fr hΦ16 (Nat.ne_of_lt hb9)).trans ((fr6 b9 (Nat.lt_of_lt_of_le hb9 (Nat.le_add_right sz 12)) (Nat.ne_of_lt (Nat.lt_of_lt_of_le hb9 (Nat.le_add_right sz 11)))).trans ((fset_fr hΦ15 (Nat.ne_of_lt (Nat.lt_of_lt_of_le hb9 (Nat.le_add_right sz 11)))).trans ((fset_fr hΦ14 (Nat.ne_of_lt hb9)).trans ((fr5 b9 (Nat.lt_of_lt_of_le hb9 (Nat.le_add_right sz 10)) (Nat.ne_of_lt (Nat.lt_of_lt_of_le hb9 (Nat.le_add_right sz 9)))).trans ((fset_fr hΦ13 (Nat.ne_of_lt (Nat.lt_of_lt_of_le hb9 (Nat.le_add_right sz 9)))).trans ((fset_fr hΦ12 (Nat.ne_of_lt hb9)).trans ((fr4 b9 (Nat.lt_of_lt_of_le hb9 (Nat.le_add_right sz 8)) (Nat.ne_of_lt (Nat.lt_of_lt_of_le hb9 (Nat.le_add_right sz 7)))).trans ((fset_fr hΦ11 (Nat.ne_of_lt (Nat.lt_of_lt_of_le hb9 (Nat.le_add_right sz 7)))).trans ((fset_fr hΦ10 (Nat.ne_of_lt hb9)).trans ((fr3 b9 (Nat.lt_of_lt_of_le hb9 (Nat.le_add_right sz 6)) (Nat.ne_of_lt (Nat.lt_of_lt_of_le hb9 (Nat.le_add_right sz 5)))).trans ((fset_fr hΦ9 (Nat.ne_of_lt (Nat.lt_of_lt_of_le hb9 (Nat.le_add_right sz 5)))).trans ((fset_fr hΦ8 (Nat.ne_of_lt hb9)).trans ((fr2 b9 (Nat.lt_of_lt_of_le hb9 (Nat.le_add_right sz 4)) (Nat.ne_of_lt (Nat.lt_of_lt_of_le hb9 (Nat.le_add_right sz 3)))).trans ((fset_fr hΦ7 (Nat.ne_of_lt (Nat.lt_of_lt_of_le hb9 (Nat.le_add_right sz 3)))).trans ((fset_fr hΦ6 (Nat.ne_of_lt hb9)).trans ((fr1 b9 (Nat.lt_of_lt_of_le hb9 (Nat.le_add_right sz 2)) (Nat.ne_of_lt (Nat.lt_of_lt_of_le hb9 (Nat.le_add_right sz 1)))).trans ((fset_fr hΦ5 (Nat.ne_of_lt (Nat.lt_of_lt_of_le hb9 (Nat.le_add_right sz 1)))).trans ((fset_fr hΦ4 h9a).trans ((fset_fr hΦ3 h9a).trans ((fset_fr hΦ2 h9a).trans ((fset_fr hΦ1 (Nat.ne_of_lt hb9)).trans rfl)))))))))))))))))))))))))))))))))))))))))))), h_110, h_109, h_111, h_112, h_113, h_114, h_115, h_116, h_117, h_118, h_119, h_120, h_121, h_122, h_123, h_124, h_125, h_126, h_127, h_128, h_129, h_130, h_131, h_132, h_133, h_134, h_135, h_136⟩

set_option maxHeartbeats 4000000 in
set_option maxRecDepth 100000 in
theorem c_X8_init (G : EnvG) (l : Launch) (Φ : Hm) (sz : Nat) (h : Nat) (cf : Nat) (qu : Nat) (hc0 : Φ h = some (o_ 10 [.null, .null, .null, .null, .int 0, .null, .null, .int 0, .long 0, .int 0])) (hna_h : G.2.2.2 ≤ h) : Ct G l yX8_init wsX8_init ({ frames := 2, cells := 5, slots := 370, locals := 35 }) 5 370 [.ref h, .ref cf, .ref qu] Φ sz (fun v Φ1 sz1 => v = none ∧ sz1 = sz + 5 ∧ (∀ b9 : Nat, b9 < sz → b9 ≠ h → Φ1 b9 = Φ b9) ∧ Φ1 h = some (o_ 10 [.ref cf, .ref qu, .ref sz, .ref (sz + 2), .int 0, .ref (sz + 3), .ref (sz + 4), .int 0, .long 0, .int 0]) ∧ Φ1 sz = some (o_ 7 [.ref (sz + 1), .int 0]) ∧ Φ1 (sz + 1) = some (ab_ G 348 (fun _ => 0)) ∧ Φ1 (sz + 2) = some (ai_ G 12 (fun _ => 0)) ∧ Φ1 (sz + 3) = some (ai_ G 4 (fun _ => 0)) ∧ Φ1 (sz + 4) = some (ai_ G 4 (fun _ => 0))) := by
  refine Ct.of (cc := cX8_init) (maxL := 3) (ret := none) (by decide) rfl (Nat.le_of_ble_eq_true rfl) ?_
  intro p9 e9 s9 m9 w9 t9 k9 B
  show Z p9 l e9 _ s9 m9 _ w9 t9 k9 _ G 3 0 [(0, .ref h), (1, .ref cf), (2, .ref qu)] [] Φ (sz) 0 0
  refine z_lt (fun hlt => ?_)
  refine z_aload_n B dX8_init_0 rfl 0 rfl ?_
  refine z_obj B (by decide +kernel) (by decide +kernel) (by decide +kernel) rfl ⟨Nat.le_of_ble_eq_true rfl, Nat.le_of_ble_eq_true rfl⟩ dX8_init_1 ?_
  refine z_aload_n B dX8_init_4 rfl 0 rfl ?_
  refine z_new (C := RX5) (T := TX5) (N := 2) (ci := 7) (fs := [.null, .int 0]) B (by decide +kernel) tyX5 tyX5_ok (by decide +kernel) (by decide +kernel) (by decide +kernel) rfl (by decide +kernel) (Nat.le_of_ble_eq_true rfl) (Nat.le_of_ble_eq_true rfl) dX8_init_5 (fun Φ1 hΦ1 hz1 => ?_)
  have h_1 : Φ1 sz = some (o_ 7 [.null, .int 0]) := fset_at hΦ1
  refine z_dup B dX8_init_8 rfl ?_
  refine z_sipush (v := 348) B dX8_init_9 rfl ?_
  refine z_callI (As := [.int 348]) (rest := [.ref sz, .ref h]) B (c_X5_init_348 G l Φ1 (sz + 1) sz h_1 hz1) (cwI 1 B.1.2.2.2.2 gX8_init_X5_init rfl rfl rfl (B.1.2.2.2.2 _ (by decide +kernel)) (B.1.2.2.2.2 _ (by decide +kernel)) (B.1.2.2.2.2 _ (by decide +kernel)) rfl (by decide +kernel) ⟨Nat.le_of_ble_eq_true rfl, Nat.le_of_ble_eq_true rfl⟩) rfl rfl (Nat.le_of_ble_eq_true rfl) dX8_init_12 ⟨Nat.le_of_ble_eq_true rfl, Nat.le_of_ble_eq_true rfl⟩ (fun v1 Φ2 sz1 st1 hp1 hs1 => ?_)
  obtain ⟨rfl, hq1, fr1, h_2, h_3⟩ := hp1
  replace hq1 : sz1 = sz + 2 := hq1
  subst sz1
  replace hs1 : st1 = [.ref sz, .ref h] := hs1
  subst st1
  have h_4 : Φ2 sz = some (o_ 7 [.ref (sz + 1), .int 0]) := h_2
  have h_5 : Φ2 (sz + 1) = some (ab_ G 348 (fun _ => 0)) := h_3
  have h_6 : Φ2 h = some (o_ 10 [.null, .null, .null, .null, .int 0, .null, .null, .int 0, .long 0, .int 0]) := ((fr1 h (Nat.lt_of_lt_of_le (hlt _ _ hc0) (Nat.le_add_right sz 1)) (Nat.ne_of_lt (hlt _ _ hc0))).trans ((fset_fr hΦ1 (Nat.ne_of_lt (hlt _ _ hc0))).trans hc0))
  refine z_put (ref := "FlowExporter$Sender") (C := RX8) (T := TX8) (N := 10) (ci := 10) (v := .ref sz) B (by decide +kernel) tyX8 tyX8_ok nmX8 rfl 2 (by decide) (by decide +kernel) rfl (Or.inr ⟨rfl, rfl, rfl⟩) h_6 hna_h rfl rfl (Nat.le_of_ble_eq_true rfl) dX8_init_15 (fun Φ3 hΦ2 => ?_)
  have h_7 : Φ3 h = some (o_ 10 [.null, .null, .ref sz, .null, .int 0, .null, .null, .int 0, .long 0, .int 0]) := fset_at hΦ2
  refine z_aload_n B dX8_init_18 rfl 0 rfl ?_
  refine z_bipush (v := 12) B dX8_init_19 rfl ?_
  refine z_newa (atype := .int) (ty := .int) (t := 0) (N' := 12) (a0 := (12, .inl (fun _ => 0))) B (by decide +kernel) rfl rfl (fun _ h9 => by cases h9) (fun _ => rfl) (by decide) rfl (Nat.le_of_ble_eq_true rfl) (Nat.le_of_ble_eq_true rfl) (Nat.le_of_ble_eq_true rfl) dX8_init_21 (fun Φ4 hΦ3 hz2 => ?_)
  have h_8 : Φ4 (sz + 2) = some (ai_ G 12 (fun _ => 0)) := fset_at hΦ3
  have h_9 : Φ4 h = some (o_ 10 [.null, .null, .ref sz, .null, .int 0, .null, .null, .int 0, .long 0, .int 0]) := ((fset_fr hΦ3 (Nat.ne_of_lt (Nat.lt_of_lt_of_le (hlt _ _ hc0) (Nat.le_add_right sz 2)))).trans h_7)
  refine z_put (ref := "FlowExporter$Sender") (C := RX8) (T := TX8) (N := 10) (ci := 10) (v := .ref (sz + 2)) B (by decide +kernel) tyX8 tyX8_ok nmX8 rfl 3 (by decide) (by decide +kernel) rfl (Or.inr ⟨rfl, rfl, rfl⟩) h_9 hna_h rfl rfl (Nat.le_of_ble_eq_true rfl) dX8_init_23 (fun Φ5 hΦ4 => ?_)
  have h_10 : Φ5 h = some (o_ 10 [.null, .null, .ref sz, .ref (sz + 2), .int 0, .null, .null, .int 0, .long 0, .int 0]) := fset_at hΦ4
  refine z_aload_n B dX8_init_26 rfl 0 rfl ?_
  refine z_iconst (v := 0) B dX8_init_27 rfl ?_
  refine z_put (ref := "FlowExporter$Sender") (C := RX8) (T := TX8) (N := 10) (ci := 10) (v := .int 0) B (by decide +kernel) tyX8 tyX8_ok nmX8 rfl 4 (by decide) (by decide +kernel) rfl (Or.inl rfl) h_10 hna_h rfl rfl (Nat.le_of_ble_eq_true rfl) dX8_init_28 (fun Φ6 hΦ5 => ?_)
  have h_11 : Φ6 h = some (o_ 10 [.null, .null, .ref sz, .ref (sz + 2), .int 0, .null, .null, .int 0, .long 0, .int 0]) := fset_at hΦ5
  refine z_aload_n B dX8_init_31 rfl 0 rfl ?_
  refine z_iconst (v := 4) B dX8_init_32 rfl ?_
  refine z_newa (atype := .int) (ty := .int) (t := 0) (N' := 4) (a0 := (4, .inl (fun _ => 0))) B (by decide +kernel) rfl rfl (fun _ h9 => by cases h9) (fun _ => rfl) (by decide) rfl (Nat.le_of_ble_eq_true rfl) (Nat.le_of_ble_eq_true rfl) (Nat.le_of_ble_eq_true rfl) dX8_init_33 (fun Φ7 hΦ6 hz3 => ?_)
  have h_12 : Φ7 (sz + 3) = some (ai_ G 4 (fun _ => 0)) := fset_at hΦ6
  have h_13 : Φ7 h = some (o_ 10 [.null, .null, .ref sz, .ref (sz + 2), .int 0, .null, .null, .int 0, .long 0, .int 0]) := ((fset_fr hΦ6 (Nat.ne_of_lt (Nat.lt_of_lt_of_le (hlt _ _ hc0) (Nat.le_add_right sz 3)))).trans h_11)
  refine z_put (ref := "FlowExporter$Sender") (C := RX8) (T := TX8) (N := 10) (ci := 10) (v := .ref (sz + 3)) B (by decide +kernel) tyX8 tyX8_ok nmX8 rfl 5 (by decide) (by decide +kernel) rfl (Or.inr ⟨rfl, rfl, rfl⟩) h_13 hna_h rfl rfl (Nat.le_of_ble_eq_true rfl) dX8_init_35 (fun Φ8 hΦ7 => ?_)
  have h_14 : Φ8 h = some (o_ 10 [.null, .null, .ref sz, .ref (sz + 2), .int 0, .ref (sz + 3), .null, .int 0, .long 0, .int 0]) := fset_at hΦ7
  refine z_aload_n B dX8_init_38 rfl 0 rfl ?_
  refine z_iconst (v := 4) B dX8_init_39 rfl ?_
  refine z_newa (atype := .int) (ty := .int) (t := 0) (N' := 4) (a0 := (4, .inl (fun _ => 0))) B (by decide +kernel) rfl rfl (fun _ h9 => by cases h9) (fun _ => rfl) (by decide) rfl (Nat.le_of_ble_eq_true rfl) (Nat.le_of_ble_eq_true rfl) (Nat.le_of_ble_eq_true rfl) dX8_init_40 (fun Φ9 hΦ8 hz4 => ?_)
  have h_15 : Φ9 (sz + 4) = some (ai_ G 4 (fun _ => 0)) := fset_at hΦ8
  have h_16 : Φ9 h = some (o_ 10 [.null, .null, .ref sz, .ref (sz + 2), .int 0, .ref (sz + 3), .null, .int 0, .long 0, .int 0]) := ((fset_fr hΦ8 (Nat.ne_of_lt (Nat.lt_of_lt_of_le (hlt _ _ hc0) (Nat.le_add_right sz 4)))).trans h_14)
  refine z_put (ref := "FlowExporter$Sender") (C := RX8) (T := TX8) (N := 10) (ci := 10) (v := .ref (sz + 4)) B (by decide +kernel) tyX8 tyX8_ok nmX8 rfl 6 (by decide) (by decide +kernel) rfl (Or.inr ⟨rfl, rfl, rfl⟩) h_16 hna_h rfl rfl (Nat.le_of_ble_eq_true rfl) dX8_init_42 (fun Φ10 hΦ9 => ?_)
  have h_17 : Φ10 h = some (o_ 10 [.null, .null, .ref sz, .ref (sz + 2), .int 0, .ref (sz + 3), .ref (sz + 4), .int 0, .long 0, .int 0]) := fset_at hΦ9
  refine z_aload_n B dX8_init_45 rfl 0 rfl ?_
  refine z_iconst (v := 0) B dX8_init_46 rfl ?_
  refine z_put (ref := "FlowExporter$Sender") (C := RX8) (T := TX8) (N := 10) (ci := 10) (v := .int 0) B (by decide +kernel) tyX8 tyX8_ok nmX8 rfl 7 (by decide) (by decide +kernel) rfl (Or.inl rfl) h_17 hna_h rfl rfl (Nat.le_of_ble_eq_true rfl) dX8_init_47 (fun Φ11 hΦ10 => ?_)
  have h_18 : Φ11 h = some (o_ 10 [.null, .null, .ref sz, .ref (sz + 2), .int 0, .ref (sz + 3), .ref (sz + 4), .int 0, .long 0, .int 0]) := fset_at hΦ10
  refine z_aload_n B dX8_init_50 rfl 0 rfl ?_
  refine z_lconst (v := 0) B dX8_init_51 rfl ?_
  refine z_put (ref := "FlowExporter$Sender") (C := RX8) (T := TX8) (N := 10) (ci := 10) (v := .long 0) B (by decide +kernel) tyX8 tyX8_ok nmX8 rfl 8 (by decide) (by decide +kernel) rfl (Or.inl rfl) h_18 hna_h rfl rfl (Nat.le_of_ble_eq_true rfl) dX8_init_52 (fun Φ12 hΦ11 => ?_)
  have h_19 : Φ12 h = some (o_ 10 [.null, .null, .ref sz, .ref (sz + 2), .int 0, .ref (sz + 3), .ref (sz + 4), .int 0, .long 0, .int 0]) := fset_at hΦ11
  refine z_aload_n B dX8_init_55 rfl 0 rfl ?_
  refine z_iconst (v := 0) B dX8_init_56 rfl ?_
  refine z_put (ref := "FlowExporter$Sender") (C := RX8) (T := TX8) (N := 10) (ci := 10) (v := .int 0) B (by decide +kernel) tyX8 tyX8_ok nmX8 rfl 9 (by decide) (by decide +kernel) rfl (Or.inl rfl) h_19 hna_h rfl rfl (Nat.le_of_ble_eq_true rfl) dX8_init_57 (fun Φ13 hΦ12 => ?_)
  have h_20 : Φ13 h = some (o_ 10 [.null, .null, .ref sz, .ref (sz + 2), .int 0, .ref (sz + 3), .ref (sz + 4), .int 0, .long 0, .int 0]) := fset_at hΦ12
  refine z_aload_n B dX8_init_60 rfl 0 rfl ?_
  refine z_aload_n B dX8_init_61 rfl 1 rfl ?_
  refine z_put (ref := "FlowExporter$Sender") (C := RX8) (T := TX8) (N := 10) (ci := 10) (v := .ref cf) B (by decide +kernel) tyX8 tyX8_ok nmX8 rfl 0 (by decide) (by decide +kernel) rfl (Or.inr ⟨rfl, rfl, rfl⟩) h_20 hna_h rfl rfl (Nat.le_of_ble_eq_true rfl) dX8_init_62 (fun Φ14 hΦ13 => ?_)
  have h_21 : Φ14 h = some (o_ 10 [.ref cf, .null, .ref sz, .ref (sz + 2), .int 0, .ref (sz + 3), .ref (sz + 4), .int 0, .long 0, .int 0]) := fset_at hΦ13
  refine z_aload_n B dX8_init_65 rfl 0 rfl ?_
  refine z_aload_n B dX8_init_66 rfl 2 rfl ?_
  refine z_put (ref := "FlowExporter$Sender") (C := RX8) (T := TX8) (N := 10) (ci := 10) (v := .ref qu) B (by decide +kernel) tyX8 tyX8_ok nmX8 rfl 1 (by decide) (by decide +kernel) rfl (Or.inr ⟨rfl, rfl, rfl⟩) h_21 hna_h rfl rfl (Nat.le_of_ble_eq_true rfl) dX8_init_67 (fun Φ15 hΦ14 => ?_)
  have h_22 : Φ15 h = some (o_ 10 [.ref cf, .ref qu, .ref sz, .ref (sz + 2), .int 0, .ref (sz + 3), .ref (sz + 4), .int 0, .long 0, .int 0]) := fset_at hΦ14
  have h_23 : Φ15 sz = some (o_ 7 [.ref (sz + 1), .int 0]) := ((fset_fr hΦ14 (Nat.ne_of_gt (hlt _ _ hc0))).trans ((fset_fr hΦ13 (Nat.ne_of_gt (hlt _ _ hc0))).trans ((fset_fr hΦ12 (Nat.ne_of_gt (hlt _ _ hc0))).trans ((fset_fr hΦ11 (Nat.ne_of_gt (hlt _ _ hc0))).trans ((fset_fr hΦ10 (Nat.ne_of_gt (hlt _ _ hc0))).trans ((fset_fr hΦ9 (Nat.ne_of_gt (hlt _ _ hc0))).trans ((fset_fr hΦ8 (ne_off (x := sz) (i := 0) (j := 4) rfl)).trans ((fset_fr hΦ7 (Nat.ne_of_gt (hlt _ _ hc0))).trans ((fset_fr hΦ6 (ne_off (x := sz) (i := 0) (j := 3) rfl)).trans ((fset_fr hΦ5 (Nat.ne_of_gt (hlt _ _ hc0))).trans ((fset_fr hΦ4 (Nat.ne_of_gt (hlt _ _ hc0))).trans ((fset_fr hΦ3 (ne_off (x := sz) (i := 0) (j := 2) rfl)).trans ((fset_fr hΦ2 (Nat.ne_of_gt (hlt _ _ hc0))).trans h_4)))))))))))))
  have h_24 : Φ15 (sz + 1) = some (ab_ G 348 (fun _ => 0)) := ((fset_fr hΦ14 (Nat.ne_of_gt (Nat.lt_of_lt_of_le (hlt _ _ hc0) (Nat.le_add_right sz 1)))).trans ((fset_fr hΦ13 (Nat.ne_of_gt (Nat.lt_of_lt_of_le (hlt _ _ hc0) (Nat.le_add_right sz 1)))).trans ((fset_fr hΦ12 (Nat.ne_of_gt (Nat.lt_of_lt_of_le (hlt _ _ hc0) (Nat.le_add_right sz 1)))).trans ((fset_fr hΦ11 (Nat.ne_of_gt (Nat.lt_of_lt_of_le (hlt _ _ hc0) (Nat.le_add_right sz 1)))).trans ((fset_fr hΦ10 (Nat.ne_of_gt (Nat.lt_of_lt_of_le (hlt _ _ hc0) (Nat.le_add_right sz 1)))).trans ((fset_fr hΦ9 (Nat.ne_of_gt (Nat.lt_of_lt_of_le (hlt _ _ hc0) (Nat.le_add_right sz 1)))).trans ((fset_fr hΦ8 (ne_off (x := sz) (i := 1) (j := 4) rfl)).trans ((fset_fr hΦ7 (Nat.ne_of_gt (Nat.lt_of_lt_of_le (hlt _ _ hc0) (Nat.le_add_right sz 1)))).trans ((fset_fr hΦ6 (ne_off (x := sz) (i := 1) (j := 3) rfl)).trans ((fset_fr hΦ5 (Nat.ne_of_gt (Nat.lt_of_lt_of_le (hlt _ _ hc0) (Nat.le_add_right sz 1)))).trans ((fset_fr hΦ4 (Nat.ne_of_gt (Nat.lt_of_lt_of_le (hlt _ _ hc0) (Nat.le_add_right sz 1)))).trans ((fset_fr hΦ3 (ne_off (x := sz) (i := 1) (j := 2) rfl)).trans ((fset_fr hΦ2 (Nat.ne_of_gt (Nat.lt_of_lt_of_le (hlt _ _ hc0) (Nat.le_add_right sz 1)))).trans h_5)))))))))))))
  have h_25 : Φ15 (sz + 2) = some (ai_ G 12 (fun _ => 0)) := ((fset_fr hΦ14 (Nat.ne_of_gt (Nat.lt_of_lt_of_le (hlt _ _ hc0) (Nat.le_add_right sz 2)))).trans ((fset_fr hΦ13 (Nat.ne_of_gt (Nat.lt_of_lt_of_le (hlt _ _ hc0) (Nat.le_add_right sz 2)))).trans ((fset_fr hΦ12 (Nat.ne_of_gt (Nat.lt_of_lt_of_le (hlt _ _ hc0) (Nat.le_add_right sz 2)))).trans ((fset_fr hΦ11 (Nat.ne_of_gt (Nat.lt_of_lt_of_le (hlt _ _ hc0) (Nat.le_add_right sz 2)))).trans ((fset_fr hΦ10 (Nat.ne_of_gt (Nat.lt_of_lt_of_le (hlt _ _ hc0) (Nat.le_add_right sz 2)))).trans ((fset_fr hΦ9 (Nat.ne_of_gt (Nat.lt_of_lt_of_le (hlt _ _ hc0) (Nat.le_add_right sz 2)))).trans ((fset_fr hΦ8 (ne_off (x := sz) (i := 2) (j := 4) rfl)).trans ((fset_fr hΦ7 (Nat.ne_of_gt (Nat.lt_of_lt_of_le (hlt _ _ hc0) (Nat.le_add_right sz 2)))).trans ((fset_fr hΦ6 (ne_off (x := sz) (i := 2) (j := 3) rfl)).trans ((fset_fr hΦ5 (Nat.ne_of_gt (Nat.lt_of_lt_of_le (hlt _ _ hc0) (Nat.le_add_right sz 2)))).trans ((fset_fr hΦ4 (Nat.ne_of_gt (Nat.lt_of_lt_of_le (hlt _ _ hc0) (Nat.le_add_right sz 2)))).trans h_8)))))))))))
  have h_26 : Φ15 (sz + 3) = some (ai_ G 4 (fun _ => 0)) := ((fset_fr hΦ14 (Nat.ne_of_gt (Nat.lt_of_lt_of_le (hlt _ _ hc0) (Nat.le_add_right sz 3)))).trans ((fset_fr hΦ13 (Nat.ne_of_gt (Nat.lt_of_lt_of_le (hlt _ _ hc0) (Nat.le_add_right sz 3)))).trans ((fset_fr hΦ12 (Nat.ne_of_gt (Nat.lt_of_lt_of_le (hlt _ _ hc0) (Nat.le_add_right sz 3)))).trans ((fset_fr hΦ11 (Nat.ne_of_gt (Nat.lt_of_lt_of_le (hlt _ _ hc0) (Nat.le_add_right sz 3)))).trans ((fset_fr hΦ10 (Nat.ne_of_gt (Nat.lt_of_lt_of_le (hlt _ _ hc0) (Nat.le_add_right sz 3)))).trans ((fset_fr hΦ9 (Nat.ne_of_gt (Nat.lt_of_lt_of_le (hlt _ _ hc0) (Nat.le_add_right sz 3)))).trans ((fset_fr hΦ8 (ne_off (x := sz) (i := 3) (j := 4) rfl)).trans ((fset_fr hΦ7 (Nat.ne_of_gt (Nat.lt_of_lt_of_le (hlt _ _ hc0) (Nat.le_add_right sz 3)))).trans h_12))))))))
  have h_27 : Φ15 (sz + 4) = some (ai_ G 4 (fun _ => 0)) := ((fset_fr hΦ14 (Nat.ne_of_gt (Nat.lt_of_lt_of_le (hlt _ _ hc0) (Nat.le_add_right sz 4)))).trans ((fset_fr hΦ13 (Nat.ne_of_gt (Nat.lt_of_lt_of_le (hlt _ _ hc0) (Nat.le_add_right sz 4)))).trans ((fset_fr hΦ12 (Nat.ne_of_gt (Nat.lt_of_lt_of_le (hlt _ _ hc0) (Nat.le_add_right sz 4)))).trans ((fset_fr hΦ11 (Nat.ne_of_gt (Nat.lt_of_lt_of_le (hlt _ _ hc0) (Nat.le_add_right sz 4)))).trans ((fset_fr hΦ10 (Nat.ne_of_gt (Nat.lt_of_lt_of_le (hlt _ _ hc0) (Nat.le_add_right sz 4)))).trans ((fset_fr hΦ9 (Nat.ne_of_gt (Nat.lt_of_lt_of_le (hlt _ _ hc0) (Nat.le_add_right sz 4)))).trans h_15))))))
  exact z_ret_v B dX8_init_70 ⟨rfl, rfl, (fun b9 hb9 h9a => ((fset_fr hΦ14 h9a).trans ((fset_fr hΦ13 h9a).trans ((fset_fr hΦ12 h9a).trans ((fset_fr hΦ11 h9a).trans ((fset_fr hΦ10 h9a).trans ((fset_fr hΦ9 h9a).trans ((fset_fr hΦ8 (Nat.ne_of_lt (Nat.lt_of_lt_of_le hb9 (Nat.le_add_right sz 4)))).trans ((fset_fr hΦ7 h9a).trans ((fset_fr hΦ6 (Nat.ne_of_lt (Nat.lt_of_lt_of_le hb9 (Nat.le_add_right sz 3)))).trans ((fset_fr hΦ5 h9a).trans ((fset_fr hΦ4 h9a).trans ((fset_fr hΦ3 (Nat.ne_of_lt (Nat.lt_of_lt_of_le hb9 (Nat.le_add_right sz 2)))).trans ((fset_fr hΦ2 h9a).trans ((fr1 b9 (Nat.lt_of_lt_of_le hb9 (Nat.le_add_right sz 1)) (Nat.ne_of_lt hb9)).trans ((fset_fr hΦ1 (Nat.ne_of_lt hb9)).trans rfl)))))))))))))))), h_22, h_23, h_24, h_25, h_26, h_27⟩

set_option maxHeartbeats 4000000 in
set_option maxRecDepth 100000 in
theorem c_X8_emptyPending (G : EnvG) (l : Launch) (Φ : Hm) (sz : Nat) (h : Nat) (cf : Nat) (qu : Nat) (pe : Nat) (pt : Nat) (lm : Nat) (lt : Nat) (pr : Int32) (sm : Int32) (sr : Int64) (sq : Int32) (pf : Nat) (pl : Int32) (hc0 : Φ h = some (o_ 10 [.ref cf, .ref qu, .ref pe, .ref pt, .int pr, .ref lm, .ref lt, .int sm, .long sr, .int sq])) (hc1 : Φ pe = some (o_ 7 [.ref pf, .int pl])) (hna_h : G.2.2.2 ≤ h) (hna_pe : G.2.2.2 ≤ pe) : Ct G l yX8_emptyPending wsX8_emptyPending ({ frames := 0, cells := 0, slots := 0, locals := 0 }) 0 0 [.ref h] Φ sz (fun v Φ1 sz1 => v = none ∧ sz1 = sz ∧ (∀ b9 : Nat, b9 ≠ h → b9 ≠ pe → Φ1 b9 = Φ b9) ∧ Φ1 h = some (o_ 10 [.ref cf, .ref qu, .ref pe, .ref pt, .int 0, .ref lm, .ref lt, .int sm, .long sr, .int sq]) ∧ Φ1 pe = some (o_ 7 [.ref pf, .int 0])) := by
  refine Ct.of (cc := cX8_emptyPending) (maxL := 1) (ret := none) (by decide) rfl (Nat.le_of_ble_eq_true rfl) ?_
  intro p9 e9 s9 m9 w9 t9 k9 B
  show Z p9 l e9 _ s9 m9 _ w9 t9 k9 _ G 1 0 [(0, .ref h)] [] Φ (sz) 0 0
  refine z_aload_n B dX8_emptyPending_0 rfl 0 rfl ?_
  refine z_get (ref := "FlowExporter$Sender") (C := RX8) (T := TX8) (N := 10) (ci := 10) (v := .ref pe) B (by decide +kernel) rfl 2 (by decide) (by decide +kernel) rfl hc0 rfl dX8_emptyPending_1 ?_
  refine z_iconst (v := 0) B dX8_emptyPending_4 rfl ?_
  refine z_put (ref := "FlowExporter$Message") (C := RX5) (T := TX5) (N := 2) (ci := 7) (v := .int 0) B (by decide +kernel) tyX5 tyX5_ok nmX5 rfl 1 (by decide) (by decide +kernel) rfl (Or.inl rfl) hc1 hna_pe rfl rfl (Nat.le_of_ble_eq_true rfl) dX8_emptyPending_5 (fun Φ1 hΦ1 => ?_)
  have h_1 : Φ1 pe = some (o_ 7 [.ref pf, .int 0]) := fset_at hΦ1
  refine z_aload_n B dX8_emptyPending_8 rfl 0 rfl ?_
  refine z_iconst (v := 0) B dX8_emptyPending_9 rfl ?_
  have h_2 : Φ1 h = some (o_ 10 [.ref cf, .ref qu, .ref pe, .ref pt, .int pr, .ref lm, .ref lt, .int sm, .long sr, .int sq]) := ((fset_fr hΦ1 (hm_ne hc0 hc1 (fun h9 => by cases h9))).trans hc0)
  refine z_put (ref := "FlowExporter$Sender") (C := RX8) (T := TX8) (N := 10) (ci := 10) (v := .int 0) B (by decide +kernel) tyX8 tyX8_ok nmX8 rfl 4 (by decide) (by decide +kernel) rfl (Or.inl rfl) h_2 hna_h rfl rfl (Nat.le_of_ble_eq_true rfl) dX8_emptyPending_10 (fun Φ2 hΦ2 => ?_)
  have h_3 : Φ2 h = some (o_ 10 [.ref cf, .ref qu, .ref pe, .ref pt, .int 0, .ref lm, .ref lt, .int sm, .long sr, .int sq]) := fset_at hΦ2
  have h_4 : Φ2 pe = some (o_ 7 [.ref pf, .int 0]) := ((fset_fr hΦ2 (hm_ne hc1 hc0 (fun h9 => by cases h9))).trans h_1)
  exact z_ret_v B dX8_emptyPending_13 ⟨rfl, rfl, (fun b9 h9a h9b => ((fset_fr hΦ2 h9a).trans ((fset_fr hΦ1 h9b).trans rfl))), h_3, h_4⟩

set_option maxHeartbeats 4000000 in
set_option maxRecDepth 100000 in
theorem c_X8_forgetTemplates (G : EnvG) (l : Launch) (Φ : Hm) (sz : Nat) (h : Nat) (cf : Nat) (qu : Nat) (pe : Nat) (pt : Nat) (lm : Nat) (lt : Nat) (pr : Int32) (sm : Int32) (sr : Int64) (sq : Int32) (lmr : Nat → Int32) (hc0 : Φ h = some (o_ 10 [.ref cf, .ref qu, .ref pe, .ref pt, .int pr, .ref lm, .ref lt, .int sm, .long sr, .int sq])) (hc1 : Φ lm = some (ai_ G 4 lmr)) (hna_lm : G.2.2.2 ≤ lm) : Ct G l yX8_forgetTemplates wsX8_forgetTemplates ({ frames := 1, cells := 0, slots := 0, locals := 23 }) 0 0 [.ref h] Φ sz (fun v Φ1 sz1 => v = none ∧ sz1 = sz ∧ (∀ b9 : Nat, b9 ≠ lm → Φ1 b9 = Φ b9) ∧ Φ1 lm = some (ai_ G 4 (fun _ => 0))) := by
  refine Ct.of (cc := cX8_forgetTemplates) (maxL := 1) (ret := none) (by decide) rfl (Nat.le_of_ble_eq_true rfl) ?_
  intro p9 e9 s9 m9 w9 t9 k9 B
  show Z p9 l e9 _ s9 m9 _ w9 t9 k9 _ G 1 0 [(0, .ref h)] [] Φ (sz) 0 0
  refine z_aload_n B dX8_forgetTemplates_0 rfl 0 rfl ?_
  refine z_get (ref := "FlowExporter$Sender") (C := RX8) (T := TX8) (N := 10) (ci := 10) (v := .ref lm) B (by decide +kernel) rfl 5 (by decide) (by decide +kernel) rfl hc0 rfl dX8_forgetTemplates_1 ?_
  refine z_iconst (v := 0) B dX8_forgetTemplates_4 rfl ?_
  refine z_callS (As := [.ref lm, .int 0]) (rest := []) B (c_J7_fill_53178 G l Φ sz lm 4 lmr 0 hc1 hna_lm (by decide)) (va_cwS 2 B.1.2.2.2.2 gX8_forgetTemplates_J7_fill_53178 rfl rfl rfl (by decide +kernel) ⟨Nat.le_of_ble_eq_true rfl, Nat.le_of_ble_eq_true rfl⟩) rfl rfl (Nat.le_of_ble_eq_true rfl) dX8_forgetTemplates_5 ⟨Nat.le_of_ble_eq_true rfl, Nat.le_of_ble_eq_true rfl⟩ (fun v1 Φ1 sz1 st1 hp1 hs1 => ?_)
  obtain ⟨rfl, hq1, fr1, h_1⟩ := hp1
  replace hq1 : sz1 = sz := hq1
  subst sz1
  replace hs1 : st1 = [] := hs1
  subst st1
  have h_2 : Φ1 lm = some (ai_ G 4 (fun _ => 0)) := h_1
  exact z_ret_v B dX8_forgetTemplates_8 ⟨rfl, rfl, (fun b9 h9a => ((fr1 b9 h9a).trans rfl)), h_2⟩

set_option maxHeartbeats 4000000 in
set_option maxRecDepth 100000 in
theorem c_X8_restart (G : EnvG) (l : Launch) (Φ : Hm) (sz : Nat) (h : Nat) (cf : Nat) (qu : Nat) (pe : Nat) (pt : Nat) (lm : Nat) (lt : Nat) (pr : Int32) (sm : Int32) (sr : Int64) (sq : Int32) (pf : Nat) (pl : Int32) (lmr : Nat → Int32) (hc0 : Φ h = some (o_ 10 [.ref cf, .ref qu, .ref pe, .ref pt, .int pr, .ref lm, .ref lt, .int sm, .long sr, .int sq])) (hc1 : Φ pe = some (o_ 7 [.ref pf, .int pl])) (hc2 : Φ lm = some (ai_ G 4 lmr)) (hna_h : G.2.2.2 ≤ h) (hna_pe : G.2.2.2 ≤ pe) (hna_lm : G.2.2.2 ≤ lm) : Ct G l yX8_restart wsX8_restart ({ frames := 2, cells := 0, slots := 0, locals := 43 }) 0 0 [.ref h] Φ sz (fun v Φ1 sz1 => v = none ∧ sz1 = sz ∧ (∀ b9 : Nat, b9 ≠ h → b9 ≠ lm → b9 ≠ pe → Φ1 b9 = Φ b9) ∧ Φ1 h = some (o_ 10 [.ref cf, .ref qu, .ref pe, .ref pt, .int 0, .ref lm, .ref lt, .int sm, .long sr, .int 0]) ∧ Φ1 lm = some (ai_ G 4 (fun _ => 0)) ∧ Φ1 pe = some (o_ 7 [.ref pf, .int 0])) := by
  refine Ct.of (cc := cX8_restart) (maxL := 1) (ret := none) (by decide) rfl (Nat.le_of_ble_eq_true rfl) ?_
  intro p9 e9 s9 m9 w9 t9 k9 B
  show Z p9 l e9 _ s9 m9 _ w9 t9 k9 _ G 1 0 [(0, .ref h)] [] Φ (sz) 0 0
  refine z_aload_n B dX8_restart_0 rfl 0 rfl ?_
  refine z_callV (As := []) (rest := []) B (c_X8_emptyPending G l Φ sz h cf qu pe pt lm lt pr sm sr sq pf pl hc0 hc1 hna_h hna_pe) (cwV 0 B.1.2.2.2.2 gX8_restart_X8_emptyPending rfl rfl rfl (by decide +kernel) ⟨Nat.le_of_ble_eq_true rfl, Nat.le_of_ble_eq_true rfl⟩) hc0 rfl rfl rfl rfl (Nat.le_of_ble_eq_true rfl) dX8_restart_1 ⟨Nat.le_of_ble_eq_true rfl, Nat.le_of_ble_eq_true rfl⟩ (fun v1 Φ1 sz1 st1 hp1 hs1 => ?_)
  obtain ⟨rfl, hq1, fr1, h_1, h_2⟩ := hp1
  replace hq1 : sz1 = sz := hq1
  subst sz1
  replace hs1 : st1 = [] := hs1
  subst st1
  have h_3 : Φ1 h = some (o_ 10 [.ref cf, .ref qu, .ref pe, .ref pt, .int 0, .ref lm, .ref lt, .int sm, .long sr, .int sq]) := h_1
  have h_4 : Φ1 pe = some (o_ 7 [.ref pf, .int 0]) := h_2
  refine z_aload_n B dX8_restart_4 rfl 0 rfl ?_
  refine z_iconst (v := 0) B dX8_restart_5 rfl ?_
  refine z_put (ref := "FlowExporter$Sender") (C := RX8) (T := TX8) (N := 10) (ci := 10) (v := .int 0) B (by decide +kernel) tyX8 tyX8_ok nmX8 rfl 9 (by decide) (by decide +kernel) rfl (Or.inl rfl) h_3 hna_h rfl rfl (Nat.le_of_ble_eq_true rfl) dX8_restart_6 (fun Φ2 hΦ1 => ?_)
  have h_5 : Φ2 h = some (o_ 10 [.ref cf, .ref qu, .ref pe, .ref pt, .int 0, .ref lm, .ref lt, .int sm, .long sr, .int 0]) := fset_at hΦ1
  refine z_aload_n B dX8_restart_9 rfl 0 rfl ?_
  have h_6 : Φ2 lm = some (ai_ G 4 lmr) := ((fset_fr hΦ1 (hm_ne hc2 hc0 (fun h9 => by cases h9))).trans ((fr1 lm (hm_ne hc2 hc0 (fun h9 => by cases h9)) (hm_ne hc2 hc1 (fun h9 => by cases h9))).trans hc2))
  refine z_callV (As := []) (rest := []) B (c_X8_forgetTemplates G l Φ2 sz h cf qu pe pt lm lt 0 sm sr 0 lmr h_5 h_6 hna_lm) (cwV 0 B.1.2.2.2.2 gX8_restart_X8_forgetTemplates rfl rfl rfl (by decide +kernel) ⟨Nat.le_of_ble_eq_true rfl, Nat.le_of_ble_eq_true rfl⟩) h_5 rfl rfl rfl rfl (Nat.le_of_ble_eq_true rfl) dX8_restart_10 ⟨Nat.le_of_ble_eq_true rfl, Nat.le_of_ble_eq_true rfl⟩ (fun v2 Φ3 sz2 st2 hp2 hs2 => ?_)
  obtain ⟨rfl, hq2, fr2, h_7⟩ := hp2
  replace hq2 : sz2 = sz := hq2
  subst sz2
  replace hs2 : st2 = [] := hs2
  subst st2
  have h_8 : Φ3 lm = some (ai_ G 4 (fun _ => 0)) := h_7
  have h_9 : Φ3 h = some (o_ 10 [.ref cf, .ref qu, .ref pe, .ref pt, .int 0, .ref lm, .ref lt, .int sm, .long sr, .int 0]) := ((fr2 h (hm_ne hc0 hc2 (fun h9 => by cases h9))).trans h_5)
  have h_10 : Φ3 pe = some (o_ 7 [.ref pf, .int 0]) := ((fr2 pe (hm_ne hc1 hc2 (fun h9 => by cases h9))).trans ((fset_fr hΦ1 (hm_ne hc1 hc0 (fun h9 => by cases h9))).trans h_4))
  exact z_ret_v B dX8_restart_13 ⟨rfl, rfl, (fun b9 h9a h9b h9c => ((fr2 b9 h9b).trans ((fset_fr hΦ1 h9a).trans ((fr1 b9 h9a h9c).trans rfl)))), h_9, h_8, h_10⟩

set_option maxHeartbeats 4000000 in
set_option maxRecDepth 100000 in
theorem c_X8_clear (G : EnvG) (l : Launch) (Φ : Hm) (sz : Nat) (h : Nat) (cf : Nat) (qu : Nat) (pe : Nat) (pt : Nat) (lm : Nat) (lt : Nat) (pr : Int32) (sm : Int32) (sr : Int64) (sq : Int32) (pf : Nat) (pl : Int32) (lmr : Nat → Int32) (hc0 : Φ h = some (o_ 10 [.ref cf, .ref qu, .ref pe, .ref pt, .int pr, .ref lm, .ref lt, .int sm, .long sr, .int sq])) (hc1 : Φ pe = some (o_ 7 [.ref pf, .int pl])) (hc2 : Φ lm = some (ai_ G 4 lmr)) (hna_h : G.2.2.2 ≤ h) (hna_pe : G.2.2.2 ≤ pe) (hna_lm : G.2.2.2 ≤ lm) : Ct G l yX8_clear wsX8_clear ({ frames := 3, cells := 0, slots := 0, locals := 63 }) 0 0 [.ref h] Φ sz (fun v Φ1 sz1 => v = none ∧ sz1 = sz ∧ (∀ b9 : Nat, b9 ≠ h → b9 ≠ lm → b9 ≠ pe → Φ1 b9 = Φ b9) ∧ Φ1 h = some (o_ 10 [.ref cf, .ref qu, .ref pe, .ref pt, .int 0, .ref lm, .ref lt, .int 0, .long 0, .int 0]) ∧ Φ1 lm = some (ai_ G 4 (fun _ => 0)) ∧ Φ1 pe = some (o_ 7 [.ref pf, .int 0])) := by
  refine Ct.of (cc := cX8_clear) (maxL := 1) (ret := none) (by decide) rfl (Nat.le_of_ble_eq_true rfl) ?_
  intro p9 e9 s9 m9 w9 t9 k9 B
  show Z p9 l e9 _ s9 m9 _ w9 t9 k9 _ G 1 0 [(0, .ref h)] [] Φ (sz) 0 0
  refine z_aload_n B dX8_clear_0 rfl 0 rfl ?_
  refine z_lconst (v := 0) B dX8_clear_1 rfl ?_
  refine z_put (ref := "FlowExporter$Sender") (C := RX8) (T := TX8) (N := 10) (ci := 10) (v := .long 0) B (by decide +kernel) tyX8 tyX8_ok nmX8 rfl 8 (by decide) (by decide +kernel) rfl (Or.inl rfl) hc0 hna_h rfl rfl (Nat.le_of_ble_eq_true rfl) dX8_clear_2 (fun Φ1 hΦ1 => ?_)
  have h_1 : Φ1 h = some (o_ 10 [.ref cf, .ref qu, .ref pe, .ref pt, .int pr, .ref lm, .ref lt, .int sm, .long 0, .int sq]) := fset_at hΦ1
  refine z_aload_n B dX8_clear_5 rfl 0 rfl ?_
  refine z_iconst (v := 0) B dX8_clear_6 rfl ?_
  refine z_put (ref := "FlowExporter$Sender") (C := RX8) (T := TX8) (N := 10) (ci := 10) (v := .int 0) B (by decide +kernel) tyX8 tyX8_ok nmX8 rfl 7 (by decide) (by decide +kernel) rfl (Or.inl rfl) h_1 hna_h rfl rfl (Nat.le_of_ble_eq_true rfl) dX8_clear_7 (fun Φ2 hΦ2 => ?_)
  have h_2 : Φ2 h = some (o_ 10 [.ref cf, .ref qu, .ref pe, .ref pt, .int pr, .ref lm, .ref lt, .int 0, .long 0, .int sq]) := fset_at hΦ2
  refine z_aload_n B dX8_clear_10 rfl 0 rfl ?_
  have h_3 : Φ2 pe = some (o_ 7 [.ref pf, .int pl]) := ((fset_fr hΦ2 (hm_ne hc1 hc0 (fun h9 => by cases h9))).trans ((fset_fr hΦ1 (hm_ne hc1 hc0 (fun h9 => by cases h9))).trans hc1))
  have h_4 : Φ2 lm = some (ai_ G 4 lmr) := ((fset_fr hΦ2 (hm_ne hc2 hc0 (fun h9 => by cases h9))).trans ((fset_fr hΦ1 (hm_ne hc2 hc0 (fun h9 => by cases h9))).trans hc2))
  refine z_callV (As := []) (rest := []) B (c_X8_restart G l Φ2 sz h cf qu pe pt lm lt pr 0 0 sq pf pl lmr h_2 h_3 h_4 hna_h hna_pe hna_lm) (cwV 0 B.1.2.2.2.2 gX8_clear_X8_restart rfl rfl rfl (by decide +kernel) ⟨Nat.le_of_ble_eq_true rfl, Nat.le_of_ble_eq_true rfl⟩) h_2 rfl rfl rfl rfl (Nat.le_of_ble_eq_true rfl) dX8_clear_11 ⟨Nat.le_of_ble_eq_true rfl, Nat.le_of_ble_eq_true rfl⟩ (fun v1 Φ3 sz1 st1 hp1 hs1 => ?_)
  obtain ⟨rfl, hq1, fr1, h_5, h_6, h_7⟩ := hp1
  replace hq1 : sz1 = sz := hq1
  subst sz1
  replace hs1 : st1 = [] := hs1
  subst st1
  have h_8 : Φ3 h = some (o_ 10 [.ref cf, .ref qu, .ref pe, .ref pt, .int 0, .ref lm, .ref lt, .int 0, .long 0, .int 0]) := h_5
  have h_9 : Φ3 lm = some (ai_ G 4 (fun _ => 0)) := h_6
  have h_10 : Φ3 pe = some (o_ 7 [.ref pf, .int 0]) := h_7
  exact z_ret_v B dX8_clear_14 ⟨rfl, rfl, (fun b9 h9a h9b h9c => ((fr1 b9 h9a h9b h9c).trans ((fset_fr hΦ2 h9a).trans ((fset_fr hΦ1 h9a).trans rfl)))), h_8, h_9, h_10⟩

set_option maxRecDepth 20000 in
theorem ggX6_init_X1_init : GoodIn wsX6_init wsX1_init := (goodIn_ca (goodIn_ca (goodIn_r _ [17, 18, 2, 3, 19, 20, 21, 22, 23, 24, 25, 26, 27, 28, 29, 30, 31, 32, 33, 34, 35] rfl (by decide +kernel)) (goodIn_sub (fun _ h => List.mem_cons_of_mem _ (List.mem_append_left _ (List.mem_append_left _ (List.mem_append_right _ h)))) gw_wsX10)) (goodIn_sub (fun _ h => List.mem_cons_of_mem _ (List.mem_append_right _ h)) gw_wsX100))
set_option maxRecDepth 20000 in
theorem gX6_init_X1_init : GoodIn wsX6_init (wsX1_init) := ggX6_init_X1_init
theorem dX6_init_0 : decode cX6_init 0 = .ok (.aload_n 0, 1) := by decide +kernel
theorem dX6_init_1 : decode cX6_init 1 = .ok (.invokespecial 3, 3) := by decide +kernel
theorem dX6_init_4 : decode cX6_init 4 = .ok (.aload_n 0, 1) := by decide +kernel
theorem dX6_init_5 : decode cX6_init 5 = .ok (.new 9, 3) := by decide +kernel
theorem dX6_init_8 : decode cX6_init 8 = .ok (.dup, 1) := by decide +kernel
theorem dX6_init_9 : decode cX6_init 9 = .ok (.invokespecial 11, 3) := by decide +kernel
theorem dX6_init_12 : decode cX6_init 12 = .ok (.putfield 12, 3) := by decide +kernel
theorem dX6_init_15 : decode cX6_init 15 = .ok (.aload_n 0, 1) := by decide +kernel
theorem dX6_init_16 : decode cX6_init 16 = .ok (.iconst 0, 1) := by decide +kernel
theorem dX6_init_17 : decode cX6_init 17 = .ok (.putfield 18, 3) := by decide +kernel
theorem dX6_init_20 : decode cX6_init 20 = .ok (.aload_n 0, 1) := by decide +kernel
theorem dX6_init_21 : decode cX6_init 21 = .ok (.iconst (-1), 1) := by decide +kernel
theorem dX6_init_22 : decode cX6_init 22 = .ok (.putfield 22, 3) := by decide +kernel
theorem dX6_init_25 : decode cX6_init 25 = .ok (.aload_n 0, 1) := by decide +kernel
theorem dX6_init_26 : decode cX6_init 26 = .ok (.iconst 0, 1) := by decide +kernel
theorem dX6_init_27 : decode cX6_init 27 = .ok (.putfield 25, 3) := by decide +kernel
theorem dX6_init_30 : decode cX6_init 30 = .ok (.aload_n 0, 1) := by decide +kernel
theorem dX6_init_31 : decode cX6_init 31 = .ok (.iconst 0, 1) := by decide +kernel
theorem dX6_init_32 : decode cX6_init 32 = .ok (.putfield 28, 3) := by decide +kernel
theorem dX6_init_35 : decode cX6_init 35 = .ok (.aload_n 0, 1) := by decide +kernel
theorem dX6_init_36 : decode cX6_init 36 = .ok (.iconst 0, 1) := by decide +kernel
theorem dX6_init_37 : decode cX6_init 37 = .ok (.putfield 31, 3) := by decide +kernel
theorem dX6_init_40 : decode cX6_init 40 = .ok (.aload_n 0, 1) := by decide +kernel
theorem dX6_init_41 : decode cX6_init 41 = .ok (.iconst 0, 1) := by decide +kernel
theorem dX6_init_42 : decode cX6_init 42 = .ok (.putfield 34, 3) := by decide +kernel
theorem dX6_init_45 : decode cX6_init 45 = .ok (.aload_n 0, 1) := by decide +kernel
theorem dX6_init_46 : decode cX6_init 46 = .ok (.aload_n 1, 1) := by decide +kernel
theorem dX6_init_47 : decode cX6_init 47 = .ok (.putfield 37, 3) := by decide +kernel
theorem dX6_init_50 : decode cX6_init 50 = .ok (.return_, 1) := by decide +kernel
set_option maxHeartbeats 4000000 in
set_option maxRecDepth 100000 in
theorem c_X6_kindOf_none (G : EnvG) (l : Launch) (Φ : Hm) (sz : Nat)   : Ct G l yX6_kindOf wsX6_kindOf ({ frames := 0, cells := 0, slots := 0, locals := 0 }) 0 0 [.int (-1)] Φ sz (fun v Φ1 sz1 => v = some (.int 0) ∧ sz1 = sz ∧ (∀ b9 : Nat, Φ1 b9 = Φ b9)) := by
  refine Ct.of (cc := cX6_kindOf) (maxL := 1) (ret := (some .int)) (by decide) rfl (Nat.le_of_ble_eq_true rfl) ?_
  intro p9 e9 s9 m9 w9 t9 k9 B
  show Z p9 l e9 _ s9 m9 _ w9 t9 k9 _ G 1 0 [(0, .int (-1))] [] Φ (sz) 0 0
  refine z_iload_n B dX6_kindOf_0 rfl 0 rfl ?_
  refine z_iconst (v := (-1)) B dX6_kindOf_1 rfl ?_
  refine z_icmp_ne (tgt := 7) B dX6_kindOf_2 rfl (fun h9 => absurd (by decide) h9) (fun c_1 => ?_)
  refine z_iconst (v := 0) B dX6_kindOf_5 rfl ?_
  exact z_ret_i B dX6_kindOf_6 ⟨rfl, rfl, (fun b9 => rfl)⟩

set_option maxHeartbeats 4000000 in
set_option maxRecDepth 100000 in
theorem c_X5_byteAt_none (G : EnvG) (l : Launch) (Φ : Hm) (sz : Nat) (h : Nat) (f : Nat) (n : Int32) (x : Int32) (hc0 : Φ h = some (o_ 7 [.ref f, .int n])) (h1 : ¬ x < 0) (h2 : n ≤ x) : Ct G l yX5_byteAt wsX5_byteAt ({ frames := 0, cells := 0, slots := 0, locals := 0 }) 0 0 [.ref h, .int x] Φ sz (fun v Φ1 sz1 => v = some (.int (-1)) ∧ sz1 = sz ∧ (∀ b9 : Nat, Φ1 b9 = Φ b9)) := by
  refine Ct.of (cc := cX5_byteAt) (maxL := 2) (ret := (some .int)) (by decide) rfl (Nat.le_of_ble_eq_true rfl) ?_
  intro p9 e9 s9 m9 w9 t9 k9 B
  show Z p9 l e9 _ s9 m9 _ w9 t9 k9 _ G 2 0 [(0, .ref h), (1, .int x)] [] Φ (sz) 0 0
  refine z_iload_n B dX5_byteAt_0 rfl 1 rfl ?_
  refine z_if_lt (tgt := 25) B dX5_byteAt_1 rfl (fun h9 => absurd h9 h1) (fun c_1 => ?_)
  refine z_iload_n B dX5_byteAt_4 rfl 1 rfl ?_
  refine z_aload_n B dX5_byteAt_5 rfl 0 rfl ?_
  refine z_get (ref := "FlowExporter$Message") (C := RX5) (T := TX5) (N := 2) (ci := 7) (v := .int n) B (by decide +kernel) rfl 1 (by decide) (by decide +kernel) rfl hc0 rfl dX5_byteAt_6 ?_
  refine z_icmp_ge (tgt := 25) B dX5_byteAt_9 rfl (fun c_2 => ?_) (fun h9 => absurd h2 h9)
  refine z_iconst (v := (-1)) B dX5_byteAt_25 rfl ?_
  exact z_ret_i B dX5_byteAt_26 ⟨rfl, rfl, (fun b9 => rfl)⟩

set_option maxHeartbeats 4000000 in
set_option maxRecDepth 100000 in
theorem c_X6_nextToken_end (G : EnvG) (l : Launch) (Φ : Hm) (sz : Nat) (h : Nat) (pc : Nat) (t : Nat) (f : Nat) (a : Int32) (b : Int32) (k : Int32) (s0 : Int32) (n0 : Int32) (hc0 : Φ h = some (o_ 8 [.ref pc, .int a, .int b, .ref t, .int 0, .int k, .int s0, .int n0])) (hc1 : Φ t = some (o_ 7 [.ref f, .int 0])) (hna_h : G.2.2.2 ≤ h) : Ct G l yX6_nextToken wsX6_nextToken ({ frames := 1, cells := 0, slots := 0, locals := 21 }) 0 0 [.ref h] Φ sz (fun v Φ1 sz1 => v = none ∧ sz1 = sz ∧ (∀ b9 : Nat, b9 ≠ h → Φ1 b9 = Φ b9) ∧ Φ1 h = some (o_ 8 [.ref pc, .int a, .int b, .ref t, .int 0, .int 0, .int 0, .int n0])) := by
  refine Ct.of (cc := cX6_nextToken) (maxL := 2) (ret := none) (by decide) rfl (Nat.le_of_ble_eq_true rfl) ?_
  intro p9 e9 s9 m9 w9 t9 k9 B
  show Z p9 l e9 _ s9 m9 _ w9 t9 k9 _ G 2 0 [(0, .ref h)] [] Φ (sz) 0 0
  refine z_aload_n B dX6_nextToken_0 rfl 0 rfl ?_
  refine z_get (ref := "FlowExporter$Parser") (C := RX6) (T := TX6) (N := 8) (ci := 8) (v := .int 0) B (by decide +kernel) rfl 4 (by decide) (by decide +kernel) rfl hc0 rfl dX6_nextToken_1 ?_
  refine z_aload_n B dX6_nextToken_4 rfl 0 rfl ?_
  refine z_get (ref := "FlowExporter$Parser") (C := RX6) (T := TX6) (N := 8) (ci := 8) (v := .ref t) B (by decide +kernel) rfl 3 (by decide) (by decide +kernel) rfl hc0 rfl dX6_nextToken_5 ?_
  refine z_get (ref := "FlowExporter$Message") (C := RX5) (T := TX5) (N := 2) (ci := 7) (v := .int 0) B (by decide +kernel) rfl 1 (by decide) (by decide +kernel) rfl hc1 rfl dX6_nextToken_8 ?_
  refine z_icmp_ge (tgt := 45) B dX6_nextToken_11 rfl (fun c_1 => ?_) (fun h9 => absurd (by decide) h9)
  refine z_aload_n B dX6_nextToken_45 rfl 0 rfl ?_
  refine z_aload_n B dX6_nextToken_46 rfl 0 rfl ?_
  refine z_get (ref := "FlowExporter$Parser") (C := RX6) (T := TX6) (N := 8) (ci := 8) (v := .int 0) B (by decide +kernel) rfl 4 (by decide) (by decide +kernel) rfl hc0 rfl dX6_nextToken_47 ?_
  refine z_put (ref := "FlowExporter$Parser") (C := RX6) (T := TX6) (N := 8) (ci := 8) (v := .int 0) B (by decide +kernel) tyX6 tyX6_ok nmX6 rfl 6 (by decide) (by decide +kernel) rfl (Or.inl rfl) hc0 hna_h rfl rfl (Nat.le_of_ble_eq_true rfl) dX6_nextToken_50 (fun Φ1 hΦ1 => ?_)
  have h_1 : Φ1 h = some (o_ 8 [.ref pc, .int a, .int b, .ref t, .int 0, .int k, .int 0, .int n0]) := fset_at hΦ1
  refine z_aload_n B dX6_nextToken_53 rfl 0 rfl ?_
  refine z_aload_n B dX6_nextToken_54 rfl 0 rfl ?_
  refine z_get (ref := "FlowExporter$Parser") (C := RX6) (T := TX6) (N := 8) (ci := 8) (v := .ref t) B (by decide +kernel) rfl 3 (by decide) (by decide +kernel) rfl h_1 rfl dX6_nextToken_55 ?_
  refine z_aload_n B dX6_nextToken_58 rfl 0 rfl ?_
  refine z_get (ref := "FlowExporter$Parser") (C := RX6) (T := TX6) (N := 8) (ci := 8) (v := .int 0) B (by decide +kernel) rfl 6 (by decide) (by decide +kernel) rfl h_1 rfl dX6_nextToken_59 ?_
  have h_2 : Φ1 t = some (o_ 7 [.ref f, .int 0]) := ((fset_fr hΦ1 (hm_ne hc1 hc0 (fun h9 => by cases h9))).trans hc1)
  refine z_callV (As := [.int 0]) (rest := [.ref h]) B (c_X5_byteAt_none G l Φ1 sz t f 0 0 h_2 (by decide) (by decide)) (cwV 1 B.1.2.2.2.2 gX6_nextToken_X5_byteAt rfl rfl rfl (by decide +kernel) ⟨Nat.le_of_ble_eq_true rfl, Nat.le_of_ble_eq_true rfl⟩) h_2 rfl rfl rfl rfl (Nat.le_of_ble_eq_true rfl) dX6_nextToken_62 ⟨Nat.le_of_ble_eq_true rfl, Nat.le_of_ble_eq_true rfl⟩ (fun v1 Φ2 sz1 st1 hp1 hs1 => ?_)
  obtain ⟨rfl, hq1, fr1⟩ := hp1
  replace hq1 : sz1 = sz := hq1
  subst sz1
  replace hs1 : st1 = [.int (-1), .ref h] := hs1
  subst st1
  refine z_callS (As := [.int (-1)]) (rest := [.ref h]) B (c_X6_kindOf_none G l Φ2 sz  ) (va_cwS 1 B.1.2.2.2.2 gX6_nextToken_X6_kindOf rfl rfl rfl (by decide +kernel) ⟨Nat.le_of_ble_eq_true rfl, Nat.le_of_ble_eq_true rfl⟩) rfl rfl (Nat.le_of_ble_eq_true rfl) dX6_nextToken_65 ⟨Nat.le_of_ble_eq_true rfl, Nat.le_of_ble_eq_true rfl⟩ (fun v2 Φ3 sz2 st2 hp2 hs2 => ?_)
  obtain ⟨rfl, hq2, fr2⟩ := hp2
  replace hq2 : sz2 = sz := hq2
  subst sz2
  replace hs2 : st2 = [.int 0, .ref h] := hs2
  subst st2
  have h_3 : Φ3 h = some (o_ 8 [.ref pc, .int a, .int b, .ref t, .int 0, .int k, .int 0, .int n0]) := ((fr2 h).trans ((fr1 h).trans h_1))
  refine z_put (ref := "FlowExporter$Parser") (C := RX6) (T := TX6) (N := 8) (ci := 8) (v := .int 0) B (by decide +kernel) tyX6 tyX6_ok nmX6 rfl 5 (by decide) (by decide +kernel) rfl (Or.inl rfl) h_3 hna_h rfl rfl (Nat.le_of_ble_eq_true rfl) dX6_nextToken_68 (fun Φ4 hΦ2 => ?_)
  have h_4 : Φ4 h = some (o_ 8 [.ref pc, .int a, .int b, .ref t, .int 0, .int 0, .int 0, .int n0]) := fset_at hΦ2
  refine z_aload_n B dX6_nextToken_71 rfl 0 rfl ?_
  refine z_get (ref := "FlowExporter$Parser") (C := RX6) (T := TX6) (N := 8) (ci := 8) (v := .int 0) B (by decide +kernel) rfl 5 (by decide) (by decide +kernel) rfl h_4 rfl dX6_nextToken_72 ?_
  refine z_iconst (v := 4) B dX6_nextToken_75 rfl ?_
  refine z_icmp_eq (tgt := 87) B dX6_nextToken_76 rfl (fun h9 => absurd h9 (by decide)) (fun c_2 => ?_)
  refine z_aload_n B dX6_nextToken_79 rfl 0 rfl ?_
  refine z_get (ref := "FlowExporter$Parser") (C := RX6) (T := TX6) (N := 8) (ci := 8) (v := .int 0) B (by decide +kernel) rfl 5 (by decide) (by decide +kernel) rfl h_4 rfl dX6_nextToken_80 ?_
  refine z_iconst (v := 5) B dX6_nextToken_83 rfl ?_
  refine z_icmp_ne (tgt := 98) B dX6_nextToken_84 rfl (fun c_3 => ?_) (fun h9 => absurd h9 (by decide))
  refine z_aload_n B dX6_nextToken_98 rfl 0 rfl ?_
  refine z_get (ref := "FlowExporter$Parser") (C := RX6) (T := TX6) (N := 8) (ci := 8) (v := .int 0) B (by decide +kernel) rfl 4 (by decide) (by decide +kernel) rfl h_4 rfl dX6_nextToken_99 ?_
  refine z_aload_n B dX6_nextToken_102 rfl 0 rfl ?_
  refine z_get (ref := "FlowExporter$Parser") (C := RX6) (T := TX6) (N := 8) (ci := 8) (v := .ref t) B (by decide +kernel) rfl 3 (by decide) (by decide +kernel) rfl h_4 rfl dX6_nextToken_103 ?_
  have h_5 : Φ4 t = some (o_ 7 [.ref f, .int 0]) := ((fset_fr hΦ2 (hm_ne hc1 hc0 (fun h9 => by cases h9))).trans ((fr2 t).trans ((fr1 t).trans h_2)))
  refine z_get (ref := "FlowExporter$Message") (C := RX5) (T := TX5) (N := 2) (ci := 7) (v := .int 0) B (by decide +kernel) rfl 1 (by decide) (by decide +kernel) rfl h_5 rfl dX6_nextToken_106 ?_
  refine z_icmp_ge (tgt := 146) B dX6_nextToken_109 rfl (fun c_4 => ?_) (fun h9 => absurd (by decide) h9)
  refine z_aload_n B dX6_nextToken_146 rfl 0 rfl ?_
  refine z_get (ref := "FlowExporter$Parser") (C := RX6) (T := TX6) (N := 8) (ci := 8) (v := .int 0) B (by decide +kernel) rfl 5 (by decide) (by decide +kernel) rfl h_4 rfl dX6_nextToken_147 ?_
  refine z_iconst (v := 3) B dX6_nextToken_150 rfl ?_
  refine z_icmp_ne (tgt := 159) B dX6_nextToken_151 rfl (fun c_5 => ?_) (fun h9 => absurd h9 (by decide))
  refine z_bipush (v := 12) B dX6_nextToken_159 rfl ?_
  refine z_istore_n (lv' := [(1, .int 12), (0, .ref h)]) B dX6_nextToken_161 rfl (Nat.le_of_ble_eq_true rfl) rfl ?_
  refine z_aload_n B dX6_nextToken_162 rfl 1 rfl ?_
  refine z_get (ref := "FlowExporter$Parser") (C := RX6) (T := TX6) (N := 8) (ci := 8) (v := .int 0) B (by decide +kernel) rfl 4 (by decide) (by decide +kernel) rfl h_4 rfl dX6_nextToken_163 ?_
  refine z_aload_n B dX6_nextToken_166 rfl 1 rfl ?_
  refine z_get (ref := "FlowExporter$Parser") (C := RX6) (T := TX6) (N := 8) (ci := 8) (v := .int 0) B (by decide +kernel) rfl 6 (by decide) (by decide +kernel) rfl h_4 rfl dX6_nextToken_167 ?_
  refine z_isub B dX6_nextToken_170 ?_
  refine z_top (st1 := [.int 0]) (congrArg (fun w9 : Int32 => ([.int w9] : List Value)) (show (0 - 0 : Int32) = 0 by decide +kernel)) ?_
  refine z_iload_n B dX6_nextToken_171 rfl 0 rfl ?_
  refine z_icmp_le (tgt := 180) B dX6_nextToken_172 rfl (fun c_6 => ?_) (fun h9 => absurd (by decide) h9)
  exact z_ret_v B dX6_nextToken_180 ⟨rfl, rfl, (fun b9 h9a => ((fset_fr hΦ2 h9a).trans ((fr2 b9).trans ((fr1 b9).trans ((fset_fr hΦ1 h9a).trans rfl))))), h_4⟩

set_option maxHeartbeats 4000000 in
set_option maxRecDepth 100000 in
theorem c_X6_init (G : EnvG) (l : Launch) (Φ : Hm) (sz : Nat) (h : Nat) (t : Nat) (hc0 : Φ h = some (o_ 8 [.null, .int 0, .int 0, .null, .int 0, .int 0, .int 0, .int 0])) (hna_h : G.2.2.2 ≤ h) : Ct G l yX6_init wsX6_init ({ frames := 3, cells := 21, slots := 383, locals := 53 }) 21 383 [.ref h, .ref t] Φ sz (fun v Φ1 sz1 => v = none ∧ sz1 = sz + 21 ∧ (∀ b9 : Nat, b9 < sz → b9 ≠ h → Φ1 b9 = Φ b9) ∧ Φ1 h = some (o_ 8 [.ref sz, .int 0, .int (-1), .ref t, .int 0, .int 0, .int 0, .int 0]) ∧ Φ1 sz = some (o_ 3 [.ref (sz + 1), .ref (sz + 2), .ref (sz + 3), .ref (sz + 4), .int 0, .int 511]) ∧ Φ1 (sz + 1) = some (ai_ G 9 (fun _ => 0)) ∧ Φ1 (sz + 2) = some (ai_ G 256 (fun _ => 0)) ∧ Φ1 (sz + 3) = some (aq_ G 4 4 (va_up (va_up (va_up (va_up (fun _ => none) (0 : Int32).toNatClampNeg (some (sz + 5))) (1 : Int32).toNatClampNeg (some (sz + 9))) (2 : Int32).toNatClampNeg (some (sz + 13))) (3 : Int32).toNatClampNeg (some (sz + 17)))) ∧ Φ1 (sz + 4) = some (aq_ G 4 4 (va_up (va_up (va_up (va_up (fun _ => none) (0 : Int32).toNatClampNeg (some (sz + 7))) (1 : Int32).toNatClampNeg (some (sz + 11))) (2 : Int32).toNatClampNeg (some (sz + 15))) (3 : Int32).toNatClampNeg (some (sz + 19)))) ∧ Φ1 (sz + 5) = some (o_ 12 [.ref (sz + 6), .int 0, .int 0, .int 0]) ∧ Φ1 (sz + 6) = some (ai_ G 9 (fun _ => 0)) ∧ Φ1 (sz + 7) = some (o_ 12 [.ref (sz + 8), .int 0, .int 0, .int 0]) ∧ Φ1 (sz + 8) = some (ai_ G 9 (fun _ => 0)) ∧ Φ1 (sz + 9) = some (o_ 12 [.ref (sz + 10), .int 0, .int 0, .int 0]) ∧ Φ1 (sz + 10) = some (ai_ G 9 (fun _ => 0)) ∧ Φ1 (sz + 11) = some (o_ 12 [.ref (sz + 12), .int 0, .int 0, .int 0]) ∧ Φ1 (sz + 12) = some (ai_ G 9 (fun _ => 0)) ∧ Φ1 (sz + 13) = some (o_ 12 [.ref (sz + 14), .int 0, .int 0, .int 0]) ∧ Φ1 (sz + 14) = some (ai_ G 9 (fun _ => 0)) ∧ Φ1 (sz + 15) = some (o_ 12 [.ref (sz + 16), .int 0, .int 0, .int 0]) ∧ Φ1 (sz + 16) = some (ai_ G 9 (fun _ => 0)) ∧ Φ1 (sz + 17) = some (o_ 12 [.ref (sz + 18), .int 0, .int 0, .int 0]) ∧ Φ1 (sz + 18) = some (ai_ G 9 (fun _ => 0)) ∧ Φ1 (sz + 19) = some (o_ 12 [.ref (sz + 20), .int 0, .int 0, .int 0]) ∧ Φ1 (sz + 20) = some (ai_ G 9 (fun _ => 0))) := by
  refine Ct.of (cc := cX6_init) (maxL := 2) (ret := none) (by decide) rfl (Nat.le_of_ble_eq_true rfl) ?_
  intro p9 e9 s9 m9 w9 t9 k9 B
  show Z p9 l e9 _ s9 m9 _ w9 t9 k9 _ G 2 0 [(0, .ref h), (1, .ref t)] [] Φ (sz) 0 0
  refine z_lt (fun hlt => ?_)
  refine z_aload_n B dX6_init_0 rfl 0 rfl ?_
  refine z_obj B (by decide +kernel) (by decide +kernel) (by decide +kernel) rfl ⟨Nat.le_of_ble_eq_true rfl, Nat.le_of_ble_eq_true rfl⟩ dX6_init_1 ?_
  refine z_aload_n B dX6_init_4 rfl 0 rfl ?_
  refine z_new (C := RX1) (T := TX1) (N := 6) (ci := 3) (fs := [.null, .null, .null, .null, .int 0, .int 0]) B (by decide +kernel) tyX1 tyX1_ok (by decide +kernel) (by decide +kernel) (by decide +kernel) rfl (by decide +kernel) (Nat.le_of_ble_eq_true rfl) (Nat.le_of_ble_eq_true rfl) dX6_init_5 (fun Φ1 hΦ1 hz1 => ?_)
  have h_1 : Φ1 sz = some (o_ 3 [.null, .null, .null, .null, .int 0, .int 0]) := fset_at hΦ1
  refine z_dup B dX6_init_8 rfl ?_
  refine z_callI (As := []) (rest := [.ref sz, .ref h]) B (c_X1_init G l Φ1 (sz + 1) sz h_1 hz1) (cwI 0 B.1.2.2.2.2 gX6_init_X1_init rfl rfl rfl (B.1.2.2.2.2 _ (by decide +kernel)) (B.1.2.2.2.2 _ (by decide +kernel)) (B.1.2.2.2.2 _ (by decide +kernel)) rfl (by decide +kernel) ⟨Nat.le_of_ble_eq_true rfl, Nat.le_of_ble_eq_true rfl⟩) rfl rfl (Nat.le_of_ble_eq_true rfl) dX6_init_9 ⟨Nat.le_of_ble_eq_true rfl, Nat.le_of_ble_eq_true rfl⟩ (fun v1 Φ2 sz1 st1 hp1 hs1 => ?_)
  obtain ⟨rfl, hq1, fr1, h_2, h_3, h_4, h_5, h_6, h_7, h_8, h_9, h_10, h_11, h_12, h_13, h_14, h_15, h_16, h_17, h_18, h_19, h_20, h_21, h_22⟩ := hp1
  replace hq1 : sz1 = sz + 21 := hq1
  subst sz1
  replace hs1 : st1 = [.ref sz, .ref h] := hs1
  subst st1
  have h_23 : Φ2 sz = some (o_ 3 [.ref (sz + 1), .ref (sz + 2), .ref (sz + 3), .ref (sz + 4), .int 0, .int 511]) := h_2
  have h_24 : Φ2 (sz + 1) = some (ai_ G 9 (fun _ => 0)) := h_3
  have h_25 : Φ2 (sz + 2) = some (ai_ G 256 (fun _ => 0)) := h_4
  have h_26 : Φ2 (sz + 3) = some (aq_ G 4 4 (va_up (va_up (va_up (va_up (fun _ => none) (0 : Int32).toNatClampNeg (some (sz + 5))) (1 : Int32).toNatClampNeg (some (sz + 9))) (2 : Int32).toNatClampNeg (some (sz + 13))) (3 : Int32).toNatClampNeg (some (sz + 17)))) := h_5
  have h_27 : Φ2 (sz + 4) = some (aq_ G 4 4 (va_up (va_up (va_up (va_up (fun _ => none) (0 : Int32).toNatClampNeg (some (sz + 7))) (1 : Int32).toNatClampNeg (some (sz + 11))) (2 : Int32).toNatClampNeg (some (sz + 15))) (3 : Int32).toNatClampNeg (some (sz + 19)))) := h_6
  have h_28 : Φ2 (sz + 5) = some (o_ 12 [.ref (sz + 6), .int 0, .int 0, .int 0]) := h_7
  have h_29 : Φ2 (sz + 6) = some (ai_ G 9 (fun _ => 0)) := h_8
  have h_30 : Φ2 (sz + 7) = some (o_ 12 [.ref (sz + 8), .int 0, .int 0, .int 0]) := h_9
  have h_31 : Φ2 (sz + 8) = some (ai_ G 9 (fun _ => 0)) := h_10
  have h_32 : Φ2 (sz + 9) = some (o_ 12 [.ref (sz + 10), .int 0, .int 0, .int 0]) := h_11
  have h_33 : Φ2 (sz + 10) = some (ai_ G 9 (fun _ => 0)) := h_12
  have h_34 : Φ2 (sz + 11) = some (o_ 12 [.ref (sz + 12), .int 0, .int 0, .int 0]) := h_13
  have h_35 : Φ2 (sz + 12) = some (ai_ G 9 (fun _ => 0)) := h_14
  have h_36 : Φ2 (sz + 13) = some (o_ 12 [.ref (sz + 14), .int 0, .int 0, .int 0]) := h_15
  have h_37 : Φ2 (sz + 14) = some (ai_ G 9 (fun _ => 0)) := h_16
  have h_38 : Φ2 (sz + 15) = some (o_ 12 [.ref (sz + 16), .int 0, .int 0, .int 0]) := h_17
  have h_39 : Φ2 (sz + 16) = some (ai_ G 9 (fun _ => 0)) := h_18
  have h_40 : Φ2 (sz + 17) = some (o_ 12 [.ref (sz + 18), .int 0, .int 0, .int 0]) := h_19
  have h_41 : Φ2 (sz + 18) = some (ai_ G 9 (fun _ => 0)) := h_20
  have h_42 : Φ2 (sz + 19) = some (o_ 12 [.ref (sz + 20), .int 0, .int 0, .int 0]) := h_21
  have h_43 : Φ2 (sz + 20) = some (ai_ G 9 (fun _ => 0)) := h_22
  have h_44 : Φ2 h = some (o_ 8 [.null, .int 0, .int 0, .null, .int 0, .int 0, .int 0, .int 0]) := ((fr1 h (Nat.lt_of_lt_of_le (hlt _ _ hc0) (Nat.le_add_right sz 1)) (Nat.ne_of_lt (hlt _ _ hc0))).trans ((fset_fr hΦ1 (Nat.ne_of_lt (hlt _ _ hc0))).trans hc0))
  refine z_put (ref := "FlowExporter$Parser") (C := RX6) (T := TX6) (N := 8) (ci := 8) (v := .ref sz) B (by decide +kernel) tyX6 tyX6_ok nmX6 rfl 0 (by decide) (by decide +kernel) rfl (Or.inr ⟨rfl, rfl, rfl⟩) h_44 hna_h rfl rfl (Nat.le_of_ble_eq_true rfl) dX6_init_12 (fun Φ3 hΦ2 => ?_)
  have h_45 : Φ3 h = some (o_ 8 [.ref sz, .int 0, .int 0, .null, .int 0, .int 0, .int 0, .int 0]) := fset_at hΦ2
  refine z_aload_n B dX6_init_15 rfl 0 rfl ?_
  refine z_iconst (v := 0) B dX6_init_16 rfl ?_
  refine z_put (ref := "FlowExporter$Parser") (C := RX6) (T := TX6) (N := 8) (ci := 8) (v := .int 0) B (by decide +kernel) tyX6 tyX6_ok nmX6 rfl 1 (by decide) (by decide +kernel) rfl (Or.inl rfl) h_45 hna_h rfl rfl (Nat.le_of_ble_eq_true rfl) dX6_init_17 (fun Φ4 hΦ3 => ?_)
  have h_46 : Φ4 h = some (o_ 8 [.ref sz, .int 0, .int 0, .null, .int 0, .int 0, .int 0, .int 0]) := fset_at hΦ3
  refine z_aload_n B dX6_init_20 rfl 0 rfl ?_
  refine z_iconst (v := (-1)) B dX6_init_21 rfl ?_
  refine z_put (ref := "FlowExporter$Parser") (C := RX6) (T := TX6) (N := 8) (ci := 8) (v := .int (-1)) B (by decide +kernel) tyX6 tyX6_ok nmX6 rfl 2 (by decide) (by decide +kernel) rfl (Or.inl rfl) h_46 hna_h rfl rfl (Nat.le_of_ble_eq_true rfl) dX6_init_22 (fun Φ5 hΦ4 => ?_)
  have h_47 : Φ5 h = some (o_ 8 [.ref sz, .int 0, .int (-1), .null, .int 0, .int 0, .int 0, .int 0]) := fset_at hΦ4
  refine z_aload_n B dX6_init_25 rfl 0 rfl ?_
  refine z_iconst (v := 0) B dX6_init_26 rfl ?_
  refine z_put (ref := "FlowExporter$Parser") (C := RX6) (T := TX6) (N := 8) (ci := 8) (v := .int 0) B (by decide +kernel) tyX6 tyX6_ok nmX6 rfl 4 (by decide) (by decide +kernel) rfl (Or.inl rfl) h_47 hna_h rfl rfl (Nat.le_of_ble_eq_true rfl) dX6_init_27 (fun Φ6 hΦ5 => ?_)
  have h_48 : Φ6 h = some (o_ 8 [.ref sz, .int 0, .int (-1), .null, .int 0, .int 0, .int 0, .int 0]) := fset_at hΦ5
  refine z_aload_n B dX6_init_30 rfl 0 rfl ?_
  refine z_iconst (v := 0) B dX6_init_31 rfl ?_
  refine z_put (ref := "FlowExporter$Parser") (C := RX6) (T := TX6) (N := 8) (ci := 8) (v := .int 0) B (by decide +kernel) tyX6 tyX6_ok nmX6 rfl 5 (by decide) (by decide +kernel) rfl (Or.inl rfl) h_48 hna_h rfl rfl (Nat.le_of_ble_eq_true rfl) dX6_init_32 (fun Φ7 hΦ6 => ?_)
  have h_49 : Φ7 h = some (o_ 8 [.ref sz, .int 0, .int (-1), .null, .int 0, .int 0, .int 0, .int 0]) := fset_at hΦ6
  refine z_aload_n B dX6_init_35 rfl 0 rfl ?_
  refine z_iconst (v := 0) B dX6_init_36 rfl ?_
  refine z_put (ref := "FlowExporter$Parser") (C := RX6) (T := TX6) (N := 8) (ci := 8) (v := .int 0) B (by decide +kernel) tyX6 tyX6_ok nmX6 rfl 6 (by decide) (by decide +kernel) rfl (Or.inl rfl) h_49 hna_h rfl rfl (Nat.le_of_ble_eq_true rfl) dX6_init_37 (fun Φ8 hΦ7 => ?_)
  have h_50 : Φ8 h = some (o_ 8 [.ref sz, .int 0, .int (-1), .null, .int 0, .int 0, .int 0, .int 0]) := fset_at hΦ7
  refine z_aload_n B dX6_init_40 rfl 0 rfl ?_
  refine z_iconst (v := 0) B dX6_init_41 rfl ?_
  refine z_put (ref := "FlowExporter$Parser") (C := RX6) (T := TX6) (N := 8) (ci := 8) (v := .int 0) B (by decide +kernel) tyX6 tyX6_ok nmX6 rfl 7 (by decide) (by decide +kernel) rfl (Or.inl rfl) h_50 hna_h rfl rfl (Nat.le_of_ble_eq_true rfl) dX6_init_42 (fun Φ9 hΦ8 => ?_)
  have h_51 : Φ9 h = some (o_ 8 [.ref sz, .int 0, .int (-1), .null, .int 0, .int 0, .int 0, .int 0]) := fset_at hΦ8
  refine z_aload_n B dX6_init_45 rfl 0 rfl ?_
  refine z_aload_n B dX6_init_46 rfl 1 rfl ?_
  refine z_put (ref := "FlowExporter$Parser") (C := RX6) (T := TX6) (N := 8) (ci := 8) (v := .ref t) B (by decide +kernel) tyX6 tyX6_ok nmX6 rfl 3 (by decide) (by decide +kernel) rfl (Or.inr ⟨rfl, rfl, rfl⟩) h_51 hna_h rfl rfl (Nat.le_of_ble_eq_true rfl) dX6_init_47 (fun Φ10 hΦ9 => ?_)
  have h_52 : Φ10 h = some (o_ 8 [.ref sz, .int 0, .int (-1), .ref t, .int 0, .int 0, .int 0, .int 0]) := fset_at hΦ9
  have h_53 : Φ10 sz = some (o_ 3 [.ref (sz + 1), .ref (sz + 2), .ref (sz + 3), .ref (sz + 4), .int 0, .int 511]) := ((fset_fr hΦ9 (Nat.ne_of_gt (hlt _ _ hc0))).trans ((fset_fr hΦ8 (Nat.ne_of_gt (hlt _ _ hc0))).trans ((fset_fr hΦ7 (Nat.ne_of_gt (hlt _ _ hc0))).trans ((fset_fr hΦ6 (Nat.ne_of_gt (hlt _ _ hc0))).trans ((fset_fr hΦ5 (Nat.ne_of_gt (hlt _ _ hc0))).trans ((fset_fr hΦ4 (Nat.ne_of_gt (hlt _ _ hc0))).trans ((fset_fr hΦ3 (Nat.ne_of_gt (hlt _ _ hc0))).trans ((fset_fr hΦ2 (Nat.ne_of_gt (hlt _ _ hc0))).trans h_23))))))))
  have h_54 : Φ10 (sz + 1) = some (ai_ G 9 (fun _ => 0)) := ((fset_fr hΦ9 (Nat.ne_of_gt (Nat.lt_of_lt_of_le (hlt _ _ hc0) (Nat.le_add_right sz 1)))).trans ((fset_fr hΦ8 (Nat.ne_of_gt (Nat.lt_of_lt_of_le (hlt _ _ hc0) (Nat.le_add_right sz 1)))).trans ((fset_fr hΦ7 (Nat.ne_of_gt (Nat.lt_of_lt_of_le (hlt _ _ hc0) (Nat.le_add_right sz 1)))).trans ((fset_fr hΦ6 (Nat.ne_of_gt (Nat.lt_of_lt_of_le (hlt _ _ hc0) (Nat.le_add_right sz 1)))).trans ((fset_fr hΦ5 (Nat.ne_of_gt (Nat.lt_of_lt_of_le (hlt _ _ hc0) (Nat.le_add_right sz 1)))).trans ((fset_fr hΦ4 (Nat.ne_of_gt (Nat.lt_of_lt_of_le (hlt _ _ hc0) (Nat.le_add_right sz 1)))).trans ((fset_fr hΦ3 (Nat.ne_of_gt (Nat.lt_of_lt_of_le (hlt _ _ hc0) (Nat.le_add_right sz 1)))).trans ((fset_fr hΦ2 (Nat.ne_of_gt (Nat.lt_of_lt_of_le (hlt _ _ hc0) (Nat.le_add_right sz 1)))).trans h_24))))))))
  have h_55 : Φ10 (sz + 2) = some (ai_ G 256 (fun _ => 0)) := ((fset_fr hΦ9 (Nat.ne_of_gt (Nat.lt_of_lt_of_le (hlt _ _ hc0) (Nat.le_add_right sz 2)))).trans ((fset_fr hΦ8 (Nat.ne_of_gt (Nat.lt_of_lt_of_le (hlt _ _ hc0) (Nat.le_add_right sz 2)))).trans ((fset_fr hΦ7 (Nat.ne_of_gt (Nat.lt_of_lt_of_le (hlt _ _ hc0) (Nat.le_add_right sz 2)))).trans ((fset_fr hΦ6 (Nat.ne_of_gt (Nat.lt_of_lt_of_le (hlt _ _ hc0) (Nat.le_add_right sz 2)))).trans ((fset_fr hΦ5 (Nat.ne_of_gt (Nat.lt_of_lt_of_le (hlt _ _ hc0) (Nat.le_add_right sz 2)))).trans ((fset_fr hΦ4 (Nat.ne_of_gt (Nat.lt_of_lt_of_le (hlt _ _ hc0) (Nat.le_add_right sz 2)))).trans ((fset_fr hΦ3 (Nat.ne_of_gt (Nat.lt_of_lt_of_le (hlt _ _ hc0) (Nat.le_add_right sz 2)))).trans ((fset_fr hΦ2 (Nat.ne_of_gt (Nat.lt_of_lt_of_le (hlt _ _ hc0) (Nat.le_add_right sz 2)))).trans h_25))))))))
  have h_56 : Φ10 (sz + 3) = some (aq_ G 4 4 (va_up (va_up (va_up (va_up (fun _ => none) (0 : Int32).toNatClampNeg (some (sz + 5))) (1 : Int32).toNatClampNeg (some (sz + 9))) (2 : Int32).toNatClampNeg (some (sz + 13))) (3 : Int32).toNatClampNeg (some (sz + 17)))) := ((fset_fr hΦ9 (Nat.ne_of_gt (Nat.lt_of_lt_of_le (hlt _ _ hc0) (Nat.le_add_right sz 3)))).trans ((fset_fr hΦ8 (Nat.ne_of_gt (Nat.lt_of_lt_of_le (hlt _ _ hc0) (Nat.le_add_right sz 3)))).trans ((fset_fr hΦ7 (Nat.ne_of_gt (Nat.lt_of_lt_of_le (hlt _ _ hc0) (Nat.le_add_right sz 3)))).trans ((fset_fr hΦ6 (Nat.ne_of_gt (Nat.lt_of_lt_of_le (hlt _ _ hc0) (Nat.le_add_right sz 3)))).trans ((fset_fr hΦ5 (Nat.ne_of_gt (Nat.lt_of_lt_of_le (hlt _ _ hc0) (Nat.le_add_right sz 3)))).trans ((fset_fr hΦ4 (Nat.ne_of_gt (Nat.lt_of_lt_of_le (hlt _ _ hc0) (Nat.le_add_right sz 3)))).trans ((fset_fr hΦ3 (Nat.ne_of_gt (Nat.lt_of_lt_of_le (hlt _ _ hc0) (Nat.le_add_right sz 3)))).trans ((fset_fr hΦ2 (Nat.ne_of_gt (Nat.lt_of_lt_of_le (hlt _ _ hc0) (Nat.le_add_right sz 3)))).trans h_26))))))))
  have h_57 : Φ10 (sz + 4) = some (aq_ G 4 4 (va_up (va_up (va_up (va_up (fun _ => none) (0 : Int32).toNatClampNeg (some (sz + 7))) (1 : Int32).toNatClampNeg (some (sz + 11))) (2 : Int32).toNatClampNeg (some (sz + 15))) (3 : Int32).toNatClampNeg (some (sz + 19)))) := ((fset_fr hΦ9 (Nat.ne_of_gt (Nat.lt_of_lt_of_le (hlt _ _ hc0) (Nat.le_add_right sz 4)))).trans ((fset_fr hΦ8 (Nat.ne_of_gt (Nat.lt_of_lt_of_le (hlt _ _ hc0) (Nat.le_add_right sz 4)))).trans ((fset_fr hΦ7 (Nat.ne_of_gt (Nat.lt_of_lt_of_le (hlt _ _ hc0) (Nat.le_add_right sz 4)))).trans ((fset_fr hΦ6 (Nat.ne_of_gt (Nat.lt_of_lt_of_le (hlt _ _ hc0) (Nat.le_add_right sz 4)))).trans ((fset_fr hΦ5 (Nat.ne_of_gt (Nat.lt_of_lt_of_le (hlt _ _ hc0) (Nat.le_add_right sz 4)))).trans ((fset_fr hΦ4 (Nat.ne_of_gt (Nat.lt_of_lt_of_le (hlt _ _ hc0) (Nat.le_add_right sz 4)))).trans ((fset_fr hΦ3 (Nat.ne_of_gt (Nat.lt_of_lt_of_le (hlt _ _ hc0) (Nat.le_add_right sz 4)))).trans ((fset_fr hΦ2 (Nat.ne_of_gt (Nat.lt_of_lt_of_le (hlt _ _ hc0) (Nat.le_add_right sz 4)))).trans h_27))))))))
  have h_58 : Φ10 (sz + 5) = some (o_ 12 [.ref (sz + 6), .int 0, .int 0, .int 0]) := ((fset_fr hΦ9 (Nat.ne_of_gt (Nat.lt_of_lt_of_le (hlt _ _ hc0) (Nat.le_add_right sz 5)))).trans ((fset_fr hΦ8 (Nat.ne_of_gt (Nat.lt_of_lt_of_le (hlt _ _ hc0) (Nat.le_add_right sz 5)))).trans ((fset_fr hΦ7 (Nat.ne_of_gt (Nat.lt_of_lt_of_le (hlt _ _ hc0) (Nat.le_add_right sz 5)))).trans ((fset_fr hΦ6 (Nat.ne_of_gt (Nat.lt_of_lt_of_le (hlt _ _ hc0) (Nat.le_add_right sz 5)))).trans ((fset_fr hΦ5 (Nat.ne_of_gt (Nat.lt_of_lt_of_le (hlt _ _ hc0) (Nat.le_add_right sz 5)))).trans ((fset_fr hΦ4 (Nat.ne_of_gt (Nat.lt_of_lt_of_le (hlt _ _ hc0) (Nat.le_add_right sz 5)))).trans ((fset_fr hΦ3 (Nat.ne_of_gt (Nat.lt_of_lt_of_le (hlt _ _ hc0) (Nat.le_add_right sz 5)))).trans ((fset_fr hΦ2 (Nat.ne_of_gt (Nat.lt_of_lt_of_le (hlt _ _ hc0) (Nat.le_add_right sz 5)))).trans h_28))))))))
  have h_59 : Φ10 (sz + 6) = some (ai_ G 9 (fun _ => 0)) := ((fset_fr hΦ9 (Nat.ne_of_gt (Nat.lt_of_lt_of_le (hlt _ _ hc0) (Nat.le_add_right sz 6)))).trans ((fset_fr hΦ8 (Nat.ne_of_gt (Nat.lt_of_lt_of_le (hlt _ _ hc0) (Nat.le_add_right sz 6)))).trans ((fset_fr hΦ7 (Nat.ne_of_gt (Nat.lt_of_lt_of_le (hlt _ _ hc0) (Nat.le_add_right sz 6)))).trans ((fset_fr hΦ6 (Nat.ne_of_gt (Nat.lt_of_lt_of_le (hlt _ _ hc0) (Nat.le_add_right sz 6)))).trans ((fset_fr hΦ5 (Nat.ne_of_gt (Nat.lt_of_lt_of_le (hlt _ _ hc0) (Nat.le_add_right sz 6)))).trans ((fset_fr hΦ4 (Nat.ne_of_gt (Nat.lt_of_lt_of_le (hlt _ _ hc0) (Nat.le_add_right sz 6)))).trans ((fset_fr hΦ3 (Nat.ne_of_gt (Nat.lt_of_lt_of_le (hlt _ _ hc0) (Nat.le_add_right sz 6)))).trans ((fset_fr hΦ2 (Nat.ne_of_gt (Nat.lt_of_lt_of_le (hlt _ _ hc0) (Nat.le_add_right sz 6)))).trans h_29))))))))
  have h_60 : Φ10 (sz + 7) = some (o_ 12 [.ref (sz + 8), .int 0, .int 0, .int 0]) := ((fset_fr hΦ9 (Nat.ne_of_gt (Nat.lt_of_lt_of_le (hlt _ _ hc0) (Nat.le_add_right sz 7)))).trans ((fset_fr hΦ8 (Nat.ne_of_gt (Nat.lt_of_lt_of_le (hlt _ _ hc0) (Nat.le_add_right sz 7)))).trans ((fset_fr hΦ7 (Nat.ne_of_gt (Nat.lt_of_lt_of_le (hlt _ _ hc0) (Nat.le_add_right sz 7)))).trans ((fset_fr hΦ6 (Nat.ne_of_gt (Nat.lt_of_lt_of_le (hlt _ _ hc0) (Nat.le_add_right sz 7)))).trans ((fset_fr hΦ5 (Nat.ne_of_gt (Nat.lt_of_lt_of_le (hlt _ _ hc0) (Nat.le_add_right sz 7)))).trans ((fset_fr hΦ4 (Nat.ne_of_gt (Nat.lt_of_lt_of_le (hlt _ _ hc0) (Nat.le_add_right sz 7)))).trans ((fset_fr hΦ3 (Nat.ne_of_gt (Nat.lt_of_lt_of_le (hlt _ _ hc0) (Nat.le_add_right sz 7)))).trans ((fset_fr hΦ2 (Nat.ne_of_gt (Nat.lt_of_lt_of_le (hlt _ _ hc0) (Nat.le_add_right sz 7)))).trans h_30))))))))
  have h_61 : Φ10 (sz + 8) = some (ai_ G 9 (fun _ => 0)) := ((fset_fr hΦ9 (Nat.ne_of_gt (Nat.lt_of_lt_of_le (hlt _ _ hc0) (Nat.le_add_right sz 8)))).trans ((fset_fr hΦ8 (Nat.ne_of_gt (Nat.lt_of_lt_of_le (hlt _ _ hc0) (Nat.le_add_right sz 8)))).trans ((fset_fr hΦ7 (Nat.ne_of_gt (Nat.lt_of_lt_of_le (hlt _ _ hc0) (Nat.le_add_right sz 8)))).trans ((fset_fr hΦ6 (Nat.ne_of_gt (Nat.lt_of_lt_of_le (hlt _ _ hc0) (Nat.le_add_right sz 8)))).trans ((fset_fr hΦ5 (Nat.ne_of_gt (Nat.lt_of_lt_of_le (hlt _ _ hc0) (Nat.le_add_right sz 8)))).trans ((fset_fr hΦ4 (Nat.ne_of_gt (Nat.lt_of_lt_of_le (hlt _ _ hc0) (Nat.le_add_right sz 8)))).trans ((fset_fr hΦ3 (Nat.ne_of_gt (Nat.lt_of_lt_of_le (hlt _ _ hc0) (Nat.le_add_right sz 8)))).trans ((fset_fr hΦ2 (Nat.ne_of_gt (Nat.lt_of_lt_of_le (hlt _ _ hc0) (Nat.le_add_right sz 8)))).trans h_31))))))))
  have h_62 : Φ10 (sz + 9) = some (o_ 12 [.ref (sz + 10), .int 0, .int 0, .int 0]) := ((fset_fr hΦ9 (Nat.ne_of_gt (Nat.lt_of_lt_of_le (hlt _ _ hc0) (Nat.le_add_right sz 9)))).trans ((fset_fr hΦ8 (Nat.ne_of_gt (Nat.lt_of_lt_of_le (hlt _ _ hc0) (Nat.le_add_right sz 9)))).trans ((fset_fr hΦ7 (Nat.ne_of_gt (Nat.lt_of_lt_of_le (hlt _ _ hc0) (Nat.le_add_right sz 9)))).trans ((fset_fr hΦ6 (Nat.ne_of_gt (Nat.lt_of_lt_of_le (hlt _ _ hc0) (Nat.le_add_right sz 9)))).trans ((fset_fr hΦ5 (Nat.ne_of_gt (Nat.lt_of_lt_of_le (hlt _ _ hc0) (Nat.le_add_right sz 9)))).trans ((fset_fr hΦ4 (Nat.ne_of_gt (Nat.lt_of_lt_of_le (hlt _ _ hc0) (Nat.le_add_right sz 9)))).trans ((fset_fr hΦ3 (Nat.ne_of_gt (Nat.lt_of_lt_of_le (hlt _ _ hc0) (Nat.le_add_right sz 9)))).trans ((fset_fr hΦ2 (Nat.ne_of_gt (Nat.lt_of_lt_of_le (hlt _ _ hc0) (Nat.le_add_right sz 9)))).trans h_32))))))))
  have h_63 : Φ10 (sz + 10) = some (ai_ G 9 (fun _ => 0)) := ((fset_fr hΦ9 (Nat.ne_of_gt (Nat.lt_of_lt_of_le (hlt _ _ hc0) (Nat.le_add_right sz 10)))).trans ((fset_fr hΦ8 (Nat.ne_of_gt (Nat.lt_of_lt_of_le (hlt _ _ hc0) (Nat.le_add_right sz 10)))).trans ((fset_fr hΦ7 (Nat.ne_of_gt (Nat.lt_of_lt_of_le (hlt _ _ hc0) (Nat.le_add_right sz 10)))).trans ((fset_fr hΦ6 (Nat.ne_of_gt (Nat.lt_of_lt_of_le (hlt _ _ hc0) (Nat.le_add_right sz 10)))).trans ((fset_fr hΦ5 (Nat.ne_of_gt (Nat.lt_of_lt_of_le (hlt _ _ hc0) (Nat.le_add_right sz 10)))).trans ((fset_fr hΦ4 (Nat.ne_of_gt (Nat.lt_of_lt_of_le (hlt _ _ hc0) (Nat.le_add_right sz 10)))).trans ((fset_fr hΦ3 (Nat.ne_of_gt (Nat.lt_of_lt_of_le (hlt _ _ hc0) (Nat.le_add_right sz 10)))).trans ((fset_fr hΦ2 (Nat.ne_of_gt (Nat.lt_of_lt_of_le (hlt _ _ hc0) (Nat.le_add_right sz 10)))).trans h_33))))))))
  have h_64 : Φ10 (sz + 11) = some (o_ 12 [.ref (sz + 12), .int 0, .int 0, .int 0]) := ((fset_fr hΦ9 (Nat.ne_of_gt (Nat.lt_of_lt_of_le (hlt _ _ hc0) (Nat.le_add_right sz 11)))).trans ((fset_fr hΦ8 (Nat.ne_of_gt (Nat.lt_of_lt_of_le (hlt _ _ hc0) (Nat.le_add_right sz 11)))).trans ((fset_fr hΦ7 (Nat.ne_of_gt (Nat.lt_of_lt_of_le (hlt _ _ hc0) (Nat.le_add_right sz 11)))).trans ((fset_fr hΦ6 (Nat.ne_of_gt (Nat.lt_of_lt_of_le (hlt _ _ hc0) (Nat.le_add_right sz 11)))).trans ((fset_fr hΦ5 (Nat.ne_of_gt (Nat.lt_of_lt_of_le (hlt _ _ hc0) (Nat.le_add_right sz 11)))).trans ((fset_fr hΦ4 (Nat.ne_of_gt (Nat.lt_of_lt_of_le (hlt _ _ hc0) (Nat.le_add_right sz 11)))).trans ((fset_fr hΦ3 (Nat.ne_of_gt (Nat.lt_of_lt_of_le (hlt _ _ hc0) (Nat.le_add_right sz 11)))).trans ((fset_fr hΦ2 (Nat.ne_of_gt (Nat.lt_of_lt_of_le (hlt _ _ hc0) (Nat.le_add_right sz 11)))).trans h_34))))))))
  have h_65 : Φ10 (sz + 12) = some (ai_ G 9 (fun _ => 0)) := ((fset_fr hΦ9 (Nat.ne_of_gt (Nat.lt_of_lt_of_le (hlt _ _ hc0) (Nat.le_add_right sz 12)))).trans ((fset_fr hΦ8 (Nat.ne_of_gt (Nat.lt_of_lt_of_le (hlt _ _ hc0) (Nat.le_add_right sz 12)))).trans ((fset_fr hΦ7 (Nat.ne_of_gt (Nat.lt_of_lt_of_le (hlt _ _ hc0) (Nat.le_add_right sz 12)))).trans ((fset_fr hΦ6 (Nat.ne_of_gt (Nat.lt_of_lt_of_le (hlt _ _ hc0) (Nat.le_add_right sz 12)))).trans ((fset_fr hΦ5 (Nat.ne_of_gt (Nat.lt_of_lt_of_le (hlt _ _ hc0) (Nat.le_add_right sz 12)))).trans ((fset_fr hΦ4 (Nat.ne_of_gt (Nat.lt_of_lt_of_le (hlt _ _ hc0) (Nat.le_add_right sz 12)))).trans ((fset_fr hΦ3 (Nat.ne_of_gt (Nat.lt_of_lt_of_le (hlt _ _ hc0) (Nat.le_add_right sz 12)))).trans ((fset_fr hΦ2 (Nat.ne_of_gt (Nat.lt_of_lt_of_le (hlt _ _ hc0) (Nat.le_add_right sz 12)))).trans h_35))))))))
  have h_66 : Φ10 (sz + 13) = some (o_ 12 [.ref (sz + 14), .int 0, .int 0, .int 0]) := ((fset_fr hΦ9 (Nat.ne_of_gt (Nat.lt_of_lt_of_le (hlt _ _ hc0) (Nat.le_add_right sz 13)))).trans ((fset_fr hΦ8 (Nat.ne_of_gt (Nat.lt_of_lt_of_le (hlt _ _ hc0) (Nat.le_add_right sz 13)))).trans ((fset_fr hΦ7 (Nat.ne_of_gt (Nat.lt_of_lt_of_le (hlt _ _ hc0) (Nat.le_add_right sz 13)))).trans ((fset_fr hΦ6 (Nat.ne_of_gt (Nat.lt_of_lt_of_le (hlt _ _ hc0) (Nat.le_add_right sz 13)))).trans ((fset_fr hΦ5 (Nat.ne_of_gt (Nat.lt_of_lt_of_le (hlt _ _ hc0) (Nat.le_add_right sz 13)))).trans ((fset_fr hΦ4 (Nat.ne_of_gt (Nat.lt_of_lt_of_le (hlt _ _ hc0) (Nat.le_add_right sz 13)))).trans ((fset_fr hΦ3 (Nat.ne_of_gt (Nat.lt_of_lt_of_le (hlt _ _ hc0) (Nat.le_add_right sz 13)))).trans ((fset_fr hΦ2 (Nat.ne_of_gt (Nat.lt_of_lt_of_le (hlt _ _ hc0) (Nat.le_add_right sz 13)))).trans h_36))))))))
  have h_67 : Φ10 (sz + 14) = some (ai_ G 9 (fun _ => 0)) := ((fset_fr hΦ9 (Nat.ne_of_gt (Nat.lt_of_lt_of_le (hlt _ _ hc0) (Nat.le_add_right sz 14)))).trans ((fset_fr hΦ8 (Nat.ne_of_gt (Nat.lt_of_lt_of_le (hlt _ _ hc0) (Nat.le_add_right sz 14)))).trans ((fset_fr hΦ7 (Nat.ne_of_gt (Nat.lt_of_lt_of_le (hlt _ _ hc0) (Nat.le_add_right sz 14)))).trans ((fset_fr hΦ6 (Nat.ne_of_gt (Nat.lt_of_lt_of_le (hlt _ _ hc0) (Nat.le_add_right sz 14)))).trans ((fset_fr hΦ5 (Nat.ne_of_gt (Nat.lt_of_lt_of_le (hlt _ _ hc0) (Nat.le_add_right sz 14)))).trans ((fset_fr hΦ4 (Nat.ne_of_gt (Nat.lt_of_lt_of_le (hlt _ _ hc0) (Nat.le_add_right sz 14)))).trans ((fset_fr hΦ3 (Nat.ne_of_gt (Nat.lt_of_lt_of_le (hlt _ _ hc0) (Nat.le_add_right sz 14)))).trans ((fset_fr hΦ2 (Nat.ne_of_gt (Nat.lt_of_lt_of_le (hlt _ _ hc0) (Nat.le_add_right sz 14)))).trans h_37))))))))
  have h_68 : Φ10 (sz + 15) = some (o_ 12 [.ref (sz + 16), .int 0, .int 0, .int 0]) := ((fset_fr hΦ9 (Nat.ne_of_gt (Nat.lt_of_lt_of_le (hlt _ _ hc0) (Nat.le_add_right sz 15)))).trans ((fset_fr hΦ8 (Nat.ne_of_gt (Nat.lt_of_lt_of_le (hlt _ _ hc0) (Nat.le_add_right sz 15)))).trans ((fset_fr hΦ7 (Nat.ne_of_gt (Nat.lt_of_lt_of_le (hlt _ _ hc0) (Nat.le_add_right sz 15)))).trans ((fset_fr hΦ6 (Nat.ne_of_gt (Nat.lt_of_lt_of_le (hlt _ _ hc0) (Nat.le_add_right sz 15)))).trans ((fset_fr hΦ5 (Nat.ne_of_gt (Nat.lt_of_lt_of_le (hlt _ _ hc0) (Nat.le_add_right sz 15)))).trans ((fset_fr hΦ4 (Nat.ne_of_gt (Nat.lt_of_lt_of_le (hlt _ _ hc0) (Nat.le_add_right sz 15)))).trans ((fset_fr hΦ3 (Nat.ne_of_gt (Nat.lt_of_lt_of_le (hlt _ _ hc0) (Nat.le_add_right sz 15)))).trans ((fset_fr hΦ2 (Nat.ne_of_gt (Nat.lt_of_lt_of_le (hlt _ _ hc0) (Nat.le_add_right sz 15)))).trans h_38))))))))
  have h_69 : Φ10 (sz + 16) = some (ai_ G 9 (fun _ => 0)) := ((fset_fr hΦ9 (Nat.ne_of_gt (Nat.lt_of_lt_of_le (hlt _ _ hc0) (Nat.le_add_right sz 16)))).trans ((fset_fr hΦ8 (Nat.ne_of_gt (Nat.lt_of_lt_of_le (hlt _ _ hc0) (Nat.le_add_right sz 16)))).trans ((fset_fr hΦ7 (Nat.ne_of_gt (Nat.lt_of_lt_of_le (hlt _ _ hc0) (Nat.le_add_right sz 16)))).trans ((fset_fr hΦ6 (Nat.ne_of_gt (Nat.lt_of_lt_of_le (hlt _ _ hc0) (Nat.le_add_right sz 16)))).trans ((fset_fr hΦ5 (Nat.ne_of_gt (Nat.lt_of_lt_of_le (hlt _ _ hc0) (Nat.le_add_right sz 16)))).trans ((fset_fr hΦ4 (Nat.ne_of_gt (Nat.lt_of_lt_of_le (hlt _ _ hc0) (Nat.le_add_right sz 16)))).trans ((fset_fr hΦ3 (Nat.ne_of_gt (Nat.lt_of_lt_of_le (hlt _ _ hc0) (Nat.le_add_right sz 16)))).trans ((fset_fr hΦ2 (Nat.ne_of_gt (Nat.lt_of_lt_of_le (hlt _ _ hc0) (Nat.le_add_right sz 16)))).trans h_39))))))))
  have h_70 : Φ10 (sz + 17) = some (o_ 12 [.ref (sz + 18), .int 0, .int 0, .int 0]) := ((fset_fr hΦ9 (Nat.ne_of_gt (Nat.lt_of_lt_of_le (hlt _ _ hc0) (Nat.le_add_right sz 17)))).trans ((fset_fr hΦ8 (Nat.ne_of_gt (Nat.lt_of_lt_of_le (hlt _ _ hc0) (Nat.le_add_right sz 17)))).trans ((fset_fr hΦ7 (Nat.ne_of_gt (Nat.lt_of_lt_of_le (hlt _ _ hc0) (Nat.le_add_right sz 17)))).trans ((fset_fr hΦ6 (Nat.ne_of_gt (Nat.lt_of_lt_of_le (hlt _ _ hc0) (Nat.le_add_right sz 17)))).trans ((fset_fr hΦ5 (Nat.ne_of_gt (Nat.lt_of_lt_of_le (hlt _ _ hc0) (Nat.le_add_right sz 17)))).trans ((fset_fr hΦ4 (Nat.ne_of_gt (Nat.lt_of_lt_of_le (hlt _ _ hc0) (Nat.le_add_right sz 17)))).trans ((fset_fr hΦ3 (Nat.ne_of_gt (Nat.lt_of_lt_of_le (hlt _ _ hc0) (Nat.le_add_right sz 17)))).trans ((fset_fr hΦ2 (Nat.ne_of_gt (Nat.lt_of_lt_of_le (hlt _ _ hc0) (Nat.le_add_right sz 17)))).trans h_40))))))))
  have h_71 : Φ10 (sz + 18) = some (ai_ G 9 (fun _ => 0)) := ((fset_fr hΦ9 (Nat.ne_of_gt (Nat.lt_of_lt_of_le (hlt _ _ hc0) (Nat.le_add_right sz 18)))).trans ((fset_fr hΦ8 (Nat.ne_of_gt (Nat.lt_of_lt_of_le (hlt _ _ hc0) (Nat.le_add_right sz 18)))).trans ((fset_fr hΦ7 (Nat.ne_of_gt (Nat.lt_of_lt_of_le (hlt _ _ hc0) (Nat.le_add_right sz 18)))).trans ((fset_fr hΦ6 (Nat.ne_of_gt (Nat.lt_of_lt_of_le (hlt _ _ hc0) (Nat.le_add_right sz 18)))).trans ((fset_fr hΦ5 (Nat.ne_of_gt (Nat.lt_of_lt_of_le (hlt _ _ hc0) (Nat.le_add_right sz 18)))).trans ((fset_fr hΦ4 (Nat.ne_of_gt (Nat.lt_of_lt_of_le (hlt _ _ hc0) (Nat.le_add_right sz 18)))).trans ((fset_fr hΦ3 (Nat.ne_of_gt (Nat.lt_of_lt_of_le (hlt _ _ hc0) (Nat.le_add_right sz 18)))).trans ((fset_fr hΦ2 (Nat.ne_of_gt (Nat.lt_of_lt_of_le (hlt _ _ hc0) (Nat.le_add_right sz 18)))).trans h_41))))))))
  have h_72 : Φ10 (sz + 19) = some (o_ 12 [.ref (sz + 20), .int 0, .int 0, .int 0]) := ((fset_fr hΦ9 (Nat.ne_of_gt (Nat.lt_of_lt_of_le (hlt _ _ hc0) (Nat.le_add_right sz 19)))).trans ((fset_fr hΦ8 (Nat.ne_of_gt (Nat.lt_of_lt_of_le (hlt _ _ hc0) (Nat.le_add_right sz 19)))).trans ((fset_fr hΦ7 (Nat.ne_of_gt (Nat.lt_of_lt_of_le (hlt _ _ hc0) (Nat.le_add_right sz 19)))).trans ((fset_fr hΦ6 (Nat.ne_of_gt (Nat.lt_of_lt_of_le (hlt _ _ hc0) (Nat.le_add_right sz 19)))).trans ((fset_fr hΦ5 (Nat.ne_of_gt (Nat.lt_of_lt_of_le (hlt _ _ hc0) (Nat.le_add_right sz 19)))).trans ((fset_fr hΦ4 (Nat.ne_of_gt (Nat.lt_of_lt_of_le (hlt _ _ hc0) (Nat.le_add_right sz 19)))).trans ((fset_fr hΦ3 (Nat.ne_of_gt (Nat.lt_of_lt_of_le (hlt _ _ hc0) (Nat.le_add_right sz 19)))).trans ((fset_fr hΦ2 (Nat.ne_of_gt (Nat.lt_of_lt_of_le (hlt _ _ hc0) (Nat.le_add_right sz 19)))).trans h_42))))))))
  have h_73 : Φ10 (sz + 20) = some (ai_ G 9 (fun _ => 0)) := ((fset_fr hΦ9 (Nat.ne_of_gt (Nat.lt_of_lt_of_le (hlt _ _ hc0) (Nat.le_add_right sz 20)))).trans ((fset_fr hΦ8 (Nat.ne_of_gt (Nat.lt_of_lt_of_le (hlt _ _ hc0) (Nat.le_add_right sz 20)))).trans ((fset_fr hΦ7 (Nat.ne_of_gt (Nat.lt_of_lt_of_le (hlt _ _ hc0) (Nat.le_add_right sz 20)))).trans ((fset_fr hΦ6 (Nat.ne_of_gt (Nat.lt_of_lt_of_le (hlt _ _ hc0) (Nat.le_add_right sz 20)))).trans ((fset_fr hΦ5 (Nat.ne_of_gt (Nat.lt_of_lt_of_le (hlt _ _ hc0) (Nat.le_add_right sz 20)))).trans ((fset_fr hΦ4 (Nat.ne_of_gt (Nat.lt_of_lt_of_le (hlt _ _ hc0) (Nat.le_add_right sz 20)))).trans ((fset_fr hΦ3 (Nat.ne_of_gt (Nat.lt_of_lt_of_le (hlt _ _ hc0) (Nat.le_add_right sz 20)))).trans ((fset_fr hΦ2 (Nat.ne_of_gt (Nat.lt_of_lt_of_le (hlt _ _ hc0) (Nat.le_add_right sz 20)))).trans h_43))))))))
  exact z_ret_v B dX6_init_50 ⟨rfl, rfl, (fun b9 hb9 h9a => ((fset_fr hΦ9 h9a).trans ((fset_fr hΦ8 h9a).trans ((fset_fr hΦ7 h9a).trans ((fset_fr hΦ6 h9a).trans ((fset_fr hΦ5 h9a).trans ((fset_fr hΦ4 h9a).trans ((fset_fr hΦ3 h9a).trans ((fset_fr hΦ2 h9a).trans ((fr1 b9 (Nat.lt_of_lt_of_le hb9 (Nat.le_add_right sz 1)) (Nat.ne_of_lt hb9)).trans ((fset_fr hΦ1 (Nat.ne_of_lt hb9)).trans rfl))))))))))), h_52, h_53, h_54, h_55, h_56, h_57, h_58, h_59, h_60, h_61, h_62, h_63, h_64, h_65, h_66, h_67, h_68, h_69, h_70, h_71, h_72, h_73⟩

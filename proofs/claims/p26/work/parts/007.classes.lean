theorem pk_cpy0 {f g : Nat → Int32} {n j : Nat} (h : j < n) : va_cpy f g 0 0 n j = f j := by rw [pk_cpy_in (Nat.zero_le _) (by omega)]; congr 1; omega

set_option maxHeartbeats 4000000 in
set_option maxRecDepth 100000 in
/-- Arrays.fill -/
theorem c_J7_fill_53178 (G : EnvG) (l : Launch) (Φ : Hm) (sz : Nat) (a n : Nat) (f : Nat → Int32) (v : Int32) (hc0 : Φ a = some (ai_ G n f)) (hna_a : G.2.2.2 ≤ a) (hn : n < 2 ^ 31) : Ct G l yJ7_fill_53178 wsJ7_fill_53178 ({ frames := 0, cells := 0, slots := 0, locals := 0 }) 0 0 [.ref a, .int v] Φ sz (fun r Φ1 sz1 => r = none ∧ sz1 = sz ∧ (∀ b9 : Nat, b9 ≠ a → Φ1 b9 = Φ b9) ∧ Φ1 a = some (ai_ G n (fun _ => v))) := by
  refine Ct.of (cc := cJ7_fill_53178) (maxL := 4) (ret := none) (by decide) rfl (Nat.le_of_ble_eq_true rfl) ?_
  intro p e s m below meth c B
  have loop : ∀ (k i : Nat) (Φi : Hm) (fi : Nat → Int32), i + k = n → Φi a = some (ai_ G n fi) → (∀ j, j < i → fi j = v) → (∀ b9 : Nat, b9 ≠ a → Φi b9 = Φ b9) → Z p l e ({ frames := 0, cells := 0, slots := 0, locals := 0 } : Room) s m (List.toArray [.ref a, .int v]) below meth c (MQ below (QU G (fun r Φ1 sz1 => r = none ∧ sz1 = sz ∧ (∀ b9 : Nat, b9 ≠ a → Φ1 b9 = Φ b9) ∧ Φ1 a = some (ai_ G n (fun _ => v)))) (List.toArray [.ref a, .int v]) s 0 0 (fun q => G.2.2.2 ≤ q)) G 4 5 [(3, .int (nI n)), (2, .int (nI i)), (0, .ref a), (1, .int v)] [] Φi sz 0 0 := by
    intro k
    induction k with
    | zero =>
      intro i Φi fi hi ha hf hfr
      refine z_iload_n B dJ7_fill_53178_5 rfl 1 rfl ?_
      refine z_iload_n B dJ7_fill_53178_6 rfl 0 rfl ?_
      refine z_icmp_ge (tgt := 20) B dJ7_fill_53178_7 rfl (fun c_1 => ?_) (fun h9 => absurd (nI_le (by omega) (by omega)) h9)
      refine z_row (t := 0) (g := fun _ => v) ha (fun j hj => hf j (by omega)) (fun Φ1 hΦ1 => ?_)
      exact z_ret_v B dJ7_fill_53178_20 ⟨rfl, rfl, fun b9 h9 => (fset_fr hΦ1 h9).trans (hfr b9 h9), fset_at hΦ1⟩
    | succ k ih =>
      intro i Φi fi hi ha hf hfr
      refine z_iload_n B dJ7_fill_53178_5 rfl 1 rfl ?_
      refine z_iload_n B dJ7_fill_53178_6 rfl 0 rfl ?_
      refine z_icmp_ge (tgt := 20) B dJ7_fill_53178_7 rfl (fun h9 => absurd h9 (nI_ge (by omega) (by omega))) (fun c_1 => ?_)
      refine z_aload_n B dJ7_fill_53178_10 rfl 2 rfl ?_
      refine z_iload_n B dJ7_fill_53178_11 rfl 1 rfl ?_
      refine z_iload_n B dJ7_fill_53178_12 rfl 3 rfl ?_
      refine z_iast B ha hna_a (vp_in_nI (by omega) (by omega)) dJ7_fill_53178_13 (fun Φ1 hΦ1 => ?_)
      have h_1 : Φ1 a = some (ai_ G n (upd fi (nI i).toNatClampNeg v)) := fset_at hΦ1
      refine z_iinc (k := 1) (v := nI (i + 1)) (lv' := [(2, .int (nI (i + 1))), (3, .int (nI n)), (0, .ref a), (1, .int v)]) B dJ7_fill_53178_14 rfl (nI_1 i) (Nat.le_of_ble_eq_true rfl) rfl ?_
      refine z_goto (tgt := 5) B dJ7_fill_53178_17 rfl ?_
      refine z_lv [1, 0, 2, 3] rfl ?_
      refine ih (i + 1) Φ1 _ (by omega) h_1 (fun j hj => ?_) (fun b9 h9 => (fset_fr hΦ1 h9).trans (hfr b9 h9))
      by_cases hji : j = i
      · subst hji
        simp [upd, nI_clamp (show j < 2 ^ 31 by omega)]
      · have hj2 : j < i := by omega
        simp [upd, nI_clamp (show i < 2 ^ 31 by omega), hji, hf j hj2]
  show Z p l e _ s m _ below meth c _ G 4 0 [(0, .ref a), (1, .int v)] [] Φ sz 0 0
  refine z_iconst (v := 0) B dJ7_fill_53178_0 rfl ?_
  refine z_istore_n (lv' := [(2, .int 0), (0, .ref a), (1, .int v)]) B dJ7_fill_53178_1 rfl (Nat.le_of_ble_eq_true rfl) rfl ?_
  refine z_aload_n B dJ7_fill_53178_2 rfl 1 rfl ?_
  refine z_alen (t := 0) (v := nI n) B rfl hc0 rfl dJ7_fill_53178_3 ?_
  refine z_istore_n (lv' := [(3, .int (nI n)), (2, .int 0), (0, .ref a), (1, .int v)]) B dJ7_fill_53178_4 rfl (Nat.le_of_ble_eq_true rfl) rfl ?_
  refine z_lv [0, 1, 2, 3] rfl ?_
  exact loop n 0 Φ f (by omega) hc0 (fun j hj => absurd hj (Nat.not_lt_zero j)) (fun _ _ => rfl)

set_option maxHeartbeats 4000000 in
set_option maxRecDepth 100000 in
/-- Arrays.fill -/
theorem c_J7_fill_d0a16 (G : EnvG) (l : Launch) (Φ : Hm) (sz : Nat) (a n : Nat) (f : Nat → Int64) (v : Int64) (hc0 : Φ a = some (al_ G n f)) (hna_a : G.2.2.2 ≤ a) (hn : n < 2 ^ 31) : Ct G l yJ7_fill_d0a16 wsJ7_fill_d0a16 ({ frames := 0, cells := 0, slots := 0, locals := 0 }) 0 0 [.ref a, .long v] Φ sz (fun r Φ1 sz1 => r = none ∧ sz1 = sz ∧ (∀ b9 : Nat, b9 ≠ a → Φ1 b9 = Φ b9) ∧ Φ1 a = some (al_ G n (fun _ => v))) := by
  refine Ct.of (cc := cJ7_fill_d0a16) (maxL := 5) (ret := none) (by decide) rfl (Nat.le_of_ble_eq_true rfl) ?_
  intro p e s m below meth c B
  have loop : ∀ (k i : Nat) (Φi : Hm) (fi : Nat → Int64), i + k = n → Φi a = some (al_ G n fi) → (∀ j, j < i → fi j = v) → (∀ b9 : Nat, b9 ≠ a → Φi b9 = Φ b9) → Z p l e ({ frames := 0, cells := 0, slots := 0, locals := 0 } : Room) s m (List.toArray [.ref a, .long v]) below meth c (MQ below (QU G (fun r Φ1 sz1 => r = none ∧ sz1 = sz ∧ (∀ b9 : Nat, b9 ≠ a → Φ1 b9 = Φ b9) ∧ Φ1 a = some (al_ G n (fun _ => v)))) (List.toArray [.ref a, .long v]) s 0 0 (fun q => G.2.2.2 ≤ q)) G 5 6 [(4, .int (nI n)), (3, .int (nI i)), (0, .ref a), (1, .long v)] [] Φi sz 0 0 := by
    intro k
    induction k with
    | zero =>
      intro i Φi fi hi ha hf hfr
      refine z_iload_n B dJ7_fill_d0a16_6 rfl 1 rfl ?_
      refine z_iload B dJ7_fill_d0a16_7 0 rfl ?_
      refine z_icmp_ge (tgt := 22) B dJ7_fill_d0a16_9 rfl (fun c_1 => ?_) (fun h9 => absurd (nI_le (by omega) (by omega)) h9)
      refine z_rowL (t := 1) (g := fun _ => v) ha (fun j hj => hf j (by omega)) (fun Φ1 hΦ1 => ?_)
      exact z_ret_v B dJ7_fill_d0a16_22 ⟨rfl, rfl, fun b9 h9 => (fset_fr hΦ1 h9).trans (hfr b9 h9), fset_at hΦ1⟩
    | succ k ih =>
      intro i Φi fi hi ha hf hfr
      refine z_iload_n B dJ7_fill_d0a16_6 rfl 1 rfl ?_
      refine z_iload B dJ7_fill_d0a16_7 0 rfl ?_
      refine z_icmp_ge (tgt := 22) B dJ7_fill_d0a16_9 rfl (fun h9 => absurd h9 (nI_ge (by omega) (by omega))) (fun c_1 => ?_)
      refine z_aload_n B dJ7_fill_d0a16_12 rfl 2 rfl ?_
      refine z_iload_n B dJ7_fill_d0a16_13 rfl 1 rfl ?_
      refine z_lload_n B dJ7_fill_d0a16_14 rfl 3 rfl ?_
      refine z_last B ha hna_a (vp_in_nI (by omega) (by omega)) dJ7_fill_d0a16_15 (fun Φ1 hΦ1 => ?_)
      have h_1 : Φ1 a = some (al_ G n (vp_updL fi (nI i).toNatClampNeg v)) := fset_at hΦ1
      refine z_iinc (k := 1) (v := nI (i + 1)) (lv' := [(3, .int (nI (i + 1))), (4, .int (nI n)), (0, .ref a), (1, .long v)]) B dJ7_fill_d0a16_16 rfl (nI_1 i) (Nat.le_of_ble_eq_true rfl) rfl ?_
      refine z_goto (tgt := 6) B dJ7_fill_d0a16_19 rfl ?_
      refine z_lv [1, 0, 2, 3] rfl ?_
      refine ih (i + 1) Φ1 _ (by omega) h_1 (fun j hj => ?_) (fun b9 h9 => (fset_fr hΦ1 h9).trans (hfr b9 h9))
      by_cases hji : j = i
      · subst hji
        simp [vp_updL, nI_clamp (show j < 2 ^ 31 by omega)]
      · have hj2 : j < i := by omega
        simp [vp_updL, nI_clamp (show i < 2 ^ 31 by omega), hji, hf j hj2]
  show Z p l e _ s m _ below meth c _ G 5 0 [(0, .ref a), (1, .long v)] [] Φ sz 0 0
  refine z_iconst (v := 0) B dJ7_fill_d0a16_0 rfl ?_
  refine z_istore_n (lv' := [(3, .int 0), (0, .ref a), (1, .long v)]) B dJ7_fill_d0a16_1 rfl (Nat.le_of_ble_eq_true rfl) rfl ?_
  refine z_aload_n B dJ7_fill_d0a16_2 rfl 1 rfl ?_
  refine z_alen (t := 1) (v := nI n) B rfl hc0 rfl dJ7_fill_d0a16_3 ?_
  refine z_istore (lv' := [(4, .int (nI n)), (3, .int 0), (0, .ref a), (1, .long v)]) B dJ7_fill_d0a16_4 (Nat.le_of_ble_eq_true rfl) rfl ?_
  refine z_lv [0, 1, 2, 3] rfl ?_
  exact loop n 0 Φ f (by omega) hc0 (fun j hj => absurd hj (Nat.not_lt_zero j)) (fun _ _ => rfl)

set_option maxHeartbeats 4000000 in
set_option maxRecDepth 100000 in
theorem c_X10_clear (G : EnvG) (l : Launch) (Φ : Hm) (sz : Nat) (h : Nat) (f : Nat) (a : Int32) (b : Int32) (d : Int32) (hc0 : Φ h = some (o_ 12 [.ref f, .int a, .int b, .int d])) (hna_h : G.2.2.2 ≤ h) : Ct G l yX10_clear wsX10_clear ({ frames := 0, cells := 0, slots := 0, locals := 0 }) 0 0 [.ref h] Φ sz (fun v Φ1 sz1 => v = none ∧ sz1 = sz ∧ (∀ b9 : Nat, b9 ≠ h → Φ1 b9 = Φ b9) ∧ Φ1 h = some (o_ 12 [.ref f, .int 0, .int 0, .int 0])) := by
  refine Ct.of (cc := cX10_clear) (maxL := 1) (ret := none) (by decide) rfl (Nat.le_of_ble_eq_true rfl) ?_
  intro p9 e9 s9 m9 w9 t9 k9 B
  show Z p9 l e9 _ s9 m9 _ w9 t9 k9 _ G 1 0 [(0, .ref h)] [] Φ (sz) 0 0
  refine z_aload_n B dX10_clear_0 rfl 0 rfl ?_
  refine z_iconst (v := 0) B dX10_clear_1 rfl ?_
  refine z_put (ref := "FlowExporter$Template") (C := RX10) (T := TX10) (N := 4) (ci := 12) (v := .int 0) B (by decide +kernel) tyX10 tyX10_ok nmX10 rfl 1 (by decide) (by decide +kernel) rfl (Or.inl rfl) hc0 hna_h rfl rfl (Nat.le_of_ble_eq_true rfl) dX10_clear_2 (fun Φ1 hΦ1 => ?_)
  have h_1 : Φ1 h = some (o_ 12 [.ref f, .int 0, .int b, .int d]) := fset_at hΦ1
  refine z_aload_n B dX10_clear_5 rfl 0 rfl ?_
  refine z_iconst (v := 0) B dX10_clear_6 rfl ?_
  refine z_put (ref := "FlowExporter$Template") (C := RX10) (T := TX10) (N := 4) (ci := 12) (v := .int 0) B (by decide +kernel) tyX10 tyX10_ok nmX10 rfl 2 (by decide) (by decide +kernel) rfl (Or.inl rfl) h_1 hna_h rfl rfl (Nat.le_of_ble_eq_true rfl) dX10_clear_7 (fun Φ2 hΦ2 => ?_)
  have h_2 : Φ2 h = some (o_ 12 [.ref f, .int 0, .int 0, .int d]) := fset_at hΦ2
  refine z_aload_n B dX10_clear_10 rfl 0 rfl ?_
  refine z_iconst (v := 0) B dX10_clear_11 rfl ?_
  refine z_put (ref := "FlowExporter$Template") (C := RX10) (T := TX10) (N := 4) (ci := 12) (v := .int 0) B (by decide +kernel) tyX10 tyX10_ok nmX10 rfl 3 (by decide) (by decide +kernel) rfl (Or.inl rfl) h_2 hna_h rfl rfl (Nat.le_of_ble_eq_true rfl) dX10_clear_12 (fun Φ3 hΦ3 => ?_)
  have h_3 : Φ3 h = some (o_ 12 [.ref f, .int 0, .int 0, .int 0]) := fset_at hΦ3
  exact z_ret_v B dX10_clear_15 ⟨rfl, rfl, (fun b9 h9a => ((fset_fr hΦ3 h9a).trans ((fset_fr hΦ2 h9a).trans ((fset_fr hΦ1 h9a).trans rfl)))), h_3⟩

set_option maxHeartbeats 4000000 in
set_option maxRecDepth 100000 in
theorem c_X10_init (G : EnvG) (l : Launch) (Φ : Hm) (sz : Nat) (h : Nat) (hc0 : Φ h = some (o_ 12 [.null, .int 0, .int 0, .int 0])) (hna_h : G.2.2.2 ≤ h) : Ct G l yX10_init wsX10_init ({ frames := 1, cells := 1, slots := 9, locals := 12 }) 1 9 [.ref h] Φ sz (fun v Φ1 sz1 => v = none ∧ sz1 = sz + 1 ∧ (∀ b9 : Nat, b9 < sz → b9 ≠ h → Φ1 b9 = Φ b9) ∧ Φ1 h = some (o_ 12 [.ref sz, .int 0, .int 0, .int 0]) ∧ Φ1 sz = some (ai_ G 9 (fun _ => 0))) := by
  refine Ct.of (cc := cX10_init) (maxL := 1) (ret := none) (by decide) rfl (Nat.le_of_ble_eq_true rfl) ?_
  intro p9 e9 s9 m9 w9 t9 k9 B
  show Z p9 l e9 _ s9 m9 _ w9 t9 k9 _ G 1 0 [(0, .ref h)] [] Φ (sz) 0 0
  refine z_lt (fun hlt => ?_)
  refine z_aload_n B dX10_init_0 rfl 0 rfl ?_
  refine z_obj B (by decide +kernel) (by decide +kernel) (by decide +kernel) rfl ⟨Nat.le_of_ble_eq_true rfl, Nat.le_of_ble_eq_true rfl⟩ dX10_init_1 ?_
  refine z_aload_n B dX10_init_4 rfl 0 rfl ?_
  refine z_bipush (v := 9) B dX10_init_5 rfl ?_
  refine z_newa (atype := .int) (ty := .int) (t := 0) (N' := 9) (a0 := (9, .inl (fun _ => 0))) B (by decide +kernel) rfl rfl (fun _ h9 => by cases h9) (fun _ => rfl) (by decide) rfl (Nat.le_of_ble_eq_true rfl) (Nat.le_of_ble_eq_true rfl) (Nat.le_of_ble_eq_true rfl) dX10_init_7 (fun Φ1 hΦ1 hz1 => ?_)
  have h_1 : Φ1 sz = some (ai_ G 9 (fun _ => 0)) := fset_at hΦ1
  have h_2 : Φ1 h = some (o_ 12 [.null, .int 0, .int 0, .int 0]) := ((fset_fr hΦ1 (Nat.ne_of_lt (hlt _ _ hc0))).trans hc0)
  refine z_put (ref := "FlowExporter$Template") (C := RX10) (T := TX10) (N := 4) (ci := 12) (v := .ref sz) B (by decide +kernel) tyX10 tyX10_ok nmX10 rfl 0 (by decide) (by decide +kernel) rfl (Or.inr ⟨rfl, rfl, rfl⟩) h_2 hna_h rfl rfl (Nat.le_of_ble_eq_true rfl) dX10_init_9 (fun Φ2 hΦ2 => ?_)
  have h_3 : Φ2 h = some (o_ 12 [.ref sz, .int 0, .int 0, .int 0]) := fset_at hΦ2
  refine z_aload_n B dX10_init_12 rfl 0 rfl ?_
  refine z_iconst (v := 0) B dX10_init_13 rfl ?_
  refine z_put (ref := "FlowExporter$Template") (C := RX10) (T := TX10) (N := 4) (ci := 12) (v := .int 0) B (by decide +kernel) tyX10 tyX10_ok nmX10 rfl 1 (by decide) (by decide +kernel) rfl (Or.inl rfl) h_3 hna_h rfl rfl (Nat.le_of_ble_eq_true rfl) dX10_init_14 (fun Φ3 hΦ3 => ?_)
  have h_4 : Φ3 h = some (o_ 12 [.ref sz, .int 0, .int 0, .int 0]) := fset_at hΦ3
  refine z_aload_n B dX10_init_17 rfl 0 rfl ?_
  refine z_iconst (v := 0) B dX10_init_18 rfl ?_
  refine z_put (ref := "FlowExporter$Template") (C := RX10) (T := TX10) (N := 4) (ci := 12) (v := .int 0) B (by decide +kernel) tyX10 tyX10_ok nmX10 rfl 2 (by decide) (by decide +kernel) rfl (Or.inl rfl) h_4 hna_h rfl rfl (Nat.le_of_ble_eq_true rfl) dX10_init_19 (fun Φ4 hΦ4 => ?_)
  have h_5 : Φ4 h = some (o_ 12 [.ref sz, .int 0, .int 0, .int 0]) := fset_at hΦ4
  refine z_aload_n B dX10_init_22 rfl 0 rfl ?_
  refine z_iconst (v := 0) B dX10_init_23 rfl ?_
  refine z_put (ref := "FlowExporter$Template") (C := RX10) (T := TX10) (N := 4) (ci := 12) (v := .int 0) B (by decide +kernel) tyX10 tyX10_ok nmX10 rfl 3 (by decide) (by decide +kernel) rfl (Or.inl rfl) h_5 hna_h rfl rfl (Nat.le_of_ble_eq_true rfl) dX10_init_24 (fun Φ5 hΦ5 => ?_)
  have h_6 : Φ5 h = some (o_ 12 [.ref sz, .int 0, .int 0, .int 0]) := fset_at hΦ5
  have h_7 : Φ5 sz = some (ai_ G 9 (fun _ => 0)) := ((fset_fr hΦ5 (Nat.ne_of_gt (hlt _ _ hc0))).trans ((fset_fr hΦ4 (Nat.ne_of_gt (hlt _ _ hc0))).trans ((fset_fr hΦ3 (Nat.ne_of_gt (hlt _ _ hc0))).trans ((fset_fr hΦ2 (Nat.ne_of_gt (hlt _ _ hc0))).trans h_1))))
  exact z_ret_v B dX10_init_27 ⟨rfl, rfl, (fun b9 hb9 h9a => ((fset_fr hΦ5 h9a).trans ((fset_fr hΦ4 h9a).trans ((fset_fr hΦ3 h9a).trans ((fset_fr hΦ2 h9a).trans ((fset_fr hΦ1 (Nat.ne_of_lt hb9)).trans rfl)))))), h_6, h_7⟩

set_option maxHeartbeats 4000000 in
set_option maxRecDepth 100000 in
theorem c_X5_init_700 (G : EnvG) (l : Launch) (Φ : Hm) (sz : Nat) (h : Nat) (hc0 : Φ h = some (o_ 7 [.null, .int 0])) (hna_h : G.2.2.2 ≤ h) : Ct G l yX5_init wsX5_init ({ frames := 1, cells := 1, slots := 700, locals := 14 }) 1 700 [.ref h, .int 700] Φ sz (fun v Φ1 sz1 => v = none ∧ sz1 = sz + 1 ∧ (∀ b9 : Nat, b9 < sz → b9 ≠ h → Φ1 b9 = Φ b9) ∧ Φ1 h = some (o_ 7 [.ref sz, .int 0]) ∧ Φ1 sz = some (ab_ G 700 (fun _ => 0))) := by
  refine Ct.of (cc := cX5_init) (maxL := 2) (ret := none) (by decide) rfl (Nat.le_of_ble_eq_true rfl) ?_
  intro p9 e9 s9 m9 w9 t9 k9 B
  show Z p9 l e9 _ s9 m9 _ w9 t9 k9 _ G 2 0 [(0, .ref h), (1, .int 700)] [] Φ (sz) 0 0
  refine z_lt (fun hlt => ?_)
  refine z_aload_n B dX5_init_0 rfl 0 rfl ?_
  refine z_obj B (by decide +kernel) (by decide +kernel) (by decide +kernel) rfl ⟨Nat.le_of_ble_eq_true rfl, Nat.le_of_ble_eq_true rfl⟩ dX5_init_1 ?_
  refine z_aload_n B dX5_init_4 rfl 0 rfl ?_
  refine z_iconst (v := 0) B dX5_init_5 rfl ?_
  refine z_put (ref := "FlowExporter$Message") (C := RX5) (T := TX5) (N := 2) (ci := 7) (v := .int 0) B (by decide +kernel) tyX5 tyX5_ok nmX5 rfl 1 (by decide) (by decide +kernel) rfl (Or.inl rfl) hc0 hna_h rfl rfl (Nat.le_of_ble_eq_true rfl) dX5_init_6 (fun Φ1 hΦ1 => ?_)
  have h_1 : Φ1 h = some (o_ 7 [.null, .int 0]) := fset_at hΦ1
  refine z_aload_n B dX5_init_9 rfl 0 rfl ?_
  refine z_iconst (v := 0) B dX5_init_10 rfl ?_
  refine z_iload_n B dX5_init_11 rfl 1 rfl ?_
  refine z_mmax (v := 700) B (by decide +kernel) (by decide +kernel) (by decide +kernel) (by decide +kernel) (by decide) ⟨Nat.le_of_ble_eq_true rfl, Nat.le_of_ble_eq_true rfl⟩ ⟨Nat.le_of_ble_eq_true rfl, Nat.le_of_ble_eq_true rfl⟩ dX5_init_12 ?_
  refine z_newa (atype := .byte) (ty := .byte) (t := 2) (N' := 700) (a0 := (700, .inl (fun _ => 0))) B (by decide +kernel) rfl rfl (fun _ h9 => by cases h9) (fun _ => rfl) (by decide) rfl (Nat.le_of_ble_eq_true rfl) (Nat.le_of_ble_eq_true rfl) (Nat.le_of_ble_eq_true rfl) dX5_init_15 (fun Φ2 hΦ2 hz1 => ?_)
  have h_2 : Φ2 sz = some (ab_ G 700 (fun _ => 0)) := fset_at hΦ2
  have h_3 : Φ2 h = some (o_ 7 [.null, .int 0]) := ((fset_fr hΦ2 (Nat.ne_of_lt (hlt _ _ hc0))).trans h_1)
  refine z_put (ref := "FlowExporter$Message") (C := RX5) (T := TX5) (N := 2) (ci := 7) (v := .ref sz) B (by decide +kernel) tyX5 tyX5_ok nmX5 rfl 0 (by decide) (by decide +kernel) rfl (Or.inr ⟨rfl, rfl, rfl⟩) h_3 hna_h rfl rfl (Nat.le_of_ble_eq_true rfl) dX5_init_17 (fun Φ3 hΦ3 => ?_)
  have h_4 : Φ3 h = some (o_ 7 [.ref sz, .int 0]) := fset_at hΦ3
  have h_5 : Φ3 sz = some (ab_ G 700 (fun _ => 0)) := ((fset_fr hΦ3 (Nat.ne_of_gt (hlt _ _ hc0))).trans h_2)
  exact z_ret_v B dX5_init_20 ⟨rfl, rfl, (fun b9 hb9 h9a => ((fset_fr hΦ3 h9a).trans ((fset_fr hΦ2 (Nat.ne_of_lt hb9)).trans ((fset_fr hΦ1 h9a).trans rfl)))), h_4, h_5⟩

set_option maxHeartbeats 4000000 in
set_option maxRecDepth 100000 in
theorem c_X5_init_600 (G : EnvG) (l : Launch) (Φ : Hm) (sz : Nat) (h : Nat) (hc0 : Φ h = some (o_ 7 [.null, .int 0])) (hna_h : G.2.2.2 ≤ h) : Ct G l yX5_init wsX5_init ({ frames := 1, cells := 1, slots := 600, locals := 14 }) 1 600 [.ref h, .int 600] Φ sz (fun v Φ1 sz1 => v = none ∧ sz1 = sz + 1 ∧ (∀ b9 : Nat, b9 < sz → b9 ≠ h → Φ1 b9 = Φ b9) ∧ Φ1 h = some (o_ 7 [.ref sz, .int 0]) ∧ Φ1 sz = some (ab_ G 600 (fun _ => 0))) := by
  refine Ct.of (cc := cX5_init) (maxL := 2) (ret := none) (by decide) rfl (Nat.le_of_ble_eq_true rfl) ?_
  intro p9 e9 s9 m9 w9 t9 k9 B
  show Z p9 l e9 _ s9 m9 _ w9 t9 k9 _ G 2 0 [(0, .ref h), (1, .int 600)] [] Φ (sz) 0 0
  refine z_lt (fun hlt => ?_)
  refine z_aload_n B dX5_init_0 rfl 0 rfl ?_
  refine z_obj B (by decide +kernel) (by decide +kernel) (by decide +kernel) rfl ⟨Nat.le_of_ble_eq_true rfl, Nat.le_of_ble_eq_true rfl⟩ dX5_init_1 ?_
  refine z_aload_n B dX5_init_4 rfl 0 rfl ?_
  refine z_iconst (v := 0) B dX5_init_5 rfl ?_
  refine z_put (ref := "FlowExporter$Message") (C := RX5) (T := TX5) (N := 2) (ci := 7) (v := .int 0) B (by decide +kernel) tyX5 tyX5_ok nmX5 rfl 1 (by decide) (by decide +kernel) rfl (Or.inl rfl) hc0 hna_h rfl rfl (Nat.le_of_ble_eq_true rfl) dX5_init_6 (fun Φ1 hΦ1 => ?_)
  have h_1 : Φ1 h = some (o_ 7 [.null, .int 0]) := fset_at hΦ1
  refine z_aload_n B dX5_init_9 rfl 0 rfl ?_
  refine z_iconst (v := 0) B dX5_init_10 rfl ?_
  refine z_iload_n B dX5_init_11 rfl 1 rfl ?_
  refine z_mmax (v := 600) B (by decide +kernel) (by decide +kernel) (by decide +kernel) (by decide +kernel) (by decide) ⟨Nat.le_of_ble_eq_true rfl, Nat.le_of_ble_eq_true rfl⟩ ⟨Nat.le_of_ble_eq_true rfl, Nat.le_of_ble_eq_true rfl⟩ dX5_init_12 ?_
  refine z_newa (atype := .byte) (ty := .byte) (t := 2) (N' := 600) (a0 := (600, .inl (fun _ => 0))) B (by decide +kernel) rfl rfl (fun _ h9 => by cases h9) (fun _ => rfl) (by decide) rfl (Nat.le_of_ble_eq_true rfl) (Nat.le_of_ble_eq_true rfl) (Nat.le_of_ble_eq_true rfl) dX5_init_15 (fun Φ2 hΦ2 hz1 => ?_)
  have h_2 : Φ2 sz = some (ab_ G 600 (fun _ => 0)) := fset_at hΦ2
  have h_3 : Φ2 h = some (o_ 7 [.null, .int 0]) := ((fset_fr hΦ2 (Nat.ne_of_lt (hlt _ _ hc0))).trans h_1)
  refine z_put (ref := "FlowExporter$Message") (C := RX5) (T := TX5) (N := 2) (ci := 7) (v := .ref sz) B (by decide +kernel) tyX5 tyX5_ok nmX5 rfl 0 (by decide) (by decide +kernel) rfl (Or.inr ⟨rfl, rfl, rfl⟩) h_3 hna_h rfl rfl (Nat.le_of_ble_eq_true rfl) dX5_init_17 (fun Φ3 hΦ3 => ?_)
  have h_4 : Φ3 h = some (o_ 7 [.ref sz, .int 0]) := fset_at hΦ3
  have h_5 : Φ3 sz = some (ab_ G 600 (fun _ => 0)) := ((fset_fr hΦ3 (Nat.ne_of_gt (hlt _ _ hc0))).trans h_2)
  exact z_ret_v B dX5_init_20 ⟨rfl, rfl, (fun b9 hb9 h9a => ((fset_fr hΦ3 h9a).trans ((fset_fr hΦ2 (Nat.ne_of_lt hb9)).trans ((fset_fr hΦ1 h9a).trans rfl)))), h_4, h_5⟩

set_option maxHeartbeats 4000000 in
set_option maxRecDepth 100000 in
theorem c_X5_init_348 (G : EnvG) (l : Launch) (Φ : Hm) (sz : Nat) (h : Nat) (hc0 : Φ h = some (o_ 7 [.null, .int 0])) (hna_h : G.2.2.2 ≤ h) : Ct G l yX5_init wsX5_init ({ frames := 1, cells := 1, slots := 348, locals := 14 }) 1 348 [.ref h, .int 348] Φ sz (fun v Φ1 sz1 => v = none ∧ sz1 = sz + 1 ∧ (∀ b9 : Nat, b9 < sz → b9 ≠ h → Φ1 b9 = Φ b9) ∧ Φ1 h = some (o_ 7 [.ref sz, .int 0]) ∧ Φ1 sz = some (ab_ G 348 (fun _ => 0))) := by
  refine Ct.of (cc := cX5_init) (maxL := 2) (ret := none) (by decide) rfl (Nat.le_of_ble_eq_true rfl) ?_
  intro p9 e9 s9 m9 w9 t9 k9 B
  show Z p9 l e9 _ s9 m9 _ w9 t9 k9 _ G 2 0 [(0, .ref h), (1, .int 348)] [] Φ (sz) 0 0
  refine z_lt (fun hlt => ?_)
  refine z_aload_n B dX5_init_0 rfl 0 rfl ?_
  refine z_obj B (by decide +kernel) (by decide +kernel) (by decide +kernel) rfl ⟨Nat.le_of_ble_eq_true rfl, Nat.le_of_ble_eq_true rfl⟩ dX5_init_1 ?_
  refine z_aload_n B dX5_init_4 rfl 0 rfl ?_
  refine z_iconst (v := 0) B dX5_init_5 rfl ?_
  refine z_put (ref := "FlowExporter$Message") (C := RX5) (T := TX5) (N := 2) (ci := 7) (v := .int 0) B (by decide +kernel) tyX5 tyX5_ok nmX5 rfl 1 (by decide) (by decide +kernel) rfl (Or.inl rfl) hc0 hna_h rfl rfl (Nat.le_of_ble_eq_true rfl) dX5_init_6 (fun Φ1 hΦ1 => ?_)
  have h_1 : Φ1 h = some (o_ 7 [.null, .int 0]) := fset_at hΦ1
  refine z_aload_n B dX5_init_9 rfl 0 rfl ?_
  refine z_iconst (v := 0) B dX5_init_10 rfl ?_
  refine z_iload_n B dX5_init_11 rfl 1 rfl ?_
  refine z_mmax (v := 348) B (by decide +kernel) (by decide +kernel) (by decide +kernel) (by decide +kernel) (by decide) ⟨Nat.le_of_ble_eq_true rfl, Nat.le_of_ble_eq_true rfl⟩ ⟨Nat.le_of_ble_eq_true rfl, Nat.le_of_ble_eq_true rfl⟩ dX5_init_12 ?_
  refine z_newa (atype := .byte) (ty := .byte) (t := 2) (N' := 348) (a0 := (348, .inl (fun _ => 0))) B (by decide +kernel) rfl rfl (fun _ h9 => by cases h9) (fun _ => rfl) (by decide) rfl (Nat.le_of_ble_eq_true rfl) (Nat.le_of_ble_eq_true rfl) (Nat.le_of_ble_eq_true rfl) dX5_init_15 (fun Φ2 hΦ2 hz1 => ?_)
  have h_2 : Φ2 sz = some (ab_ G 348 (fun _ => 0)) := fset_at hΦ2
  have h_3 : Φ2 h = some (o_ 7 [.null, .int 0]) := ((fset_fr hΦ2 (Nat.ne_of_lt (hlt _ _ hc0))).trans h_1)
  refine z_put (ref := "FlowExporter$Message") (C := RX5) (T := TX5) (N := 2) (ci := 7) (v := .ref sz) B (by decide +kernel) tyX5 tyX5_ok nmX5 rfl 0 (by decide) (by decide +kernel) rfl (Or.inr ⟨rfl, rfl, rfl⟩) h_3 hna_h rfl rfl (Nat.le_of_ble_eq_true rfl) dX5_init_17 (fun Φ3 hΦ3 => ?_)
  have h_4 : Φ3 h = some (o_ 7 [.ref sz, .int 0]) := fset_at hΦ3
  have h_5 : Φ3 sz = some (ab_ G 348 (fun _ => 0)) := ((fset_fr hΦ3 (Nat.ne_of_gt (hlt _ _ hc0))).trans h_2)
  exact z_ret_v B dX5_init_20 ⟨rfl, rfl, (fun b9 hb9 h9a => ((fset_fr hΦ3 h9a).trans ((fset_fr hΦ2 (Nat.ne_of_lt hb9)).trans ((fset_fr hΦ1 h9a).trans rfl)))), h_4, h_5⟩

set_option maxHeartbeats 4000000 in
set_option maxRecDepth 100000 in
theorem c_X10_addField (G : EnvG) (l : Launch) (Φ : Hm) (sz : Nat) (h : Nat) (f : Nat) (a : Int32) (b : Int32) (d : Int32) (g : Nat → Int32) (x : Int32) (hc0 : Φ h = some (o_ 12 [.ref f, .int a, .int b, .int d])) (hc1 : Φ f = some (ai_ G 9 g)) (hne_h_f : h ≠ f) (hna_h : G.2.2.2 ≤ h) (hna_f : G.2.2.2 ≤ f) (h1 : ¬ x < 0) (h2 : ¬ 9 ≤ x) (h3 : ¬ 9 ≤ a) (h4 : (b >>> (x &&& 31)) &&& 1 = 0) (h5 : vp_in a 9) (h6 : vp_in x 9) : Ct G l yX10_addField wsX10_addField ({ frames := 0, cells := 0, slots := 0, locals := 0 }) 0 0 [.ref h, .int x] Φ sz (fun v Φ1 sz1 => v = none ∧ sz1 = sz ∧ (∀ b9 : Nat, b9 ≠ f → b9 ≠ h → Φ1 b9 = Φ b9) ∧ Φ1 f = some (ai_ G 9 (upd g a.toNatClampNeg x)) ∧ Φ1 h = some (o_ 12 [.ref f, .int (a + 1), .int (b ||| (1 <<< (x &&& 31))), .int (d + (fbT x.toNatClampNeg))])) := by
  refine Ct.of (cc := cX10_addField) (maxL := 2) (ret := none) (by decide) rfl (Nat.le_of_ble_eq_true rfl) ?_
  intro p9 e9 s9 m9 w9 t9 k9 B
  show Z p9 l e9 _ s9 m9 _ w9 t9 k9 _ G 2 0 [(0, .ref h), (1, .int x)] [] Φ (sz) 0 0
  refine z_iload_n B dX10_addField_0 rfl 1 rfl ?_
  refine z_if_lt (tgt := 76) B dX10_addField_1 rfl (fun h9 => absurd h9 h1) (fun c_1 => ?_)
  refine z_iload_n B dX10_addField_4 rfl 1 rfl ?_
  refine z_bipush (v := 9) B dX10_addField_5 rfl ?_
  refine z_icmp_ge (tgt := 76) B dX10_addField_7 rfl (fun h9 => absurd h9 h2) (fun c_2 => ?_)
  refine z_aload_n B dX10_addField_10 rfl 0 rfl ?_
  refine z_get (ref := "FlowExporter$Template") (C := RX10) (T := TX10) (N := 4) (ci := 12) (v := .int a) B (by decide +kernel) rfl 1 (by decide) (by decide +kernel) rfl hc0 rfl dX10_addField_11 ?_
  refine z_bipush (v := 9) B dX10_addField_14 rfl ?_
  refine z_icmp_ge (tgt := 76) B dX10_addField_16 rfl (fun h9 => absurd h9 h3) (fun c_3 => ?_)
  refine z_aload_n B dX10_addField_19 rfl 0 rfl ?_
  refine z_get (ref := "FlowExporter$Template") (C := RX10) (T := TX10) (N := 4) (ci := 12) (v := .int b) B (by decide +kernel) rfl 2 (by decide) (by decide +kernel) rfl hc0 rfl dX10_addField_20 ?_
  refine z_iload_n B dX10_addField_23 rfl 1 rfl ?_
  refine z_ishr B dX10_addField_24 ?_
  refine z_iconst (v := 1) B dX10_addField_25 rfl ?_
  refine z_iand B dX10_addField_26 ?_
  refine z_if_ne (tgt := 76) B dX10_addField_27 rfl (fun h9 => absurd h4 h9) (fun c_4 => ?_)
  refine z_aload_n B dX10_addField_30 rfl 0 rfl ?_
  refine z_get (ref := "FlowExporter$Template") (C := RX10) (T := TX10) (N := 4) (ci := 12) (v := .ref f) B (by decide +kernel) rfl 0 (by decide) (by decide +kernel) rfl hc0 rfl dX10_addField_31 ?_
  refine z_aload_n B dX10_addField_34 rfl 0 rfl ?_
  refine z_get (ref := "FlowExporter$Template") (C := RX10) (T := TX10) (N := 4) (ci := 12) (v := .int a) B (by decide +kernel) rfl 1 (by decide) (by decide +kernel) rfl hc0 rfl dX10_addField_35 ?_
  refine z_iload_n B dX10_addField_38 rfl 1 rfl ?_
  refine z_iast B hc1 hna_f h5 dX10_addField_39 (fun Φ1 hΦ1 => ?_)
  have h_1 : Φ1 f = some (ai_ G 9 (upd g a.toNatClampNeg x)) := fset_at hΦ1
  refine z_aload_n B dX10_addField_40 rfl 0 rfl ?_
  refine z_dup B dX10_addField_41 rfl ?_
  have h_2 : Φ1 h = some (o_ 12 [.ref f, .int a, .int b, .int d]) := ((fset_fr hΦ1 hne_h_f).trans hc0)
  refine z_get (ref := "FlowExporter$Template") (C := RX10) (T := TX10) (N := 4) (ci := 12) (v := .int a) B (by decide +kernel) rfl 1 (by decide) (by decide +kernel) rfl h_2 rfl dX10_addField_42 ?_
  refine z_iconst (v := 1) B dX10_addField_45 rfl ?_
  refine z_iadd B dX10_addField_46 ?_
  refine z_put (ref := "FlowExporter$Template") (C := RX10) (T := TX10) (N := 4) (ci := 12) (v := .int (a + 1)) B (by decide +kernel) tyX10 tyX10_ok nmX10 rfl 1 (by decide) (by decide +kernel) rfl (Or.inl rfl) h_2 hna_h rfl rfl (Nat.le_of_ble_eq_true rfl) dX10_addField_47 (fun Φ2 hΦ2 => ?_)
  have h_3 : Φ2 h = some (o_ 12 [.ref f, .int (a + 1), .int b, .int d]) := fset_at hΦ2
  refine z_aload_n B dX10_addField_50 rfl 0 rfl ?_
  refine z_dup B dX10_addField_51 rfl ?_
  refine z_get (ref := "FlowExporter$Template") (C := RX10) (T := TX10) (N := 4) (ci := 12) (v := .int b) B (by decide +kernel) rfl 2 (by decide) (by decide +kernel) rfl h_3 rfl dX10_addField_52 ?_
  refine z_iconst (v := 1) B dX10_addField_55 rfl ?_
  refine z_iload_n B dX10_addField_56 rfl 1 rfl ?_
  refine z_ishl B dX10_addField_57 ?_
  refine z_ior B dX10_addField_58 ?_
  refine z_put (ref := "FlowExporter$Template") (C := RX10) (T := TX10) (N := 4) (ci := 12) (v := .int (b ||| (1 <<< (x &&& 31)))) B (by decide +kernel) tyX10 tyX10_ok nmX10 rfl 2 (by decide) (by decide +kernel) rfl (Or.inl rfl) h_3 hna_h rfl rfl (Nat.le_of_ble_eq_true rfl) dX10_addField_59 (fun Φ3 hΦ3 => ?_)
  have h_4 : Φ3 h = some (o_ 12 [.ref f, .int (a + 1), .int (b ||| (1 <<< (x &&& 31))), .int d]) := fset_at hΦ3
  refine z_aload_n B dX10_addField_62 rfl 0 rfl ?_
  refine z_dup B dX10_addField_63 rfl ?_
  refine z_get (ref := "FlowExporter$Template") (C := RX10) (T := TX10) (N := 4) (ci := 12) (v := .int d) B (by decide +kernel) rfl 3 (by decide) (by decide +kernel) rfl h_4 rfl dX10_addField_64 ?_
  refine z_staN (n := "FIELD_BYTES") B B.2.2.2.2.2.1.1.1 (by decide +kernel) dX10_addField_67 ?_
  refine z_iload_n B dX10_addField_70 rfl 1 rfl ?_
  refine z_sald B B.2.2.2.2.2.1.2.2.2.1.1 (B.2.2.2.2.2.1.2.2.2.2 0 (by decide)) h6 dX10_addField_71 ?_
  refine z_iadd B dX10_addField_72 ?_
  refine z_put (ref := "FlowExporter$Template") (C := RX10) (T := TX10) (N := 4) (ci := 12) (v := .int (d + (fbT x.toNatClampNeg))) B (by decide +kernel) tyX10 tyX10_ok nmX10 rfl 3 (by decide) (by decide +kernel) rfl (Or.inl rfl) h_4 hna_h rfl rfl (Nat.le_of_ble_eq_true rfl) dX10_addField_73 (fun Φ4 hΦ4 => ?_)
  have h_5 : Φ4 h = some (o_ 12 [.ref f, .int (a + 1), .int (b ||| (1 <<< (x &&& 31))), .int (d + (fbT x.toNatClampNeg))]) := fset_at hΦ4
  have h_6 : Φ4 f = some (ai_ G 9 (upd g a.toNatClampNeg x)) := ((fset_fr hΦ4 (Ne.symm hne_h_f)).trans ((fset_fr hΦ3 (Ne.symm hne_h_f)).trans ((fset_fr hΦ2 (Ne.symm hne_h_f)).trans h_1)))
  exact z_ret_v B dX10_addField_76 ⟨rfl, rfl, (fun b9 h9a h9b => ((fset_fr hΦ4 h9b).trans ((fset_fr hΦ3 h9b).trans ((fset_fr hΦ2 h9b).trans ((fset_fr hΦ1 h9a).trans rfl))))), h_6, h_5⟩

set_option maxHeartbeats 4000000 in
set_option maxRecDepth 100000 in
theorem c_X10_field (G : EnvG) (l : Launch) (Φ : Hm) (sz : Nat) (h : Nat) (f : Nat) (a : Int32) (b : Int32) (d : Int32) (g : Nat → Int32) (x : Int32) (hc0 : Φ h = some (o_ 12 [.ref f, .int a, .int b, .int d])) (hc1 : Φ f = some (ai_ G 9 g)) (h1 : ¬ x < 0) (h2 : ¬ a ≤ x) (h3 : vp_in x 9) : Ct G l yX10_field wsX10_field ({ frames := 0, cells := 0, slots := 0, locals := 0 }) 0 0 [.ref h, .int x] Φ sz (fun v Φ1 sz1 => v = some (.int (g x.toNatClampNeg)) ∧ sz1 = sz ∧ (∀ b9 : Nat, Φ1 b9 = Φ b9)) := by
  refine Ct.of (cc := cX10_field) (maxL := 2) (ret := (some .int)) (by decide) rfl (Nat.le_of_ble_eq_true rfl) ?_
  intro p9 e9 s9 m9 w9 t9 k9 B
  show Z p9 l e9 _ s9 m9 _ w9 t9 k9 _ G 2 0 [(0, .ref h), (1, .int x)] [] Φ (sz) 0 0
  refine z_iload_n B dX10_field_0 rfl 1 rfl ?_
  refine z_if_lt (tgt := 21) B dX10_field_1 rfl (fun h9 => absurd h9 h1) (fun c_1 => ?_)
  refine z_iload_n B dX10_field_4 rfl 1 rfl ?_
  refine z_aload_n B dX10_field_5 rfl 0 rfl ?_
  refine z_get (ref := "FlowExporter$Template") (C := RX10) (T := TX10) (N := 4) (ci := 12) (v := .int a) B (by decide +kernel) rfl 1 (by decide) (by decide +kernel) rfl hc0 rfl dX10_field_6 ?_
  refine z_icmp_ge (tgt := 21) B dX10_field_9 rfl (fun h9 => absurd h9 h2) (fun c_2 => ?_)
  refine z_aload_n B dX10_field_12 rfl 0 rfl ?_
  refine z_get (ref := "FlowExporter$Template") (C := RX10) (T := TX10) (N := 4) (ci := 12) (v := .ref f) B (by decide +kernel) rfl 0 (by decide) (by decide +kernel) rfl hc0 rfl dX10_field_13 ?_
  refine z_iload_n B dX10_field_16 rfl 1 rfl ?_
  refine z_iald B hc1 h3 dX10_field_17 ?_
  refine z_top (st1 := [.int (g x.toNatClampNeg)]) rfl ?_
  refine z_goto (tgt := 22) B dX10_field_18 rfl ?_
  exact z_ret_i B dX10_field_22 ⟨rfl, rfl, (fun b9 => rfl)⟩

set_option maxHeartbeats 4000000 in
set_option maxRecDepth 100000 in
theorem c_X10_copyFrom_0 (G : EnvG) (l : Launch) (Φ : Hm) (sz : Nat) (h : Nat) (f : Nat) (a : Int32) (b : Int32) (d : Int32) (h2 : Nat) (f2 : Nat) (b2 : Int32) (d2 : Int32) (x : Int32) (hc0 : Φ h = some (o_ 12 [.ref f, .int a, .int b, .int d])) (hc1 : Φ h2 = some (o_ 12 [.ref f2, .int 0, .int b2, .int d2])) (hne_h_h2 : h ≠ h2) (hna_h : G.2.2.2 ≤ h) : Ct G l yX10_copyFrom wsX10_copyFrom ({ frames := 1, cells := 0, slots := 0, locals := 20 }) 0 0 [.ref h, .ref h2, .int x] Φ sz (fun v Φ1 sz1 => v = none ∧ sz1 = sz ∧ (∀ b9 : Nat, b9 ≠ h → Φ1 b9 = Φ b9) ∧ Φ1 h = some (o_ 12 [.ref f, .int 0, .int 0, .int 0])) := by
  refine Ct.of (cc := cX10_copyFrom) (maxL := 5) (ret := none) (by decide) rfl (Nat.le_of_ble_eq_true rfl) ?_
  intro p9 e9 s9 m9 w9 t9 k9 B
  show Z p9 l e9 _ s9 m9 _ w9 t9 k9 _ G 5 0 [(0, .ref h), (1, .ref h2), (2, .int x)] [] Φ (sz) 0 0
  refine z_aload_n B dX10_copyFrom_0 rfl 0 rfl ?_
  refine z_callV (As := []) (rest := []) B (c_X10_clear G l Φ sz h f a b d hc0 hna_h) (cwV 0 B.1.2.2.2.2 gX10_copyFrom_X10_clear rfl rfl rfl (by decide +kernel) ⟨Nat.le_of_ble_eq_true rfl, Nat.le_of_ble_eq_true rfl⟩) hc0 rfl rfl rfl rfl (Nat.le_of_ble_eq_true rfl) dX10_copyFrom_1 ⟨Nat.le_of_ble_eq_true rfl, Nat.le_of_ble_eq_true rfl⟩ (fun v1 Φ1 sz1 st1 hp1 hs1 => ?_)
  obtain ⟨rfl, hq1, fr1, h_1⟩ := hp1
  replace hq1 : sz1 = sz := hq1
  subst sz1
  replace hs1 : st1 = [] := hs1
  subst st1
  have h_2 : Φ1 h = some (o_ 12 [.ref f, .int 0, .int 0, .int 0]) := h_1
  refine z_iconst (v := 0) B dX10_copyFrom_4 rfl ?_
  refine z_istore_n (lv' := [(3, .int 0), (0, .ref h), (1, .ref h2), (2, .int x)]) B dX10_copyFrom_5 rfl (Nat.le_of_ble_eq_true rfl) rfl ?_
  refine z_iload_n B dX10_copyFrom_6 rfl 0 rfl ?_
  refine z_aload_n B dX10_copyFrom_7 rfl 2 rfl ?_
  have h_3 : Φ1 h2 = some (o_ 12 [.ref f2, .int 0, .int b2, .int d2]) := ((fr1 h2 (Ne.symm hne_h_h2)).trans hc1)
  refine z_get (ref := "FlowExporter$Template") (C := RX10) (T := TX10) (N := 4) (ci := 12) (v := .int 0) B (by decide +kernel) rfl 1 (by decide) (by decide +kernel) rfl h_3 rfl dX10_copyFrom_8 ?_
  refine z_icmp_ge (tgt := 43) B dX10_copyFrom_11 rfl (fun c_1 => ?_) (fun h9 => absurd (by decide) h9)
  exact z_ret_v B dX10_copyFrom_43 ⟨rfl, rfl, (fun b9 h9a => ((fr1 b9 h9a).trans rfl)), h_2⟩

set_option maxHeartbeats 4000000 in
set_option maxRecDepth 100000 in
theorem c_X10_copyFrom_9 (G : EnvG) (l : Launch) (Φ : Hm) (sz : Nat) (h : Nat) (f : Nat) (a : Int32) (b : Int32) (d : Int32) (g : Nat → Int32) (h2 : Nat) (f2 : Nat) (b2 : Int32) (d2 : Int32) (g2 : Nat → Int32) (hc0 : Φ h = some (o_ 12 [.ref f, .int a, .int b, .int d])) (hc1 : Φ f = some (ai_ G 9 g)) (hc2 : Φ h2 = some (o_ 12 [.ref f2, .int 9, .int b2, .int d2])) (hc3 : Φ f2 = some (ai_ G 9 g2)) (hne_h_h2 : h ≠ h2) (hne_f_f2 : f ≠ f2) (hne_h_f : h ≠ f) (hne_h2_f : h2 ≠ f) (hne_h_f2 : h ≠ f2) (hne_h2_f2 : h2 ≠ f2) (hna_h : G.2.2.2 ≤ h) (hna_f : G.2.2.2 ≤ f) (hg0 : g2 0 = 0) (hg1 : g2 1 = 1) (hg2 : g2 2 = 2) (hg3 : g2 3 = 3) (hg4 : g2 4 = 4) (hg5 : g2 5 = 5) (hg6 : g2 6 = 6) (hg7 : g2 7 = 7) (hg8 : g2 8 = 8) : Ct G l yX10_copyFrom wsX10_copyFrom ({ frames := 1, cells := 0, slots := 0, locals := 21 }) 0 0 [.ref h, .ref h2, .int 511] Φ sz (fun v Φ1 sz1 => v = none ∧ sz1 = sz ∧ (∀ b9 : Nat, b9 ≠ f → b9 ≠ h → Φ1 b9 = Φ b9) ∧ Φ1 f = some (ai_ G 9 (upd (upd (upd (upd (upd (upd (upd (upd (upd g (0 : Int32).toNatClampNeg 0) (1 : Int32).toNatClampNeg 1) (2 : Int32).toNatClampNeg 2) (3 : Int32).toNatClampNeg 3) (4 : Int32).toNatClampNeg 4) (5 : Int32).toNatClampNeg 5) (6 : Int32).toNatClampNeg 6) (7 : Int32).toNatClampNeg 7) (8 : Int32).toNatClampNeg 8)) ∧ Φ1 h = some (o_ 12 [.ref f, .int 9, .int 511, .int 29])) := by
  refine Ct.of (cc := cX10_copyFrom) (maxL := 5) (ret := none) (by decide) rfl (Nat.le_of_ble_eq_true rfl) ?_
  intro p9 e9 s9 m9 w9 t9 k9 B
  show Z p9 l e9 _ s9 m9 _ w9 t9 k9 _ G 5 0 [(0, .ref h), (1, .ref h2), (2, .int 511)] [] Φ (sz) 0 0
  refine z_aload_n B dX10_copyFrom_0 rfl 0 rfl ?_
  refine z_callV (As := []) (rest := []) B (c_X10_clear G l Φ sz h f a b d hc0 hna_h) (cwV 0 B.1.2.2.2.2 gX10_copyFrom_X10_clear rfl rfl rfl (by decide +kernel) ⟨Nat.le_of_ble_eq_true rfl, Nat.le_of_ble_eq_true rfl⟩) hc0 rfl rfl rfl rfl (Nat.le_of_ble_eq_true rfl) dX10_copyFrom_1 ⟨Nat.le_of_ble_eq_true rfl, Nat.le_of_ble_eq_true rfl⟩ (fun v1 Φ1 sz1 st1 hp1 hs1 => ?_)
  obtain ⟨rfl, hq1, fr1, h_1⟩ := hp1
  replace hq1 : sz1 = sz := hq1
  subst sz1
  replace hs1 : st1 = [] := hs1
  subst st1
  have h_2 : Φ1 h = some (o_ 12 [.ref f, .int 0, .int 0, .int 0]) := h_1
  refine z_iconst (v := 0) B dX10_copyFrom_4 rfl ?_
  refine z_istore_n (lv' := [(3, .int 0), (0, .ref h), (1, .ref h2), (2, .int 511)]) B dX10_copyFrom_5 rfl (Nat.le_of_ble_eq_true rfl) rfl ?_
  refine z_iload_n B dX10_copyFrom_6 rfl 0 rfl ?_
  refine z_aload_n B dX10_copyFrom_7 rfl 2 rfl ?_
  have h_3 : Φ1 h2 = some (o_ 12 [.ref f2, .int 9, .int b2, .int d2]) := ((fr1 h2 (Ne.symm hne_h_h2)).trans hc2)
  refine z_get (ref := "FlowExporter$Template") (C := RX10) (T := TX10) (N := 4) (ci := 12) (v := .int 9) B (by decide +kernel) rfl 1 (by decide) (by decide +kernel) rfl h_3 rfl dX10_copyFrom_8 ?_
  refine z_icmp_ge (tgt := 43) B dX10_copyFrom_11 rfl (fun h9 => absurd h9 (by decide)) (fun c_1 => ?_)
  refine z_aload_n B dX10_copyFrom_14 rfl 2 rfl ?_
  refine z_iload_n B dX10_copyFrom_15 rfl 0 rfl ?_
  have h_4 : Φ1 f2 = some (ai_ G 9 g2) := ((fr1 f2 (Ne.symm hne_h_f2)).trans hc3)
  refine z_callV (As := [.int 0]) (rest := []) B (c_X10_field G l Φ1 sz h2 f2 9 b2 d2 g2 0 h_3 h_4 (by decide) (by decide) (vin rfl)) (cwV 1 B.1.2.2.2.2 gX10_copyFrom_X10_field rfl rfl rfl (by decide +kernel) ⟨Nat.le_of_ble_eq_true rfl, Nat.le_of_ble_eq_true rfl⟩) h_3 rfl rfl rfl rfl (Nat.le_of_ble_eq_true rfl) dX10_copyFrom_16 ⟨Nat.le_of_ble_eq_true rfl, Nat.le_of_ble_eq_true rfl⟩ (fun v2 Φ2 sz2 st2 hp2 hs2 => ?_)
  obtain ⟨rfl, hq2, fr2⟩ := hp2
  replace hq2 : sz2 = sz := hq2
  subst sz2
  replace hs2 : st2 = [.int (g2 (0 : Int32).toNatClampNeg)] := hs2
  subst st2
  refine z_top (st1 := [.int 0]) (by rw [show g2 ((0 : Int32).toNatClampNeg) = 0 from hg0]) ?_
  refine z_istore (lv' := [(4, .int 0), (3, .int 0), (0, .ref h), (1, .ref h2), (2, .int 511)]) B dX10_copyFrom_19 (Nat.le_of_ble_eq_true rfl) rfl ?_
  refine z_iload_n B dX10_copyFrom_21 rfl 4 rfl ?_
  refine z_iload B dX10_copyFrom_22 0 rfl ?_
  refine z_ishr B dX10_copyFrom_24 ?_
  refine z_top (st1 := [.int 511]) (congrArg (fun w9 : Int32 => ([.int w9] : List Value)) (show ((511 : Int32) >>> ((0 : Int32) &&& (31 : Int32)) : Int32) = 511 by decide +kernel)) ?_
  refine z_iconst (v := 1) B dX10_copyFrom_25 rfl ?_
  refine z_iand B dX10_copyFrom_26 ?_
  refine z_top (st1 := [.int 1]) (congrArg (fun w9 : Int32 => ([.int w9] : List Value)) (show (511 &&& 1 : Int32) = 1 by decide +kernel)) ?_
  refine z_iconst (v := 1) B dX10_copyFrom_27 rfl ?_
  refine z_icmp_ne (tgt := 37) B dX10_copyFrom_28 rfl (fun h9 => absurd (by decide) h9) (fun c_2 => ?_)
  refine z_aload_n B dX10_copyFrom_31 rfl 2 rfl ?_
  refine z_iload B dX10_copyFrom_32 0 rfl ?_
  have h_5 : Φ2 h = some (o_ 12 [.ref f, .int 0, .int 0, .int 0]) := ((fr2 h).trans h_2)
  have h_6 : Φ2 f = some (ai_ G 9 g) := ((fr2 f).trans ((fr1 f (Ne.symm hne_h_f)).trans hc1))
  refine z_callV (As := [.int 0]) (rest := []) B (c_X10_addField G l Φ2 sz h f 0 0 0 g 0 h_5 h_6 hne_h_f hna_h hna_f (by decide) (by decide) (by decide) (by decide) (vin rfl) (vin rfl)) (cwV 1 B.1.2.2.2.2 gX10_copyFrom_X10_addField rfl rfl rfl (by decide +kernel) ⟨Nat.le_of_ble_eq_true rfl, Nat.le_of_ble_eq_true rfl⟩) h_5 rfl rfl rfl rfl (Nat.le_of_ble_eq_true rfl) dX10_copyFrom_34 ⟨Nat.le_of_ble_eq_true rfl, Nat.le_of_ble_eq_true rfl⟩ (fun v3 Φ3 sz3 st3 hp3 hs3 => ?_)
  obtain ⟨rfl, hq3, fr3, h_7, h_8⟩ := hp3
  replace hq3 : sz3 = sz := hq3
  subst sz3
  replace hs3 : st3 = [] := hs3
  subst st3
  have h_9 : Φ3 f = some (ai_ G 9 (upd g (0 : Int32).toNatClampNeg 0)) := h_7
  have h_10 : Φ3 h = some (o_ 12 [.ref f, .int 1, .int 1, .int 1]) := h_8
  refine z_iinc (k := 1) (v := 1) (lv' := [(3, .int 1), (4, .int 0), (0, .ref h), (1, .ref h2), (2, .int 511)]) B dX10_copyFrom_37 rfl rfl (Nat.le_of_ble_eq_true rfl) rfl ?_
  refine z_goto (tgt := 6) B dX10_copyFrom_40 rfl ?_
  refine z_iload_n B dX10_copyFrom_6 rfl 0 rfl ?_
  refine z_aload_n B dX10_copyFrom_7 rfl 3 rfl ?_
  have h_11 : Φ3 h2 = some (o_ 12 [.ref f2, .int 9, .int b2, .int d2]) := ((fr3 h2 hne_h2_f (Ne.symm hne_h_h2)).trans ((fr2 h2).trans h_3))
  refine z_get (ref := "FlowExporter$Template") (C := RX10) (T := TX10) (N := 4) (ci := 12) (v := .int 9) B (by decide +kernel) rfl 1 (by decide) (by decide +kernel) rfl h_11 rfl dX10_copyFrom_8 ?_
  refine z_icmp_ge (tgt := 43) B dX10_copyFrom_11 rfl (fun h9 => absurd h9 (by decide)) (fun c_3 => ?_)
  refine z_aload_n B dX10_copyFrom_14 rfl 3 rfl ?_
  refine z_iload_n B dX10_copyFrom_15 rfl 0 rfl ?_
  have h_12 : Φ3 f2 = some (ai_ G 9 g2) := ((fr3 f2 (Ne.symm hne_f_f2) (Ne.symm hne_h_f2)).trans ((fr2 f2).trans h_4))
  refine z_callV (As := [.int 1]) (rest := []) B (c_X10_field G l Φ3 sz h2 f2 9 b2 d2 g2 1 h_11 h_12 (by decide) (by decide) (vin rfl)) (cwV 1 B.1.2.2.2.2 gX10_copyFrom_X10_field rfl rfl rfl (by decide +kernel) ⟨Nat.le_of_ble_eq_true rfl, Nat.le_of_ble_eq_true rfl⟩) h_11 rfl rfl rfl rfl (Nat.le_of_ble_eq_true rfl) dX10_copyFrom_16 ⟨Nat.le_of_ble_eq_true rfl, Nat.le_of_ble_eq_true rfl⟩ (fun v4 Φ4 sz4 st4 hp4 hs4 => ?_)
  obtain ⟨rfl, hq4, fr4⟩ := hp4
  replace hq4 : sz4 = sz := hq4
  subst sz4
  replace hs4 : st4 = [.int (g2 (1 : Int32).toNatClampNeg)] := hs4
  subst st4
  refine z_top (st1 := [.int 1]) (by rw [show g2 ((1 : Int32).toNatClampNeg) = 1 from hg1]) ?_
  refine z_istore (lv' := [(4, .int 1), (3, .int 1), (0, .ref h), (1, .ref h2), (2, .int 511)]) B dX10_copyFrom_19 (Nat.le_of_ble_eq_true rfl) rfl ?_
  refine z_iload_n B dX10_copyFrom_21 rfl 4 rfl ?_
  refine z_iload B dX10_copyFrom_22 0 rfl ?_
  refine z_ishr B dX10_copyFrom_24 ?_
  refine z_top (st1 := [.int 255]) (congrArg (fun w9 : Int32 => ([.int w9] : List Value)) (show ((511 : Int32) >>> ((1 : Int32) &&& (31 : Int32)) : Int32) = 255 by decide +kernel)) ?_
  refine z_iconst (v := 1) B dX10_copyFrom_25 rfl ?_
  refine z_iand B dX10_copyFrom_26 ?_
  refine z_top (st1 := [.int 1]) (congrArg (fun w9 : Int32 => ([.int w9] : List Value)) (show (255 &&& 1 : Int32) = 1 by decide +kernel)) ?_
  refine z_iconst (v := 1) B dX10_copyFrom_27 rfl ?_
  refine z_icmp_ne (tgt := 37) B dX10_copyFrom_28 rfl (fun h9 => absurd (by decide) h9) (fun c_4 => ?_)
  refine z_aload_n B dX10_copyFrom_31 rfl 2 rfl ?_
  refine z_iload B dX10_copyFrom_32 0 rfl ?_
  have h_13 : Φ4 h = some (o_ 12 [.ref f, .int 1, .int 1, .int 1]) := ((fr4 h).trans h_10)
  have h_14 : Φ4 f = some (ai_ G 9 (upd g (0 : Int32).toNatClampNeg 0)) := ((fr4 f).trans h_9)
  refine z_callV (As := [.int 1]) (rest := []) B (c_X10_addField G l Φ4 sz h f 1 1 1 (upd g (0 : Int32).toNatClampNeg 0) 1 h_13 h_14 hne_h_f hna_h hna_f (by decide) (by decide) (by decide) (by decide) (vin rfl) (vin rfl)) (cwV 1 B.1.2.2.2.2 gX10_copyFrom_X10_addField rfl rfl rfl (by decide +kernel) ⟨Nat.le_of_ble_eq_true rfl, Nat.le_of_ble_eq_true rfl⟩) h_13 rfl rfl rfl rfl (Nat.le_of_ble_eq_true rfl) dX10_copyFrom_34 ⟨Nat.le_of_ble_eq_true rfl, Nat.le_of_ble_eq_true rfl⟩ (fun v5 Φ5 sz5 st5 hp5 hs5 => ?_)
  obtain ⟨rfl, hq5, fr5, h_15, h_16⟩ := hp5
  replace hq5 : sz5 = sz := hq5
  subst sz5
  replace hs5 : st5 = [] := hs5
  subst st5
  have h_17 : Φ5 f = some (ai_ G 9 (upd (upd g (0 : Int32).toNatClampNeg 0) (1 : Int32).toNatClampNeg 1)) := h_15
  have h_18 : Φ5 h = some (o_ 12 [.ref f, .int 2, .int 3, .int 2]) := h_16
  refine z_iinc (k := 1) (v := 2) (lv' := [(3, .int 2), (4, .int 1), (0, .ref h), (1, .ref h2), (2, .int 511)]) B dX10_copyFrom_37 rfl rfl (Nat.le_of_ble_eq_true rfl) rfl ?_
  refine z_goto (tgt := 6) B dX10_copyFrom_40 rfl ?_
  refine z_iload_n B dX10_copyFrom_6 rfl 0 rfl ?_
  refine z_aload_n B dX10_copyFrom_7 rfl 3 rfl ?_
  have h_19 : Φ5 h2 = some (o_ 12 [.ref f2, .int 9, .int b2, .int d2]) := ((fr5 h2 hne_h2_f (Ne.symm hne_h_h2)).trans ((fr4 h2).trans h_11))
  refine z_get (ref := "FlowExporter$Template") (C := RX10) (T := TX10) (N := 4) (ci := 12) (v := .int 9) B (by decide +kernel) rfl 1 (by decide) (by decide +kernel) rfl h_19 rfl dX10_copyFrom_8 ?_
  refine z_icmp_ge (tgt := 43) B dX10_copyFrom_11 rfl (fun h9 => absurd h9 (by decide)) (fun c_5 => ?_)
  refine z_aload_n B dX10_copyFrom_14 rfl 3 rfl ?_
  refine z_iload_n B dX10_copyFrom_15 rfl 0 rfl ?_
  have h_20 : Φ5 f2 = some (ai_ G 9 g2) := ((fr5 f2 (Ne.symm hne_f_f2) (Ne.symm hne_h_f2)).trans ((fr4 f2).trans h_12))
  refine z_callV (As := [.int 2]) (rest := []) B (c_X10_field G l Φ5 sz h2 f2 9 b2 d2 g2 2 h_19 h_20 (by decide) (by decide) (vin rfl)) (cwV 1 B.1.2.2.2.2 gX10_copyFrom_X10_field rfl rfl rfl (by decide +kernel) ⟨Nat.le_of_ble_eq_true rfl, Nat.le_of_ble_eq_true rfl⟩) h_19 rfl rfl rfl rfl (Nat.le_of_ble_eq_true rfl) dX10_copyFrom_16 ⟨Nat.le_of_ble_eq_true rfl, Nat.le_of_ble_eq_true rfl⟩ (fun v6 Φ6 sz6 st6 hp6 hs6 => ?_)
  obtain ⟨rfl, hq6, fr6⟩ := hp6
  replace hq6 : sz6 = sz := hq6
  subst sz6
  replace hs6 : st6 = [.int (g2 (2 : Int32).toNatClampNeg)] := hs6
  subst st6
  refine z_top (st1 := [.int 2]) (by rw [show g2 ((2 : Int32).toNatClampNeg) = 2 from hg2]) ?_
  refine z_istore (lv' := [(4, .int 2), (3, .int 2), (0, .ref h), (1, .ref h2), (2, .int 511)]) B dX10_copyFrom_19 (Nat.le_of_ble_eq_true rfl) rfl ?_
  refine z_iload_n B dX10_copyFrom_21 rfl 4 rfl ?_
  refine z_iload B dX10_copyFrom_22 0 rfl ?_
  refine z_ishr B dX10_copyFrom_24 ?_
  refine z_top (st1 := [.int 127]) (congrArg (fun w9 : Int32 => ([.int w9] : List Value)) (show ((511 : Int32) >>> ((2 : Int32) &&& (31 : Int32)) : Int32) = 127 by decide +kernel)) ?_
  refine z_iconst (v := 1) B dX10_copyFrom_25 rfl ?_
  refine z_iand B dX10_copyFrom_26 ?_
  refine z_top (st1 := [.int 1]) (congrArg (fun w9 : Int32 => ([.int w9] : List Value)) (show (127 &&& 1 : Int32) = 1 by decide +kernel)) ?_
  refine z_iconst (v := 1) B dX10_copyFrom_27 rfl ?_
  refine z_icmp_ne (tgt := 37) B dX10_copyFrom_28 rfl (fun h9 => absurd (by decide) h9) (fun c_6 => ?_)
  refine z_aload_n B dX10_copyFrom_31 rfl 2 rfl ?_
  refine z_iload B dX10_copyFrom_32 0 rfl ?_
  have h_21 : Φ6 h = some (o_ 12 [.ref f, .int 2, .int 3, .int 2]) := ((fr6 h).trans h_18)
  have h_22 : Φ6 f = some (ai_ G 9 (upd (upd g (0 : Int32).toNatClampNeg 0) (1 : Int32).toNatClampNeg 1)) := ((fr6 f).trans h_17)
  refine z_callV (As := [.int 2]) (rest := []) B (c_X10_addField G l Φ6 sz h f 2 3 2 (upd (upd g (0 : Int32).toNatClampNeg 0) (1 : Int32).toNatClampNeg 1) 2 h_21 h_22 hne_h_f hna_h hna_f (by decide) (by decide) (by decide) (by decide) (vin rfl) (vin rfl)) (cwV 1 B.1.2.2.2.2 gX10_copyFrom_X10_addField rfl rfl rfl (by decide +kernel) ⟨Nat.le_of_ble_eq_true rfl, Nat.le_of_ble_eq_true rfl⟩) h_21 rfl rfl rfl rfl (Nat.le_of_ble_eq_true rfl) dX10_copyFrom_34 ⟨Nat.le_of_ble_eq_true rfl, Nat.le_of_ble_eq_true rfl⟩ (fun v7 Φ7 sz7 st7 hp7 hs7 => ?_)
  obtain ⟨rfl, hq7, fr7, h_23, h_24⟩ := hp7
  replace hq7 : sz7 = sz := hq7
  subst sz7
  replace hs7 : st7 = [] := hs7
  subst st7
  have h_25 : Φ7 f = some (ai_ G 9 (upd (upd (upd g (0 : Int32).toNatClampNeg 0) (1 : Int32).toNatClampNeg 1) (2 : Int32).toNatClampNeg 2)) := h_23
  have h_26 : Φ7 h = some (o_ 12 [.ref f, .int 3, .int 7, .int 4]) := h_24
  refine z_iinc (k := 1) (v := 3) (lv' := [(3, .int 3), (4, .int 2), (0, .ref h), (1, .ref h2), (2, .int 511)]) B dX10_copyFrom_37 rfl rfl (Nat.le_of_ble_eq_true rfl) rfl ?_
  refine z_goto (tgt := 6) B dX10_copyFrom_40 rfl ?_
  refine z_iload_n B dX10_copyFrom_6 rfl 0 rfl ?_
  refine z_aload_n B dX10_copyFrom_7 rfl 3 rfl ?_
  have h_27 : Φ7 h2 = some (o_ 12 [.ref f2, .int 9, .int b2, .int d2]) := ((fr7 h2 hne_h2_f (Ne.symm hne_h_h2)).trans ((fr6 h2).trans h_19))
  refine z_get (ref := "FlowExporter$Template") (C := RX10) (T := TX10) (N := 4) (ci := 12) (v := .int 9) B (by decide +kernel) rfl 1 (by decide) (by decide +kernel) rfl h_27 rfl dX10_copyFrom_8 ?_
  refine z_icmp_ge (tgt := 43) B dX10_copyFrom_11 rfl (fun h9 => absurd h9 (by decide)) (fun c_7 => ?_)
  refine z_aload_n B dX10_copyFrom_14 rfl 3 rfl ?_
  refine z_iload_n B dX10_copyFrom_15 rfl 0 rfl ?_
  have h_28 : Φ7 f2 = some (ai_ G 9 g2) := ((fr7 f2 (Ne.symm hne_f_f2) (Ne.symm hne_h_f2)).trans ((fr6 f2).trans h_20))
  refine z_callV (As := [.int 3]) (rest := []) B (c_X10_field G l Φ7 sz h2 f2 9 b2 d2 g2 3 h_27 h_28 (by decide) (by decide) (vin rfl)) (cwV 1 B.1.2.2.2.2 gX10_copyFrom_X10_field rfl rfl rfl (by decide +kernel) ⟨Nat.le_of_ble_eq_true rfl, Nat.le_of_ble_eq_true rfl⟩) h_27 rfl rfl rfl rfl (Nat.le_of_ble_eq_true rfl) dX10_copyFrom_16 ⟨Nat.le_of_ble_eq_true rfl, Nat.le_of_ble_eq_true rfl⟩ (fun v8 Φ8 sz8 st8 hp8 hs8 => ?_)
  obtain ⟨rfl, hq8, fr8⟩ := hp8
  replace hq8 : sz8 = sz := hq8
  subst sz8
  replace hs8 : st8 = [.int (g2 (3 : Int32).toNatClampNeg)] := hs8
  subst st8
  refine z_top (st1 := [.int 3]) (by rw [show g2 ((3 : Int32).toNatClampNeg) = 3 from hg3]) ?_
  refine z_istore (lv' := [(4, .int 3), (3, .int 3), (0, .ref h), (1, .ref h2), (2, .int 511)]) B dX10_copyFrom_19 (Nat.le_of_ble_eq_true rfl) rfl ?_
  refine z_iload_n B dX10_copyFrom_21 rfl 4 rfl ?_
  refine z_iload B dX10_copyFrom_22 0 rfl ?_
  refine z_ishr B dX10_copyFrom_24 ?_
  refine z_top (st1 := [.int 63]) (congrArg (fun w9 : Int32 => ([.int w9] : List Value)) (show ((511 : Int32) >>> ((3 : Int32) &&& (31 : Int32)) : Int32) = 63 by decide +kernel)) ?_
  refine z_iconst (v := 1) B dX10_copyFrom_25 rfl ?_
  refine z_iand B dX10_copyFrom_26 ?_
  refine z_top (st1 := [.int 1]) (congrArg (fun w9 : Int32 => ([.int w9] : List Value)) (show (63 &&& 1 : Int32) = 1 by decide +kernel)) ?_
  refine z_iconst (v := 1) B dX10_copyFrom_27 rfl ?_
  refine z_icmp_ne (tgt := 37) B dX10_copyFrom_28 rfl (fun h9 => absurd (by decide) h9) (fun c_8 => ?_)
  refine z_aload_n B dX10_copyFrom_31 rfl 2 rfl ?_
  refine z_iload B dX10_copyFrom_32 0 rfl ?_
  have h_29 : Φ8 h = some (o_ 12 [.ref f, .int 3, .int 7, .int 4]) := ((fr8 h).trans h_26)
  have h_30 : Φ8 f = some (ai_ G 9 (upd (upd (upd g (0 : Int32).toNatClampNeg 0) (1 : Int32).toNatClampNeg 1) (2 : Int32).toNatClampNeg 2)) := ((fr8 f).trans h_25)
  refine z_callV (As := [.int 3]) (rest := []) B (c_X10_addField G l Φ8 sz h f 3 7 4 (upd (upd (upd g (0 : Int32).toNatClampNeg 0) (1 : Int32).toNatClampNeg 1) (2 : Int32).toNatClampNeg 2) 3 h_29 h_30 hne_h_f hna_h hna_f (by decide) (by decide) (by decide) (by decide) (vin rfl) (vin rfl)) (cwV 1 B.1.2.2.2.2 gX10_copyFrom_X10_addField rfl rfl rfl (by decide +kernel) ⟨Nat.le_of_ble_eq_true rfl, Nat.le_of_ble_eq_true rfl⟩) h_29 rfl rfl rfl rfl (Nat.le_of_ble_eq_true rfl) dX10_copyFrom_34 ⟨Nat.le_of_ble_eq_true rfl, Nat.le_of_ble_eq_true rfl⟩ (fun v9 Φ9 sz9 st9 hp9 hs9 => ?_)
  obtain ⟨rfl, hq9, fr9, h_31, h_32⟩ := hp9
  replace hq9 : sz9 = sz := hq9
  subst sz9
  replace hs9 : st9 = [] := hs9
  subst st9
  have h_33 : Φ9 f = some (ai_ G 9 (upd (upd (upd (upd g (0 : Int32).toNatClampNeg 0) (1 : Int32).toNatClampNeg 1) (2 : Int32).toNatClampNeg 2) (3 : Int32).toNatClampNeg 3)) := h_31
  have h_34 : Φ9 h = some (o_ 12 [.ref f, .int 4, .int 15, .int 5]) := h_32
  refine z_iinc (k := 1) (v := 4) (lv' := [(3, .int 4), (4, .int 3), (0, .ref h), (1, .ref h2), (2, .int 511)]) B dX10_copyFrom_37 rfl rfl (Nat.le_of_ble_eq_true rfl) rfl ?_
  refine z_goto (tgt := 6) B dX10_copyFrom_40 rfl ?_
  refine z_iload_n B dX10_copyFrom_6 rfl 0 rfl ?_
  refine z_aload_n B dX10_copyFrom_7 rfl 3 rfl ?_
  have h_35 : Φ9 h2 = some (o_ 12 [.ref f2, .int 9, .int b2, .int d2]) := ((fr9 h2 hne_h2_f (Ne.symm hne_h_h2)).trans ((fr8 h2).trans h_27))
  refine z_get (ref := "FlowExporter$Template") (C := RX10) (T := TX10) (N := 4) (ci := 12) (v := .int 9) B (by decide +kernel) rfl 1 (by decide) (by decide +kernel) rfl h_35 rfl dX10_copyFrom_8 ?_
  refine z_icmp_ge (tgt := 43) B dX10_copyFrom_11 rfl (fun h9 => absurd h9 (by decide)) (fun c_9 => ?_)
  refine z_aload_n B dX10_copyFrom_14 rfl 3 rfl ?_
  refine z_iload_n B dX10_copyFrom_15 rfl 0 rfl ?_
  have h_36 : Φ9 f2 = some (ai_ G 9 g2) := ((fr9 f2 (Ne.symm hne_f_f2) (Ne.symm hne_h_f2)).trans ((fr8 f2).trans h_28))
  refine z_callV (As := [.int 4]) (rest := []) B (c_X10_field G l Φ9 sz h2 f2 9 b2 d2 g2 4 h_35 h_36 (by decide) (by decide) (vin rfl)) (cwV 1 B.1.2.2.2.2 gX10_copyFrom_X10_field rfl rfl rfl (by decide +kernel) ⟨Nat.le_of_ble_eq_true rfl, Nat.le_of_ble_eq_true rfl⟩) h_35 rfl rfl rfl rfl (Nat.le_of_ble_eq_true rfl) dX10_copyFrom_16 ⟨Nat.le_of_ble_eq_true rfl, Nat.le_of_ble_eq_true rfl⟩ (fun v10 Φ10 sz10 st10 hp10 hs10 => ?_)
  obtain ⟨rfl, hq10, fr10⟩ := hp10
  replace hq10 : sz10 = sz := hq10
  subst sz10
  replace hs10 : st10 = [.int (g2 (4 : Int32).toNatClampNeg)] := hs10
  subst st10
  refine z_top (st1 := [.int 4]) (by rw [show g2 ((4 : Int32).toNatClampNeg) = 4 from hg4]) ?_
  refine z_istore (lv' := [(4, .int 4), (3, .int 4), (0, .ref h), (1, .ref h2), (2, .int 511)]) B dX10_copyFrom_19 (Nat.le_of_ble_eq_true rfl) rfl ?_
  refine z_iload_n B dX10_copyFrom_21 rfl 4 rfl ?_
  refine z_iload B dX10_copyFrom_22 0 rfl ?_
  refine z_ishr B dX10_copyFrom_24 ?_
  refine z_top (st1 := [.int 31]) (congrArg (fun w9 : Int32 => ([.int w9] : List Value)) (show ((511 : Int32) >>> ((4 : Int32) &&& (31 : Int32)) : Int32) = 31 by decide +kernel)) ?_
  refine z_iconst (v := 1) B dX10_copyFrom_25 rfl ?_
  refine z_iand B dX10_copyFrom_26 ?_
  refine z_top (st1 := [.int 1]) (congrArg (fun w9 : Int32 => ([.int w9] : List Value)) (show (31 &&& 1 : Int32) = 1 by decide +kernel)) ?_
  refine z_iconst (v := 1) B dX10_copyFrom_27 rfl ?_
  refine z_icmp_ne (tgt := 37) B dX10_copyFrom_28 rfl (fun h9 => absurd (by decide) h9) (fun c_10 => ?_)
  refine z_aload_n B dX10_copyFrom_31 rfl 2 rfl ?_
  refine z_iload B dX10_copyFrom_32 0 rfl ?_
  have h_37 : Φ10 h = some (o_ 12 [.ref f, .int 4, .int 15, .int 5]) := ((fr10 h).trans h_34)
  have h_38 : Φ10 f = some (ai_ G 9 (upd (upd (upd (upd g (0 : Int32).toNatClampNeg 0) (1 : Int32).toNatClampNeg 1) (2 : Int32).toNatClampNeg 2) (3 : Int32).toNatClampNeg 3)) := ((fr10 f).trans h_33)
  refine z_callV (As := [.int 4]) (rest := []) B (c_X10_addField G l Φ10 sz h f 4 15 5 (upd (upd (upd (upd g (0 : Int32).toNatClampNeg 0) (1 : Int32).toNatClampNeg 1) (2 : Int32).toNatClampNeg 2) (3 : Int32).toNatClampNeg 3) 4 h_37 h_38 hne_h_f hna_h hna_f (by decide) (by decide) (by decide) (by decide) (vin rfl) (vin rfl)) (cwV 1 B.1.2.2.2.2 gX10_copyFrom_X10_addField rfl rfl rfl (by decide +kernel) ⟨Nat.le_of_ble_eq_true rfl, Nat.le_of_ble_eq_true rfl⟩) h_37 rfl rfl rfl rfl (Nat.le_of_ble_eq_true rfl) dX10_copyFrom_34 ⟨Nat.le_of_ble_eq_true rfl, Nat.le_of_ble_eq_true rfl⟩ (fun v11 Φ11 sz11 st11 hp11 hs11 => ?_)
  obtain ⟨rfl, hq11, fr11, h_39, h_40⟩ := hp11
  replace hq11 : sz11 = sz := hq11
  subst sz11
  replace hs11 : st11 = [] := hs11
  subst st11
  have h_41 : Φ11 f = some (ai_ G 9 (upd (upd (upd (upd (upd g (0 : Int32).toNatClampNeg 0) (1 : Int32).toNatClampNeg 1) (2 : Int32).toNatClampNeg 2) (3 : Int32).toNatClampNeg 3) (4 : Int32).toNatClampNeg 4)) := h_39
  have h_42 : Φ11 h = some (o_ 12 [.ref f, .int 5, .int 31, .int 9]) := h_40
  refine z_iinc (k := 1) (v := 5) (lv' := [(3, .int 5), (4, .int 4), (0, .ref h), (1, .ref h2), (2, .int 511)]) B dX10_copyFrom_37 rfl rfl (Nat.le_of_ble_eq_true rfl) rfl ?_
  refine z_goto (tgt := 6) B dX10_copyFrom_40 rfl ?_
  refine z_iload_n B dX10_copyFrom_6 rfl 0 rfl ?_
  refine z_aload_n B dX10_copyFrom_7 rfl 3 rfl ?_
  have h_43 : Φ11 h2 = some (o_ 12 [.ref f2, .int 9, .int b2, .int d2]) := ((fr11 h2 hne_h2_f (Ne.symm hne_h_h2)).trans ((fr10 h2).trans h_35))
  refine z_get (ref := "FlowExporter$Template") (C := RX10) (T := TX10) (N := 4) (ci := 12) (v := .int 9) B (by decide +kernel) rfl 1 (by decide) (by decide +kernel) rfl h_43 rfl dX10_copyFrom_8 ?_
  refine z_icmp_ge (tgt := 43) B dX10_copyFrom_11 rfl (fun h9 => absurd h9 (by decide)) (fun c_11 => ?_)
  refine z_aload_n B dX10_copyFrom_14 rfl 3 rfl ?_
  refine z_iload_n B dX10_copyFrom_15 rfl 0 rfl ?_
  have h_44 : Φ11 f2 = some (ai_ G 9 g2) := ((fr11 f2 (Ne.symm hne_f_f2) (Ne.symm hne_h_f2)).trans ((fr10 f2).trans h_36))
  refine z_callV (As := [.int 5]) (rest := []) B (c_X10_field G l Φ11 sz h2 f2 9 b2 d2 g2 5 h_43 h_44 (by decide) (by decide) (vin rfl)) (cwV 1 B.1.2.2.2.2 gX10_copyFrom_X10_field rfl rfl rfl (by decide +kernel) ⟨Nat.le_of_ble_eq_true rfl, Nat.le_of_ble_eq_true rfl⟩) h_43 rfl rfl rfl rfl (Nat.le_of_ble_eq_true rfl) dX10_copyFrom_16 ⟨Nat.le_of_ble_eq_true rfl, Nat.le_of_ble_eq_true rfl⟩ (fun v12 Φ12 sz12 st12 hp12 hs12 => ?_)
  obtain ⟨rfl, hq12, fr12⟩ := hp12
  replace hq12 : sz12 = sz := hq12
  subst sz12
  replace hs12 : st12 = [.int (g2 (5 : Int32).toNatClampNeg)] := hs12
  subst st12
  refine z_top (st1 := [.int 5]) (by rw [show g2 ((5 : Int32).toNatClampNeg) = 5 from hg5]) ?_
  refine z_istore (lv' := [(4, .int 5), (3, .int 5), (0, .ref h), (1, .ref h2), (2, .int 511)]) B dX10_copyFrom_19 (Nat.le_of_ble_eq_true rfl) rfl ?_
  refine z_iload_n B dX10_copyFrom_21 rfl 4 rfl ?_
  refine z_iload B dX10_copyFrom_22 0 rfl ?_
  refine z_ishr B dX10_copyFrom_24 ?_
  refine z_top (st1 := [.int 15]) (congrArg (fun w9 : Int32 => ([.int w9] : List Value)) (show ((511 : Int32) >>> ((5 : Int32) &&& (31 : Int32)) : Int32) = 15 by decide +kernel)) ?_
  refine z_iconst (v := 1) B dX10_copyFrom_25 rfl ?_
  refine z_iand B dX10_copyFrom_26 ?_
  refine z_top (st1 := [.int 1]) (congrArg (fun w9 : Int32 => ([.int w9] : List Value)) (show (15 &&& 1 : Int32) = 1 by decide +kernel)) ?_
  refine z_iconst (v := 1) B dX10_copyFrom_27 rfl ?_
  refine z_icmp_ne (tgt := 37) B dX10_copyFrom_28 rfl (fun h9 => absurd (by decide) h9) (fun c_12 => ?_)
  refine z_aload_n B dX10_copyFrom_31 rfl 2 rfl ?_
  refine z_iload B dX10_copyFrom_32 0 rfl ?_
  have h_45 : Φ12 h = some (o_ 12 [.ref f, .int 5, .int 31, .int 9]) := ((fr12 h).trans h_42)
  have h_46 : Φ12 f = some (ai_ G 9 (upd (upd (upd (upd (upd g (0 : Int32).toNatClampNeg 0) (1 : Int32).toNatClampNeg 1) (2 : Int32).toNatClampNeg 2) (3 : Int32).toNatClampNeg 3) (4 : Int32).toNatClampNeg 4)) := ((fr12 f).trans h_41)
  refine z_callV (As := [.int 5]) (rest := []) B (c_X10_addField G l Φ12 sz h f 5 31 9 (upd (upd (upd (upd (upd g (0 : Int32).toNatClampNeg 0) (1 : Int32).toNatClampNeg 1) (2 : Int32).toNatClampNeg 2) (3 : Int32).toNatClampNeg 3) (4 : Int32).toNatClampNeg 4) 5 h_45 h_46 hne_h_f hna_h hna_f (by decide) (by decide) (by decide) (by decide) (vin rfl) (vin rfl)) (cwV 1 B.1.2.2.2.2 gX10_copyFrom_X10_addField rfl rfl rfl (by decide +kernel) ⟨Nat.le_of_ble_eq_true rfl, Nat.le_of_ble_eq_true rfl⟩) h_45 rfl rfl rfl rfl (Nat.le_of_ble_eq_true rfl) dX10_copyFrom_34 ⟨Nat.le_of_ble_eq_true rfl, Nat.le_of_ble_eq_true rfl⟩ (fun v13 Φ13 sz13 st13 hp13 hs13 => ?_)
  obtain ⟨rfl, hq13, fr13, h_47, h_48⟩ := hp13
  replace hq13 : sz13 = sz := hq13
  subst sz13
  replace hs13 : st13 = [] := hs13
  subst st13
  have h_49 : Φ13 f = some (ai_ G 9 (upd (upd (upd (upd (upd (upd g (0 : Int32).toNatClampNeg 0) (1 : Int32).toNatClampNeg 1) (2 : Int32).toNatClampNeg 2) (3 : Int32).toNatClampNeg 3) (4 : Int32).toNatClampNeg 4) (5 : Int32).toNatClampNeg 5)) := h_47
  have h_50 : Φ13 h = some (o_ 12 [.ref f, .int 6, .int 63, .int 17]) := h_48
  refine z_iinc (k := 1) (v := 6) (lv' := [(3, .int 6), (4, .int 5), (0, .ref h), (1, .ref h2), (2, .int 511)]) B dX10_copyFrom_37 rfl rfl (Nat.le_of_ble_eq_true rfl) rfl ?_
  refine z_goto (tgt := 6) B dX10_copyFrom_40 rfl ?_
  refine z_iload_n B dX10_copyFrom_6 rfl 0 rfl ?_
  refine z_aload_n B dX10_copyFrom_7 rfl 3 rfl ?_
  have h_51 : Φ13 h2 = some (o_ 12 [.ref f2, .int 9, .int b2, .int d2]) := ((fr13 h2 hne_h2_f (Ne.symm hne_h_h2)).trans ((fr12 h2).trans h_43))
  refine z_get (ref := "FlowExporter$Template") (C := RX10) (T := TX10) (N := 4) (ci := 12) (v := .int 9) B (by decide +kernel) rfl 1 (by decide) (by decide +kernel) rfl h_51 rfl dX10_copyFrom_8 ?_
  refine z_icmp_ge (tgt := 43) B dX10_copyFrom_11 rfl (fun h9 => absurd h9 (by decide)) (fun c_13 => ?_)
  refine z_aload_n B dX10_copyFrom_14 rfl 3 rfl ?_
  refine z_iload_n B dX10_copyFrom_15 rfl 0 rfl ?_
  have h_52 : Φ13 f2 = some (ai_ G 9 g2) := ((fr13 f2 (Ne.symm hne_f_f2) (Ne.symm hne_h_f2)).trans ((fr12 f2).trans h_44))
  refine z_callV (As := [.int 6]) (rest := []) B (c_X10_field G l Φ13 sz h2 f2 9 b2 d2 g2 6 h_51 h_52 (by decide) (by decide) (vin rfl)) (cwV 1 B.1.2.2.2.2 gX10_copyFrom_X10_field rfl rfl rfl (by decide +kernel) ⟨Nat.le_of_ble_eq_true rfl, Nat.le_of_ble_eq_true rfl⟩) h_51 rfl rfl rfl rfl (Nat.le_of_ble_eq_true rfl) dX10_copyFrom_16 ⟨Nat.le_of_ble_eq_true rfl, Nat.le_of_ble_eq_true rfl⟩ (fun v14 Φ14 sz14 st14 hp14 hs14 => ?_)
  obtain ⟨rfl, hq14, fr14⟩ := hp14
  replace hq14 : sz14 = sz := hq14
  subst sz14
  replace hs14 : st14 = [.int (g2 (6 : Int32).toNatClampNeg)] := hs14
  subst st14
  refine z_top (st1 := [.int 6]) (by rw [show g2 ((6 : Int32).toNatClampNeg) = 6 from hg6]) ?_
  refine z_istore (lv' := [(4, .int 6), (3, .int 6), (0, .ref h), (1, .ref h2), (2, .int 511)]) B dX10_copyFrom_19 (Nat.le_of_ble_eq_true rfl) rfl ?_
  refine z_iload_n B dX10_copyFrom_21 rfl 4 rfl ?_
  refine z_iload B dX10_copyFrom_22 0 rfl ?_
  refine z_ishr B dX10_copyFrom_24 ?_
  refine z_top (st1 := [.int 7]) (congrArg (fun w9 : Int32 => ([.int w9] : List Value)) (show ((511 : Int32) >>> ((6 : Int32) &&& (31 : Int32)) : Int32) = 7 by decide +kernel)) ?_
  refine z_iconst (v := 1) B dX10_copyFrom_25 rfl ?_
  refine z_iand B dX10_copyFrom_26 ?_
  refine z_top (st1 := [.int 1]) (congrArg (fun w9 : Int32 => ([.int w9] : List Value)) (show (7 &&& 1 : Int32) = 1 by decide +kernel)) ?_
  refine z_iconst (v := 1) B dX10_copyFrom_27 rfl ?_
  refine z_icmp_ne (tgt := 37) B dX10_copyFrom_28 rfl (fun h9 => absurd (by decide) h9) (fun c_14 => ?_)
  refine z_aload_n B dX10_copyFrom_31 rfl 2 rfl ?_
  refine z_iload B dX10_copyFrom_32 0 rfl ?_
  have h_53 : Φ14 h = some (o_ 12 [.ref f, .int 6, .int 63, .int 17]) := ((fr14 h).trans h_50)
  have h_54 : Φ14 f = some (ai_ G 9 (upd (upd (upd (upd (upd (upd g (0 : Int32).toNatClampNeg 0) (1 : Int32).toNatClampNeg 1) (2 : Int32).toNatClampNeg 2) (3 : Int32).toNatClampNeg 3) (4 : Int32).toNatClampNeg 4) (5 : Int32).toNatClampNeg 5)) := ((fr14 f).trans h_49)
  refine z_callV (As := [.int 6]) (rest := []) B (c_X10_addField G l Φ14 sz h f 6 63 17 (upd (upd (upd (upd (upd (upd g (0 : Int32).toNatClampNeg 0) (1 : Int32).toNatClampNeg 1) (2 : Int32).toNatClampNeg 2) (3 : Int32).toNatClampNeg 3) (4 : Int32).toNatClampNeg 4) (5 : Int32).toNatClampNeg 5) 6 h_53 h_54 hne_h_f hna_h hna_f (by decide) (by decide) (by decide) (by decide) (vin rfl) (vin rfl)) (cwV 1 B.1.2.2.2.2 gX10_copyFrom_X10_addField rfl rfl rfl (by decide +kernel) ⟨Nat.le_of_ble_eq_true rfl, Nat.le_of_ble_eq_true rfl⟩) h_53 rfl rfl rfl rfl (Nat.le_of_ble_eq_true rfl) dX10_copyFrom_34 ⟨Nat.le_of_ble_eq_true rfl, Nat.le_of_ble_eq_true rfl⟩ (fun v15 Φ15 sz15 st15 hp15 hs15 => ?_)
  obtain ⟨rfl, hq15, fr15, h_55, h_56⟩ := hp15
  replace hq15 : sz15 = sz := hq15
  subst sz15
  replace hs15 : st15 = [] := hs15
  subst st15
  have h_57 : Φ15 f = some (ai_ G 9 (upd (upd (upd (upd (upd (upd (upd g (0 : Int32).toNatClampNeg 0) (1 : Int32).toNatClampNeg 1) (2 : Int32).toNatClampNeg 2) (3 : Int32).toNatClampNeg 3) (4 : Int32).toNatClampNeg 4) (5 : Int32).toNatClampNeg 5) (6 : Int32).toNatClampNeg 6)) := h_55
  have h_58 : Φ15 h = some (o_ 12 [.ref f, .int 7, .int 127, .int 21]) := h_56
  refine z_iinc (k := 1) (v := 7) (lv' := [(3, .int 7), (4, .int 6), (0, .ref h), (1, .ref h2), (2, .int 511)]) B dX10_copyFrom_37 rfl rfl (Nat.le_of_ble_eq_true rfl) rfl ?_
  refine z_goto (tgt := 6) B dX10_copyFrom_40 rfl ?_
  refine z_iload_n B dX10_copyFrom_6 rfl 0 rfl ?_
  refine z_aload_n B dX10_copyFrom_7 rfl 3 rfl ?_
  have h_59 : Φ15 h2 = some (o_ 12 [.ref f2, .int 9, .int b2, .int d2]) := ((fr15 h2 hne_h2_f (Ne.symm hne_h_h2)).trans ((fr14 h2).trans h_51))
  refine z_get (ref := "FlowExporter$Template") (C := RX10) (T := TX10) (N := 4) (ci := 12) (v := .int 9) B (by decide +kernel) rfl 1 (by decide) (by decide +kernel) rfl h_59 rfl dX10_copyFrom_8 ?_
  refine z_icmp_ge (tgt := 43) B dX10_copyFrom_11 rfl (fun h9 => absurd h9 (by decide)) (fun c_15 => ?_)
  refine z_aload_n B dX10_copyFrom_14 rfl 3 rfl ?_
  refine z_iload_n B dX10_copyFrom_15 rfl 0 rfl ?_
  have h_60 : Φ15 f2 = some (ai_ G 9 g2) := ((fr15 f2 (Ne.symm hne_f_f2) (Ne.symm hne_h_f2)).trans ((fr14 f2).trans h_52))
  refine z_callV (As := [.int 7]) (rest := []) B (c_X10_field G l Φ15 sz h2 f2 9 b2 d2 g2 7 h_59 h_60 (by decide) (by decide) (vin rfl)) (cwV 1 B.1.2.2.2.2 gX10_copyFrom_X10_field rfl rfl rfl (by decide +kernel) ⟨Nat.le_of_ble_eq_true rfl, Nat.le_of_ble_eq_true rfl⟩) h_59 rfl rfl rfl rfl (Nat.le_of_ble_eq_true rfl) dX10_copyFrom_16 ⟨Nat.le_of_ble_eq_true rfl, Nat.le_of_ble_eq_true rfl⟩ (fun v16 Φ16 sz16 st16 hp16 hs16 => ?_)
  obtain ⟨rfl, hq16, fr16⟩ := hp16
  replace hq16 : sz16 = sz := hq16
  subst sz16
  replace hs16 : st16 = [.int (g2 (7 : Int32).toNatClampNeg)] := hs16
  subst st16
  refine z_top (st1 := [.int 7]) (by rw [show g2 ((7 : Int32).toNatClampNeg) = 7 from hg7]) ?_
  refine z_istore (lv' := [(4, .int 7), (3, .int 7), (0, .ref h), (1, .ref h2), (2, .int 511)]) B dX10_copyFrom_19 (Nat.le_of_ble_eq_true rfl) rfl ?_
  refine z_iload_n B dX10_copyFrom_21 rfl 4 rfl ?_
  refine z_iload B dX10_copyFrom_22 0 rfl ?_
  refine z_ishr B dX10_copyFrom_24 ?_
  refine z_top (st1 := [.int 3]) (congrArg (fun w9 : Int32 => ([.int w9] : List Value)) (show ((511 : Int32) >>> ((7 : Int32) &&& (31 : Int32)) : Int32) = 3 by decide +kernel)) ?_
  refine z_iconst (v := 1) B dX10_copyFrom_25 rfl ?_
  refine z_iand B dX10_copyFrom_26 ?_
  refine z_top (st1 := [.int 1]) (congrArg (fun w9 : Int32 => ([.int w9] : List Value)) (show (3 &&& 1 : Int32) = 1 by decide +kernel)) ?_
  refine z_iconst (v := 1) B dX10_copyFrom_27 rfl ?_
  refine z_icmp_ne (tgt := 37) B dX10_copyFrom_28 rfl (fun h9 => absurd (by decide) h9) (fun c_16 => ?_)
  refine z_aload_n B dX10_copyFrom_31 rfl 2 rfl ?_
  refine z_iload B dX10_copyFrom_32 0 rfl ?_
  have h_61 : Φ16 h = some (o_ 12 [.ref f, .int 7, .int 127, .int 21]) := ((fr16 h).trans h_58)
  have h_62 : Φ16 f = some (ai_ G 9 (upd (upd (upd (upd (upd (upd (upd g (0 : Int32).toNatClampNeg 0) (1 : Int32).toNatClampNeg 1) (2 : Int32).toNatClampNeg 2) (3 : Int32).toNatClampNeg 3) (4 : Int32).toNatClampNeg 4) (5 : Int32).toNatClampNeg 5) (6 : Int32).toNatClampNeg 6)) := ((fr16 f).trans h_57)
  refine z_callV (As := [.int 7]) (rest := []) B (c_X10_addField G l Φ16 sz h f 7 127 21 (upd (upd (upd (upd (upd (upd (upd g (0 : Int32).toNatClampNeg 0) (1 : Int32).toNatClampNeg 1) (2 : Int32).toNatClampNeg 2) (3 : Int32).toNatClampNeg 3) (4 : Int32).toNatClampNeg 4) (5 : Int32).toNatClampNeg 5) (6 : Int32).toNatClampNeg 6) 7 h_61 h_62 hne_h_f hna_h hna_f (by decide) (by decide) (by decide) (by decide) (vin rfl) (vin rfl)) (cwV 1 B.1.2.2.2.2 gX10_copyFrom_X10_addField rfl rfl rfl (by decide +kernel) ⟨Nat.le_of_ble_eq_true rfl, Nat.le_of_ble_eq_true rfl⟩) h_61 rfl rfl rfl rfl (Nat.le_of_ble_eq_true rfl) dX10_copyFrom_34 ⟨Nat.le_of_ble_eq_true rfl, Nat.le_of_ble_eq_true rfl⟩ (fun v17 Φ17 sz17 st17 hp17 hs17 => ?_)
  obtain ⟨rfl, hq17, fr17, h_63, h_64⟩ := hp17
  replace hq17 : sz17 = sz := hq17
  subst sz17
  replace hs17 : st17 = [] := hs17
  subst st17
  have h_65 : Φ17 f = some (ai_ G 9 (upd (upd (upd (upd (upd (upd (upd (upd g (0 : Int32).toNatClampNeg 0) (1 : Int32).toNatClampNeg 1) (2 : Int32).toNatClampNeg 2) (3 : Int32).toNatClampNeg 3) (4 : Int32).toNatClampNeg 4) (5 : Int32).toNatClampNeg 5) (6 : Int32).toNatClampNeg 6) (7 : Int32).toNatClampNeg 7)) := h_63
  have h_66 : Φ17 h = some (o_ 12 [.ref f, .int 8, .int 255, .int 25]) := h_64
  refine z_iinc (k := 1) (v := 8) (lv' := [(3, .int 8), (4, .int 7), (0, .ref h), (1, .ref h2), (2, .int 511)]) B dX10_copyFrom_37 rfl rfl (Nat.le_of_ble_eq_true rfl) rfl ?_
  refine z_goto (tgt := 6) B dX10_copyFrom_40 rfl ?_
  refine z_iload_n B dX10_copyFrom_6 rfl 0 rfl ?_
  refine z_aload_n B dX10_copyFrom_7 rfl 3 rfl ?_
  have h_67 : Φ17 h2 = some (o_ 12 [.ref f2, .int 9, .int b2, .int d2]) := ((fr17 h2 hne_h2_f (Ne.symm hne_h_h2)).trans ((fr16 h2).trans h_59))
  refine z_get (ref := "FlowExporter$Template") (C := RX10) (T := TX10) (N := 4) (ci := 12) (v := .int 9) B (by decide +kernel) rfl 1 (by decide) (by decide +kernel) rfl h_67 rfl dX10_copyFrom_8 ?_
  refine z_icmp_ge (tgt := 43) B dX10_copyFrom_11 rfl (fun h9 => absurd h9 (by decide)) (fun c_17 => ?_)
  refine z_aload_n B dX10_copyFrom_14 rfl 3 rfl ?_
  refine z_iload_n B dX10_copyFrom_15 rfl 0 rfl ?_
  have h_68 : Φ17 f2 = some (ai_ G 9 g2) := ((fr17 f2 (Ne.symm hne_f_f2) (Ne.symm hne_h_f2)).trans ((fr16 f2).trans h_60))
  refine z_callV (As := [.int 8]) (rest := []) B (c_X10_field G l Φ17 sz h2 f2 9 b2 d2 g2 8 h_67 h_68 (by decide) (by decide) (vin rfl)) (cwV 1 B.1.2.2.2.2 gX10_copyFrom_X10_field rfl rfl rfl (by decide +kernel) ⟨Nat.le_of_ble_eq_true rfl, Nat.le_of_ble_eq_true rfl⟩) h_67 rfl rfl rfl rfl (Nat.le_of_ble_eq_true rfl) dX10_copyFrom_16 ⟨Nat.le_of_ble_eq_true rfl, Nat.le_of_ble_eq_true rfl⟩ (fun v18 Φ18 sz18 st18 hp18 hs18 => ?_)
  obtain ⟨rfl, hq18, fr18⟩ := hp18
  replace hq18 : sz18 = sz := hq18
  subst sz18
  replace hs18 : st18 = [.int (g2 (8 : Int32).toNatClampNeg)] := hs18
  subst st18
  refine z_top (st1 := [.int 8]) (by rw [show g2 ((8 : Int32).toNatClampNeg) = 8 from hg8]) ?_
  refine z_istore (lv' := [(4, .int 8), (3, .int 8), (0, .ref h), (1, .ref h2), (2, .int 511)]) B dX10_copyFrom_19 (Nat.le_of_ble_eq_true rfl) rfl ?_
  refine z_iload_n B dX10_copyFrom_21 rfl 4 rfl ?_
  refine z_iload B dX10_copyFrom_22 0 rfl ?_
  refine z_ishr B dX10_copyFrom_24 ?_
  refine z_top (st1 := [.int 1]) (congrArg (fun w9 : Int32 => ([.int w9] : List Value)) (show ((511 : Int32) >>> ((8 : Int32) &&& (31 : Int32)) : Int32) = 1 by decide +kernel)) ?_
  refine z_iconst (v := 1) B dX10_copyFrom_25 rfl ?_
  refine z_iand B dX10_copyFrom_26 ?_
  refine z_top (st1 := [.int 1]) (congrArg (fun w9 : Int32 => ([.int w9] : List Value)) (show (1 &&& 1 : Int32) = 1 by decide +kernel)) ?_
  refine z_iconst (v := 1) B dX10_copyFrom_27 rfl ?_
  refine z_icmp_ne (tgt := 37) B dX10_copyFrom_28 rfl (fun h9 => absurd (by decide) h9) (fun c_18 => ?_)
  refine z_aload_n B dX10_copyFrom_31 rfl 2 rfl ?_
  refine z_iload B dX10_copyFrom_32 0 rfl ?_
  have h_69 : Φ18 h = some (o_ 12 [.ref f, .int 8, .int 255, .int 25]) := ((fr18 h).trans h_66)
  have h_70 : Φ18 f = some (ai_ G 9 (upd (upd (upd (upd (upd (upd (upd (upd g (0 : Int32).toNatClampNeg 0) (1 : Int32).toNatClampNeg 1) (2 : Int32).toNatClampNeg 2) (3 : Int32).toNatClampNeg 3) (4 : Int32).toNatClampNeg 4) (5 : Int32).toNatClampNeg 5) (6 : Int32).toNatClampNeg 6) (7 : Int32).toNatClampNeg 7)) := ((fr18 f).trans h_65)
  refine z_callV (As := [.int 8]) (rest := []) B (c_X10_addField G l Φ18 sz h f 8 255 25 (upd (upd (upd (upd (upd (upd (upd (upd g (0 : Int32).toNatClampNeg 0) (1 : Int32).toNatClampNeg 1) (2 : Int32).toNatClampNeg 2) (3 : Int32).toNatClampNeg 3) (4 : Int32).toNatClampNeg 4) (5 : Int32).toNatClampNeg 5) (6 : Int32).toNatClampNeg 6) (7 : Int32).toNatClampNeg 7) 8 h_69 h_70 hne_h_f hna_h hna_f (by decide) (by decide) (by decide) (by decide) (vin rfl) (vin rfl)) (cwV 1 B.1.2.2.2.2 gX10_copyFrom_X10_addField rfl rfl rfl (by decide +kernel) ⟨Nat.le_of_ble_eq_true rfl, Nat.le_of_ble_eq_true rfl⟩) h_69 rfl rfl rfl rfl (Nat.le_of_ble_eq_true rfl) dX10_copyFrom_34 ⟨Nat.le_of_ble_eq_true rfl, Nat.le_of_ble_eq_true rfl⟩ (fun v19 Φ19 sz19 st19 hp19 hs19 => ?_)
  obtain ⟨rfl, hq19, fr19, h_71, h_72⟩ := hp19
  replace hq19 : sz19 = sz := hq19
  subst sz19
  replace hs19 : st19 = [] := hs19
  subst st19
  have h_73 : Φ19 f = some (ai_ G 9 (upd (upd (upd (upd (upd (upd (upd (upd (upd g (0 : Int32).toNatClampNeg 0) (1 : Int32).toNatClampNeg 1) (2 : Int32).toNatClampNeg 2) (3 : Int32).toNatClampNeg 3) (4 : Int32).toNatClampNeg 4) (5 : Int32).toNatClampNeg 5) (6 : Int32).toNatClampNeg 6) (7 : Int32).toNatClampNeg 7) (8 : Int32).toNatClampNeg 8)) := h_71
  have h_74 : Φ19 h = some (o_ 12 [.ref f, .int 9, .int 511, .int 29]) := h_72
  refine z_iinc (k := 1) (v := 9) (lv' := [(3, .int 9), (4, .int 8), (0, .ref h), (1, .ref h2), (2, .int 511)]) B dX10_copyFrom_37 rfl rfl (Nat.le_of_ble_eq_true rfl) rfl ?_
  refine z_goto (tgt := 6) B dX10_copyFrom_40 rfl ?_
  refine z_iload_n B dX10_copyFrom_6 rfl 0 rfl ?_
  refine z_aload_n B dX10_copyFrom_7 rfl 3 rfl ?_
  have h_75 : Φ19 h2 = some (o_ 12 [.ref f2, .int 9, .int b2, .int d2]) := ((fr19 h2 hne_h2_f (Ne.symm hne_h_h2)).trans ((fr18 h2).trans h_67))
  refine z_get (ref := "FlowExporter$Template") (C := RX10) (T := TX10) (N := 4) (ci := 12) (v := .int 9) B (by decide +kernel) rfl 1 (by decide) (by decide +kernel) rfl h_75 rfl dX10_copyFrom_8 ?_
  refine z_icmp_ge (tgt := 43) B dX10_copyFrom_11 rfl (fun c_19 => ?_) (fun h9 => absurd (by decide) h9)
  exact z_ret_v B dX10_copyFrom_43 ⟨rfl, rfl, (fun b9 h9a h9b => ((fr19 b9 h9a h9b).trans ((fr18 b9).trans ((fr17 b9 h9a h9b).trans ((fr16 b9).trans ((fr15 b9 h9a h9b).trans ((fr14 b9).trans ((fr13 b9 h9a h9b).trans ((fr12 b9).trans ((fr11 b9 h9a h9b).trans ((fr10 b9).trans ((fr9 b9 h9a h9b).trans ((fr8 b9).trans ((fr7 b9 h9a h9b).trans ((fr6 b9).trans ((fr5 b9 h9a h9b).trans ((fr4 b9).trans ((fr3 b9 h9a h9b).trans ((fr2 b9).trans ((fr1 b9 h9b).trans rfl)))))))))))))))))))), h_73, h_74⟩

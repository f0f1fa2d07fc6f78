theorem fset2 {Φ : Hm} {a : Nat} {x y : va_E} : fset (fset Φ a x) a y = fset Φ a y := by
  funext z
  by_cases h : z = a <;> simp [fset, h]
theorem fset3 {Φ : Hm} {a : Nat} {x y z w : va_E} (h : z = w) : fset (fset (fset Φ a x) a y) a z = fset Φ a w := by rw [fset2, fset2, h]
set_option maxHeartbeats 4000000 in
set_option maxRecDepth 100000 in
theorem c_X10_clear (G : EnvG) (l : Launch) (Φ : Hm) (sz : Nat) (h : Nat) (f : Nat) (a : Int32) (b : Int32) (d : Int32) (hc0 : Φ h = some (o_ 12 [.ref f, .int a, .int b, .int d])) (hna_h : G.2.2.2 ≤ h) : Ct G l yX10_clear wsX10_clear ({ frames := 0, cells := 0, slots := 0, locals := 0 }) 0 0 [.ref h] Φ sz (fun v Φ1 sz1 => v = none ∧ Φ1 = (fset Φ h (o_ 12 [.ref f, .int 0, .int 0, .int 0])) ∧ sz1 = sz) := by
  refine Ct.of (cc := cX10_clear) (maxL := 1) (ret := none) (by decide) rfl (Nat.le_of_ble_eq_true rfl) ?_
  intro p e s m below meth c B
  show Z p l e _ s m _ below meth c _ G 1 0 [(0, .ref h)] [] Φ sz 0 0
  refine z_aload_n B dX10_clear_0 rfl 0 rfl ?_
  refine z_iconst (v := 0) B dX10_clear_1 rfl ?_
  refine z_put (ref := "FlowExporter$Template") (C := RX10) (T := TX10) (N := 4) (ci := 12) (v := .int 0) B (by decide +kernel) tyX10 tyX10_ok nmX10 rfl 1 (by decide) (by decide +kernel) rfl (Or.inl rfl) hc0 hna_h rfl rfl (Nat.le_of_ble_eq_true rfl) dX10_clear_2 (fun Φ1 hΦ1 => ?_)
  have h_1 : Φ1 h = some (o_ 12 [.ref f, .int 0, .int b, .int d]) := fset_at hΦ1
  refine z_aload_n B dX10_clear_5 rfl 0 rfl ?_
  refine z_iconst (v := 0) B dX10_clear_6 rfl ?_
  refine z_put (ref := "FlowExporter$Template") (C := RX10) (T := TX10) (N := 4) (ci := 12) (v := .int 0) B (by decide +kernel) tyX10 tyX10_ok nmX10 rfl 2 (by decide) (by decide +kernel) rfl (Or.inl rfl) h_1 hna_h rfl rfl (Nat.le_of_ble_eq_true rfl) dX10_clear_7 (fun Φ2 hΦ2 => ?_)
  have h_2 : Φ2 h = some (o_ 12 [.ref f, .int 0, .int 0, .int d]) := fset_at hΦ2
  refine z_aload_n B dX10_clear_10 rfl 0 rfl ?_
  refine z_iconst (v := 0) B dX10_clear_11 rfl ?_
  refine z_put (ref := "FlowExporter$Template") (C := RX10) (T := TX10) (N := 4) (ci := 12) (v := .int 0) B (by decide +kernel) tyX10 tyX10_ok nmX10 rfl 3 (by decide) (by decide +kernel) rfl (Or.inl rfl) h_2 hna_h rfl rfl (Nat.le_of_ble_eq_true rfl) dX10_clear_12 (fun Φ3 hΦ3 => ?_)
  have h_3 : Φ3 h = some (o_ 12 [.ref f, .int 0, .int 0, .int 0]) := fset_at hΦ3
  exact z_ret_v B dX10_clear_15 ⟨rfl, by rw [hΦ3, hΦ2, hΦ1]; exact fset3 rfl, rfl⟩

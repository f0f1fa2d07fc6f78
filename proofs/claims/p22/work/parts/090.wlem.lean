/-! the law's wrappers: what they leave: the class's shape, the row that takes an answer, all else but what md tells -/
theorem In.out {G : EnvG} {x ca o : Nat} {Φ Φ1 : Hm} {e : va_E} (h : In G x ca Φ) (ho : ∀ j, j < 149 → o ≠ x + j) (h1 : Φ1 = fset Φ o e) : In G x ca Φ1 := by
  intro k
  by_cases hk : k < 149
  · rw [h1, fset_ne (fun q => ho k hk q.symm)]
    exact h k
  · have hkd : kd k = 99 := by
      unfold kd
      rw [List.getD_eq_getElem?_getD, List.getElem?_eq_none (show kdL.length ≤ k from Nat.not_lt.mp hk)]
      rfl
    unfold Ok
    rw [hkd]
    trivial
noncomputable def WpL (G : EnvG) (x ca : Nat) (md : Nat → Prop) (o : Nat) (Φ Φ1 : Hm) : Prop := In G x ca Φ1 ∧ (∃ f : Nat → Int64, Φ1 o = some (al_ G 1 f)) ∧ ∀ b, (∀ j, md j → b ≠ x + j) → b ≠ o → Φ1 b = Φ b
noncomputable def WpD (G : EnvG) (x ca : Nat) (md : Nat → Prop) (o : Nat) (Φ Φ1 : Hm) : Prop := In G x ca Φ1 ∧ (∃ f : Nat → UInt64, Φ1 o = some (ad_ G 1 f)) ∧ ∀ b, (∀ j, md j → b ≠ x + j) → b ≠ o → Φ1 b = Φ b
theorem Fr.at {x o : Nat} {md : Nat → Prop} {Φ Φ1 : Hm} (h : Fr x md Φ Φ1) (hm : ∀ j, md j → j < 149) (ho : ∀ j, j < 149 → o ≠ x + j) : Φ1 o = Φ o := h o (fun j q hj => ho j (hm j hj) q)
theorem Fr.at0 {x o : Nat} {Φ Φ1 : Hm} (h : Fr x (fun _ => False) Φ Φ1) : Φ1 o = Φ o := h o (fun _ _ hj => hj)
theorem updL_at {f : Nat → Int64} {w : Int64} : vp_updL f (0 : Int32).toNatClampNeg w 0 = w := by
  have e : (0 : Int32).toNatClampNeg = 0 := by decide
  rw [e]
  simp [vp_updL]

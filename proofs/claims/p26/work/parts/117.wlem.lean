/-! the law's wrappers: what they leave: the class's shape, the row that takes an answer, all else but what md tells -/
theorem In.out {G : EnvG} {x ca o : Nat} {Φ Φ1 : Hm} {e : va_E} (h : In G x ca Φ) (ho : ∀ j, j < 149 → o ≠ x + j) (h1 : Φ1 = fset Φ o e) : In G x ca Φ1 := by
  intro k
  by_cases hk : k < 149
  · rw [h1, fset_ne (fun q => ho k hk q.symm)]
    exact h k
  · have hkd : kd k = 99 := by
      unfold kd
      rw [List.getD_eq_getElem?_getD, List.getElem?_eq_none (show kdL.length ≤ k from Nat.not_lt.mp hk)]
      rfl
    unfold Ok
    rw [hkd]
    trivial
noncomputable def WpL (G : EnvG) (x ca : Nat) (md : Nat → Prop) (o : Nat) (Φ Φ1 : Hm) : Prop := In G x ca Φ1 ∧ (∃ f : Nat → Int64, Φ1 o = some (al_ G 1 f)) ∧ ∀ b, (∀ j, md j → b ≠ x + j) → b ≠ o → Φ1 b = Φ b
noncomputable def WpD (G : EnvG) (x ca : Nat) (md : Nat → Prop) (o : Nat) (Φ Φ1 : Hm) : Prop := In G x ca Φ1 ∧ (∃ f : Nat → UInt64, Φ1 o = some (ad_ G 1 f)) ∧ ∀ b, (∀ j, md j → b ≠ x + j) → b ≠ o → Φ1 b = Φ b
theorem Fr.at {x o : Nat} {md : Nat → Prop} {Φ Φ1 : Hm} (h : Fr x md Φ Φ1) (hm : ∀ j, md j → j < 149) (ho : ∀ j, j < 149 → o ≠ x + j) : Φ1 o = Φ o := h o (fun j q hj => ho j (hm j hj) q)
theorem Fr.at0 {x o : Nat} {Φ Φ1 : Hm} (h : Fr x (fun _ => False) Φ Φ1) : Φ1 o = Φ o := h o (fun _ _ hj => hj)
theorem updL_at {f : Nat → Int64} {w : Int64} : vp_updL f (0 : Int32).toNatClampNeg w 0 = w := by
  have e : (0 : Int32).toNatClampNeg = 0 := by decide
  rw [e]
  simp [vp_updL]
/-! an answer with a code and a state: refused for one of two reasons (then the state stays), or not -/
noncomputable def AnsZ {α : Type} (C1 C2 : Prop) (S : α → Int32 → Prop) (z z1 : α) (k : Int32) (w : Int64) : Prop := (C1 ∧ C2 ∧ k = 0 ∧ ∃ r : Int32, S z1 r ∧ w = r.toInt64) ∨ (¬ C1 ∧ k = 1 ∧ z1 = z) ∨ (C1 ∧ ¬ C2 ∧ k = 2 ∧ z1 = z)
theorem AnsZ_fun {α : Type} {C1 C2 : Prop} {S : α → Int32 → Prop} {z z1 z2 : α} {k k2 : Int32} {w w2 : Int64} (h : AnsZ C1 C2 S z z1 k w) (h2 : AnsZ C1 C2 S z z2 k2 w2) (hS : ∀ (y1 y2 : α) (r1 r2 : Int32), S y1 r1 → S y2 r2 → y1 = y2 ∧ r1 = r2) : z1 = z2 ∧ k2 = k ∧ (k = 0 → w = w2) := by
  rcases h with ⟨a1, a2, rfl, r, a3, rfl⟩ | ⟨a1, rfl, rfl⟩ | ⟨a1, a2, rfl, rfl⟩ <;> rcases h2 with ⟨b1, b2, rfl, r2, b3, rfl⟩ | ⟨b1, rfl, rfl⟩ | ⟨b1, b2, rfl, rfl⟩
  · obtain ⟨e1, e2⟩ := hS _ _ _ _ a3 b3
    exact ⟨e1, rfl, fun _ => congrArg Int32.toInt64 e2⟩
  · exact absurd a1 b1
  · exact absurd a2 b2
  · exact absurd b1 a1
  · exact ⟨rfl, rfl, fun h => absurd h (by decide)⟩
  · exact absurd b1 a1
  · exact absurd b2 a2
  · exact absurd a1 b1
  · exact ⟨rfl, rfl, fun h => absurd h (by decide)⟩
theorem rq_y {a b d f g : Int32} (h : ¬ RqP (keyF a b d f) g 1) : PkP a b d f g := (Classical.byContradiction (fun q => h (RqP_iff.mpr q)) : PkP a b d f g ∧ 1 ≤ (1 : Int32).toInt ∧ (1 : Int32).toInt ≤ 200).1
theorem rq_n {a b d f g : Int32} (h : RqP (keyF a b d f) g 1) : ¬ PkP a b d f g := fun q => RqP_iff.mp h ⟨q, by decide, by decide⟩
theorem rq_my {a b d f g h : Int32} (q : ¬ RqP (keyF a b d f) g h) : PkP a b d f g ∧ 1 ≤ h.toInt ∧ h.toInt ≤ 200 := Classical.byContradiction (fun q2 => q (RqP_iff.mpr q2))
theorem rq_mn {a b d f g h : Int32} (q : RqP (keyF a b d f) g h) : ¬ (PkP a b d f g ∧ 1 ≤ h.toInt ∧ h.toInt ≤ 200) := RqP_iff.mp q
theorem k01 {k : Nat} (h : k ≤ 1) : nI k = 0 ∨ nI k = 1 := by
  rcases (show k = 0 ∨ k = 1 by omega) with rfl | rfl
  · exact Or.inl rfl
  · exact Or.inr rfl
theorem XC_fl0 {G : EnvG} {x : Nat} {z : XZ} {o : Nat} {e : va_E} {Φ Φ1 : Hm} (h : XC G x z Φ) (ho : ∀ j, j < 149 → o ≠ x + j) (h1 : Φ1 = fset Φ o e) : XC G x z Φ1 := h.eq (fun j _ q2 => fset_fr h1 (fun q => ho j (by omega) q.symm))
theorem SQ_fl0 {G : EnvG} {x : Nat} {c : Cf} {sn : SN} {q : QN} {o : Nat} {e : va_E} {Φ Φ1 : Hm} (h : SQ G x c sn q Φ) (ho : ∀ j, j < 149 → o ≠ x + j) (h1 : Φ1 = fset Φ o e) : SQ G x c sn q Φ1 := h.eq (fun j _ q2 => fset_fr h1 (fun q => ho j (by omega) q.symm))
theorem SQ.cn {G : EnvG} {x : Nat} {c : Cf} {a b : Int32} {sn : SN} {q : QN} {Φ : Hm} (hF : ¬ InF a) (h : SQ G x c sn q Φ) : SQ G x (suW c a b) (sn.1, sn.2) q Φ := by
  rw [suW_n hF]
  exact h

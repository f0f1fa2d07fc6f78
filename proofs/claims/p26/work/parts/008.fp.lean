/-! doubles that are no NaN: by the datum -/
noncomputable def nD (d : Jvm.FP.Core.Datum) : Prop := d ≠ .nan
noncomputable def pD : Jvm.FP.Core.Datum → Prop
  | .nan => False
  | .inf s => s = false
  | .fin s c _ => s = false ∨ c = 0
/-- a number whose last digit stands at most at K -/
noncomputable def sD (K : Int) : Jvm.FP.Core.Datum → Prop
  | .fin _ c q => c < 2 ^ 53 ∧ q ≤ K
  | _ => False
noncomputable def nn64 (u : UInt64) : Prop := nD (Jvm.FP.Core.val64 u)
noncomputable def pd64 (u : UInt64) : Prop := pD (Jvm.FP.Core.val64 u)
noncomputable def sm64 (K : Int) (u : UInt64) : Prop := sD K (Jvm.FP.Core.val64 u)
theorem pD.nn {d : Jvm.FP.Core.Datum} (h : pD d) : nD d := by
  intro e
  subst e
  exact h
theorem sD.nn {K : Int} {d : Jvm.FP.Core.Datum} (h : sD K d) : nD d := by
  intro e
  subst e
  exact h
theorem vf_of {u : UInt64} (h : nn64 u) : vf_n64 u := by
  unfold vf_n64
  by_cases hc : u &&& 0x7fffffffffffffff ≤ 0x7ff0000000000000
  · exact hc
  · exfalso
    apply h
    have h1 : (u &&& 0x7fffffffffffffff).toNat = u.toNat % 2 ^ 63 := by
      rw [UInt64.toNat_and]
      exact Nat.and_two_pow_sub_one_eq_mod u.toNat 63
    have h2 : 0x7ff0000000000000 < u.toNat % 2 ^ 63 := by
      rw [UInt64.le_iff_toNat_le, h1] at hc
      have h3 : (0x7ff0000000000000 : UInt64).toNat = 0x7ff0000000000000 := by decide
      omega
    have hu := u.toNat_lt
    unfold Jvm.FP.Core.val64 Jvm.FP.Core.decode
    have e1 : Jvm.FP.Core.fieldE Jvm.FP.Core.b64 u.toNat = u.toNat / 4503599627370496 % 2048 := rfl
    have e2 : Jvm.FP.Core.fieldT Jvm.FP.Core.b64 u.toNat = u.toNat % 4503599627370496 := rfl
    have e3 : Jvm.FP.Core.b64.exps - 1 = 2047 := by decide
    rw [e1, e2, e3, if_pos (by omega), if_neg (by omega)]
theorem roundRatio_nD {f : Jvm.FP.Core.Fmt} {s : Bool} {a b : Nat} {e : Int} : nD (Jvm.FP.Core.roundRatio f s a b e) := by
  unfold Jvm.FP.Core.roundRatio
  split
  · intro h
    cases h
  · unfold Jvm.FP.Core.roundAt Jvm.FP.Core.settle Jvm.FP.Core.bound
    split <;> split <;> intro h <;> cases h
theorem roundRatio_pD {f : Jvm.FP.Core.Fmt} {s : Bool} {a b : Nat} {e : Int} (h : s = false ∨ a = 0) : pD (Jvm.FP.Core.roundRatio f s a b e) := by
  unfold Jvm.FP.Core.roundRatio
  split
  · exact Or.inr rfl
  · rename_i ha
    have hs : s = false := h.resolve_right ha
    subst hs
    unfold Jvm.FP.Core.roundAt Jvm.FP.Core.settle Jvm.FP.Core.bound
    split <;> split
    · exact Or.inl rfl
    · exact rfl
    · exact Or.inl rfl
    · exact rfl
theorem round_nD {f : Jvm.FP.Core.Fmt} {d : Jvm.FP.Core.Datum} (h : nD d) : nD (Jvm.FP.Core.round f d) := by
  cases d with
  | nan => exact absurd rfl h
  | inf s => intro e; cases e
  | fin s c q => exact roundRatio_nD
theorem round_pD {f : Jvm.FP.Core.Fmt} {d : Jvm.FP.Core.Datum} (h : pD d) : pD (Jvm.FP.Core.round f d) := by
  cases d with
  | nan => exact h
  | inf s => exact h
  | fin s c q => exact roundRatio_pD h
theorem signed_pos {s : Bool} {c k : Nat} (h : s = false ∨ c = 0) : 0 ≤ Jvm.FP.Core.signed s (c * k) := by
  rcases h with h | h
  · subst h
    show (0 : Int) ≤ ((c * k : Nat) : Int)
    omega
  · subst h
    rw [Nat.zero_mul, Jvm.FP.Core.signed_zero]
    exact Int.le_refl 0
theorem sum_pD {a b : Jvm.FP.Core.Datum} (ha : pD a) (hb : pD b) : pD (Jvm.FP.Core.exactSum a b) := by
  cases a with
  | nan => exact ha.elim
  | inf s =>
    have hs : s = false := ha
    subst hs
    cases b with
    | nan => exact hb.elim
    | inf t =>
      have ht : t = false := hb
      subst ht
      exact rfl
    | fin t d r => exact rfl
  | fin s c q =>
    cases b with
    | nan => exact hb.elim
    | inf t => exact hb
    | fin t d r =>
      show Jvm.FP.Core.sumSign s t (Jvm.FP.Core.sumUnits s c q t d r (min q r)) = false ∨ (Jvm.FP.Core.sumUnits s c q t d r (min q r)).natAbs = 0
      have h1 : 0 ≤ Jvm.FP.Core.sumUnits s c q t d r (min q r) := by
        unfold Jvm.FP.Core.sumUnits Jvm.FP.Core.inUnits
        exact Int.add_nonneg (signed_pos ha) (signed_pos hb)
      by_cases h2 : Jvm.FP.Core.sumUnits s c q t d r (min q r) = 0
      · right
        rw [h2]
        rfl
      · left
        unfold Jvm.FP.Core.sumSign
        rw [if_neg h2]
        exact decide_eq_false (by omega)
theorem pd_add {x y : UInt64} (hx : pd64 x) (hy : pd64 y) : pd64 (Jvm.FP.Core.dadd x y) := by
  unfold pd64
  rw [Jvm.FP.Core.val64_dadd]
  exact round_pD (sum_pD hx hy)
theorem round_sD {s : Bool} {c : Nat} {q : Int} {N : Nat} {K : Int} (hc : c < 2 ^ (N + 1)) (hq : q ≤ K) (hN : (N : Int) + K ≤ 1000) (h0 : -1073 ≤ (N : Int) + K - 51) : sD ((N : Int) + K - 51) (Jvm.FP.Core.round Jvm.FP.Core.b64 (.fin s c q)) := by
  have hf := Jvm.FP.Core.round_fits Jvm.FP.Core.good_b64 (.fin s c q)
  have hr : Jvm.FP.Core.round Jvm.FP.Core.b64 (.fin s c q) = Jvm.FP.Core.roundRatio Jvm.FP.Core.b64 s c 1 q := rfl
  rw [hr] at hf ⊢
  have e1 : Jvm.FP.Core.b64.qmin = -1074 := by decide
  have e2 : Jvm.FP.Core.b64.qmax = 971 := by decide
  have e3 : (Jvm.FP.Core.b64.p : Int) = 53 := by decide
  unfold Jvm.FP.Core.roundRatio at hf ⊢
  by_cases h : c = 0
  · rw [if_pos h] at hf ⊢
    refine ⟨by decide, ?_⟩
    rw [e1]
    omega
  · rw [if_neg h] at hf ⊢
    have hl : Jvm.FP.Core.leading c 1 ≤ N := by
      unfold Jvm.FP.Core.leading
      have h2 : c.log2 < N + 1 := (Nat.log2_lt h).mpr hc
      have h3 : (1 : Nat).log2 = 0 := by decide
      simp only [h3]
      split <;> omega
    have hk : Jvm.FP.Core.quantum Jvm.FP.Core.b64 c 1 q ≤ (N : Int) + K - 52 ∨ Jvm.FP.Core.quantum Jvm.FP.Core.b64 c 1 q = -1074 := by
      unfold Jvm.FP.Core.quantum
      rw [e1, e3]
      omega
    unfold Jvm.FP.Core.roundAt Jvm.FP.Core.settle Jvm.FP.Core.bound at hf ⊢
    split at hf
    · rename_i g1
      rw [if_pos g1]
      split at hf
      · rename_i g2
        rw [if_pos g2]
        exact ⟨hf.1, by omega⟩
      · rename_i g2
        exfalso
        rw [e2] at g2
        omega
    · rename_i g1
      rw [if_neg g1]
      split at hf
      · rename_i g2
        rw [if_pos g2]
        exact ⟨hf.1, by omega⟩
      · rename_i g2
        exfalso
        rw [e2] at g2
        omega
theorem l2d_sm (x : Int64) : sm64 12 (Jvm.FP.Core.l2d x) := by
  unfold sm64
  rw [Jvm.FP.Core.val64_l2d]
  have h : x.toInt.natAbs < 2 ^ (63 + 1) := by
    have h1 := x.toInt_lt
    have h2 := x.le_toInt
    omega
  exact round_sD (N := 63) (K := 0) h (Int.le_refl 0) (by decide) (by decide)
theorem i2d_sm (x : Int32) : sm64 12 (Jvm.FP.Core.i2d x) := by
  unfold sm64
  rw [Jvm.FP.Core.val64_i2d]
  have h : x.toInt.natAbs < 2 ^ (63 + 1) := by
    have h1 := x.toInt_lt
    have h2 := x.le_toInt
    omega
  exact round_sD (N := 63) (K := 0) h (Int.le_refl 0) (by decide) (by decide)
theorem mul_sm {a b : Int} {x y : UInt64} (hx : sm64 a x) (hy : sm64 b y) (h1 : a + b ≤ 500) (h2 : 0 ≤ a + b) : sm64 (a + b + 54) (Jvm.FP.Core.dmul x y) := by
  unfold sm64 at hx hy ⊢
  rw [Jvm.FP.Core.val64_dmul]
  generalize Jvm.FP.Core.val64 x = d at hx
  generalize Jvm.FP.Core.val64 y = e at hy
  cases d with
  | nan => exact hx.elim
  | inf s => exact hx.elim
  | fin s c q =>
    cases e with
    | nan => exact hy.elim
    | inf t => exact hy.elim
    | fin t c2 r =>
      have hc : c * c2 < 2 ^ (105 + 1) := by
        have := Nat.mul_lt_mul'' hx.1 hy.1
        calc c * c2 < 2 ^ 53 * 2 ^ 53 := this
          _ = 2 ^ (105 + 1) := by decide
      have h := round_sD (s := s != t) (N := 105) (K := a + b) (q := q + r) hc (by have := hx.2; have := hy.2; omega) (by omega) (by omega)
      have e9 : ((105 : Nat) : Int) + (a + b) - 51 = a + b + 54 := by omega
      rw [e9] at h
      exact h
theorem sm_nn {a : Int} {x : UInt64} (h : sm64 a x) : nn64 x := sD.nn h
theorem pd_nn {x : UInt64} (h : pd64 x) : nn64 x := pD.nn h
/-- a finite number, and any number: their sum and their difference are numbers -/
theorem add_nn {a : Int} {x y : UInt64} (hx : sm64 a x) (hy : nn64 y) : nn64 (Jvm.FP.Core.dadd x y) := by
  unfold sm64 at hx
  unfold nn64 at hy ⊢
  rw [Jvm.FP.Core.val64_dadd]
  apply round_nD
  generalize Jvm.FP.Core.val64 x = d at hx
  generalize Jvm.FP.Core.val64 y = e at hy
  cases d with
  | nan => exact hx.elim
  | inf s => exact hx.elim
  | fin s c q =>
    cases e with
    | nan => exact absurd rfl hy
    | inf t => intro h; cases h
    | fin t c2 r => intro h; cases h
theorem sub_nn {a : Int} {x y : UInt64} (hx : sm64 a x) (hy : nn64 y) : nn64 (Jvm.FP.Core.dsub x y) := by
  unfold sm64 at hx
  unfold nn64 at hy ⊢
  rw [Jvm.FP.Core.val64_dsub]
  apply round_nD
  generalize Jvm.FP.Core.val64 x = d at hx
  generalize Jvm.FP.Core.val64 y = e at hy
  cases d with
  | nan => exact hx.elim
  | inf s => exact hx.elim
  | fin s c q =>
    cases e with
    | nan => exact absurd rfl hy
    | inf t => intro h; cases h
    | fin t c2 r => intro h; cases h
/-- times and by a written number that is neither 0 nor infinite -/
noncomputable def wD : Jvm.FP.Core.Datum → Prop
  | .fin _ c _ => c ≠ 0
  | _ => False
theorem mul_nnw {x y : UInt64} (hx : nn64 x) (hy : wD (Jvm.FP.Core.val64 y)) : nn64 (Jvm.FP.Core.dmul x y) := by
  unfold nn64 at hx ⊢
  rw [Jvm.FP.Core.val64_dmul]
  apply round_nD
  generalize Jvm.FP.Core.val64 x = d at hx
  generalize Jvm.FP.Core.val64 y = e at hy
  cases e with
  | nan => exact hy.elim
  | inf t => exact hy.elim
  | fin t c2 r =>
    have h0 : c2 ≠ 0 := hy
    cases d with
    | nan => exact absurd rfl hx
    | inf s =>
      intro h
      simp [Jvm.FP.Core.exactProduct, h0] at h
    | fin s c q => intro h; cases h
theorem mul_wnn {x y : UInt64} (hx : wD (Jvm.FP.Core.val64 x)) (hy : nn64 y) : nn64 (Jvm.FP.Core.dmul x y) := by rw [Jvm.FP.Core.dmul_comm]; exact mul_nnw hy hx
theorem div_nnw {x y : UInt64} (hx : nn64 x) (hy : wD (Jvm.FP.Core.val64 y)) : nn64 (Jvm.FP.Core.ddiv x y) := by
  unfold nn64 at hx ⊢
  rw [Jvm.FP.Core.val64_ddiv]
  generalize Jvm.FP.Core.val64 x = d at hx
  generalize Jvm.FP.Core.val64 y = e at hy
  cases e with
  | nan => exact hy.elim
  | inf t => exact hy.elim
  | fin t c2 r =>
    have h0 : c2 ≠ 0 := hy
    cases d with
    | nan => exact absurd rfl hx
    | inf s => intro h; cases h
    | fin s c q =>
      show nD (if c2 = 0 then _ else _)
      rw [if_neg h0]
      exact roundRatio_nD
theorem pd_zero : pd64 FP.dconst0 := by
  show pD (Jvm.FP.Core.val64 0)
  have h : Jvm.FP.Core.val64 0 = .fin false 0 (-1074) := by decide
  rw [h]
  exact Or.inl rfl
theorem sm_zero : sm64 12 FP.dconst0 := by
  show sD 12 (Jvm.FP.Core.val64 0)
  have h : Jvm.FP.Core.val64 0 = .fin false 0 (-1074) := by decide
  rw [h]
  exact ⟨by decide, by decide⟩
theorem w_of {u : UInt64} {s : Bool} {c : Nat} {q : Int} (h : Jvm.FP.Core.val64 u = .fin s c q) (hc : c ≠ 0) : wD (Jvm.FP.Core.val64 u) := by
  rw [h]
  exact hc
theorem w_nn {x : UInt64} (h : wD (Jvm.FP.Core.val64 x)) : nn64 x := by
  intro e
  rw [e] at h
  exact h
theorem l2d_pd {x : Int64} (h : 0 ≤ x) : pd64 (Jvm.FP.Core.l2d x) := by
  unfold pd64
  rw [Jvm.FP.Core.val64_l2d]
  apply round_pD
  left
  rw [Int64.le_iff_toInt_le] at h
  have h0 : (0 : Int64).toInt = 0 := by decide
  exact decide_eq_false (by omega)
theorem i2d_pd {n : Nat} (h : n < 2 ^ 31) : pd64 (Jvm.FP.Core.i2d (nI n)) := by
  unfold pd64
  rw [Jvm.FP.Core.val64_i2d]
  apply round_pD
  left
  exact decide_eq_false (by rw [nI_toInt h]; omega)
theorem mul_pd {a b : Int} {x y : UInt64} (hx : sm64 a x) (hy : sm64 b y) (px : pd64 x) (py : pd64 y) : pd64 (Jvm.FP.Core.dmul x y) := by
  unfold sm64 at hx hy
  unfold pd64 at px py ⊢
  rw [Jvm.FP.Core.val64_dmul]
  apply round_pD
  generalize Jvm.FP.Core.val64 x = d at hx px
  generalize Jvm.FP.Core.val64 y = e at hy py
  cases d with
  | nan => exact hx.elim
  | inf s => exact hx.elim
  | fin s c q =>
    cases e with
    | nan => exact hy.elim
    | inf t => exact hy.elim
    | fin t c2 r =>
      show (s != t) = false ∨ c * c2 = 0
      rcases px with rfl | rfl
      · rcases py with rfl | rfl
        · exact Or.inl rfl
        · exact Or.inr (Nat.mul_zero _)
      · exact Or.inr (Nat.zero_mul _)
theorem fac_pd {n : Nat} (h : n < 2 ^ 31) : pd64 (Jvm.FP.Core.dmul (Jvm.FP.Core.i2d (nI n)) (Jvm.FP.Core.i2d (nI n - 1))) := by
  rcases n with _ | n
  · unfold pd64
    rw [Jvm.FP.Core.val64_dmul]
    apply round_pD
    have h1 : Jvm.FP.Core.val64 (Jvm.FP.Core.i2d (nI 0)) = .fin false 0 (-1074) := by decide
    have h2 : Jvm.FP.Core.val64 (Jvm.FP.Core.i2d (nI 0 - 1)) = .fin true 4503599627370496 (-52) := by decide +kernel
    rw [h1, h2]
    exact Or.inr rfl
  · have e : nI (n + 1) - 1 = nI n := nI_pred n
    rw [e]
    exact mul_pd (i2d_sm _) (i2d_sm _) (i2d_pd h) (i2d_pd (by omega))
/-- what a rounded number keeps -/
theorem round_sign {f : Jvm.FP.Core.Fmt} {s : Bool} {c : Nat} {q : Int} : (∃ c2 q2, Jvm.FP.Core.round f (.fin s c q) = .fin s c2 q2 ∧ (c = 0 → c2 = 0)) ∨ (Jvm.FP.Core.round f (.fin s c q) = .inf s ∧ c ≠ 0) := by
  have hr : Jvm.FP.Core.round f (.fin s c q) = Jvm.FP.Core.roundRatio f s c 1 q := rfl
  rw [hr]
  unfold Jvm.FP.Core.roundRatio
  by_cases h : c = 0
  · rw [if_pos h]
    exact Or.inl ⟨0, _, rfl, fun _ => rfl⟩
  · rw [if_neg h]
    unfold Jvm.FP.Core.roundAt Jvm.FP.Core.settle Jvm.FP.Core.bound
    split <;> split
    · exact Or.inl ⟨_, _, rfl, fun z => absurd z h⟩
    · exact Or.inr ⟨rfl, h⟩
    · exact Or.inl ⟨_, _, rfl, fun z => absurd z h⟩
    · exact Or.inr ⟨rfl, h⟩
theorem sq_pd {a : Int} {x : UInt64} (hx : sm64 a x) (px : pd64 x) (b : Int64) : pd64 (Jvm.FP.Core.dmul (Jvm.FP.Core.dmul x (Jvm.FP.Core.l2d b)) (Jvm.FP.Core.l2d b)) := by
  have hy := l2d_sm b
  unfold sm64 at hx hy
  unfold pd64 at px ⊢
  rw [Jvm.FP.Core.val64_dmul, Jvm.FP.Core.val64_dmul]
  apply round_pD
  generalize Jvm.FP.Core.val64 x = d at hx px
  generalize Jvm.FP.Core.val64 (Jvm.FP.Core.l2d b) = e at hy
  cases d with
  | nan => exact hx.elim
  | inf s => exact hx.elim
  | fin s c q =>
    cases e with
    | nan => exact hy.elim
    | inf t => exact hy.elim
    | fin t c2 r =>
      have e1 : Jvm.FP.Core.exactProduct (.fin s c q) (.fin t c2 r) = .fin (s != t) (c * c2) (q + r) := rfl
      rw [e1]
      rcases round_sign (f := Jvm.FP.Core.b64) (s := s != t) (c := c * c2) (q := q + r) with ⟨c3, q3, h, hz⟩ | ⟨h, hz⟩
      · rw [h]
        show ((s != t) != t) = false ∨ c3 * c2 = 0
        rcases px with rfl | rfl
        · left
          cases t <;> rfl
        · right
          rw [hz (Nat.zero_mul _), Nat.zero_mul]
      · rw [h]
        have hc : c ≠ 0 := fun z => hz (by rw [z, Nat.zero_mul])
        have hc2 : c2 ≠ 0 := fun z => hz (by rw [z, Nat.mul_zero])
        have hs : s = false := px.resolve_right hc
        subst hs
        show pD (if c2 = 0 then _ else _)
        rw [if_neg hc2]
        show ((false != t) != t) = false
        cases t <;> rfl
theorem l2d_w {p : Int64} (h : ¬ p = 0) : wD (Jvm.FP.Core.val64 (Jvm.FP.Core.l2d p)) := by
  obtain ⟨c, q, e⟩ := Jvm.FP.Core.l2d_shape p
  have h1 := Jvm.FP.Core.l2d_ne_zero (v := p) h
  rw [e]
  intro hc
  apply h1
  have h2 : Jvm.FP.Core.of64 (Jvm.FP.Core.val64 (Jvm.FP.Core.l2d p)) = Jvm.FP.Core.l2d p := Jvm.FP.Core.of64_val64 (by rw [e]; intro z; cases z)
  rw [← h2, e, hc]
  generalize decide (p.toInt < 0) = s
  have h3 : Jvm.FP.Core.encode Jvm.FP.Core.b64 (.fin s 0 q) = Jvm.FP.Core.assemble Jvm.FP.Core.b64 s 0 0 := by rw [Jvm.FP.Core.encode, if_pos (Jvm.FP.Core.tails_pos _)]
  unfold Jvm.FP.Core.of64
  rw [h3]
  cases s <;> decide +kernel
theorem div_pd {a : Int} {x : UInt64} (hx : sm64 a x) (px : pd64 x) {p : Int64} (h0 : 0 ≤ p) (hp : ¬ p = 0) : pd64 (Jvm.FP.Core.ddiv x (Jvm.FP.Core.l2d p)) := by
  have hw := l2d_w hp
  obtain ⟨c2, r, e2⟩ := Jvm.FP.Core.l2d_shape p
  have hs : decide (p.toInt < 0) = false := by
    rw [Int64.le_iff_toInt_le] at h0
    have h9 : (0 : Int64).toInt = 0 := by decide
    exact decide_eq_false (by omega)
  rw [hs] at e2
  rw [e2] at hw
  have hc2 : c2 ≠ 0 := hw
  unfold sm64 at hx
  unfold pd64 at px ⊢
  rw [Jvm.FP.Core.val64_ddiv, e2]
  generalize Jvm.FP.Core.val64 x = d at hx px
  cases d with
  | nan => exact hx.elim
  | inf s => exact hx.elim
  | fin s c q =>
    show pD (if c2 = 0 then _ else _)
    rw [if_neg hc2]
    apply roundRatio_pD
    rcases px with rfl | rfl
    · exact Or.inl rfl
    · exact Or.inr rfl
theorem pd_upd {f : Nat → UInt64} {i : Nat} {v : UInt64} (r : ∀ j, pd64 (f j)) (h : pd64 v) : ∀ j, pd64 (vf_upd f i v j) := by
  intro j
  unfold vf_upd
  split
  · exact h
  · exact r j
/-! floats -/
noncomputable def nn32 (u : UInt32) : Prop := nD (Jvm.FP.Core.val32 u)
theorem vf32_of {u : UInt32} (h : nn32 u) : vf_n32 u := by
  unfold vf_n32
  by_cases hc : u &&& 0x7fffffff ≤ 0x7f800000
  · exact hc
  · exfalso
    apply h
    have h1 : (u &&& 0x7fffffff).toNat = u.toNat % 2 ^ 31 := by
      rw [UInt32.toNat_and]
      exact Nat.and_two_pow_sub_one_eq_mod u.toNat 31
    have h2 : 0x7f800000 < u.toNat % 2 ^ 31 := by
      rw [UInt32.le_iff_toNat_le, h1] at hc
      have h3 : (0x7f800000 : UInt32).toNat = 0x7f800000 := by decide
      omega
    have hu := u.toNat_lt
    unfold Jvm.FP.Core.val32 Jvm.FP.Core.decode
    have e1 : Jvm.FP.Core.fieldE Jvm.FP.Core.b32 u.toNat = u.toNat / 8388608 % 256 := rfl
    have e2 : Jvm.FP.Core.fieldT Jvm.FP.Core.b32 u.toNat = u.toNat % 8388608 := rfl
    have e3 : Jvm.FP.Core.b32.exps - 1 = 255 := by decide
    rw [e1, e2, e3, if_pos (by omega), if_neg (by omega)]
theorem or_ne (a : Int32) : ¬ (a ||| 8388608) = 0 := by
  intro h
  have h2 := congrArg (fun z : Int32 => z.toBitVec.getLsbD 23) h
  simp at h2
theorem i2f_w {a : Int32} (h : ¬ a = 0) : wD (Jvm.FP.Core.val32 (Jvm.FP.Core.i2f a)) := by
  have h1 := Jvm.FP.Core.i2f_ne_zero (v := a) h
  have hs : ∃ s c q, Jvm.FP.Core.val32 (Jvm.FP.Core.i2f a) = .fin s c q := by
    exact Jvm.FP.Core.i2f_fin a
  obtain ⟨s, c, q, e⟩ := hs
  rw [e]
  intro hc
  apply h1
  have h2 : Jvm.FP.Core.of32 (Jvm.FP.Core.val32 (Jvm.FP.Core.i2f a)) = Jvm.FP.Core.i2f a := Jvm.FP.Core.of32_val32 (by rw [e]; intro z; cases z)
  rw [← h2, e, hc]
  have h3 : Jvm.FP.Core.encode Jvm.FP.Core.b32 (.fin s 0 q) = Jvm.FP.Core.assemble Jvm.FP.Core.b32 s 0 0 := by rw [Jvm.FP.Core.encode, if_pos (Jvm.FP.Core.tails_pos _)]
  unfold Jvm.FP.Core.of32
  rw [h3]
  cases s <;> decide +kernel
theorem quo_nnw {d e : Jvm.FP.Core.Datum} {f : Jvm.FP.Core.Fmt} (hd : wD d) (he : nD e) : nD (Jvm.FP.Core.quotient f d e) := by
  cases d with
  | nan => exact hd.elim
  | inf s => exact hd.elim
  | fin s c q =>
    have hc : c ≠ 0 := hd
    cases e with
    | nan => exact absurd rfl he
    | inf t => intro h; cases h
    | fin t c2 r =>
      show nD (if c2 = 0 then (if c = 0 then _ else _) else _)
      split
      · intro h
        cases h
      · exact roundRatio_nD
theorem round_ofInt_nD {f : Jvm.FP.Core.Fmt} {i : Int} : nD (Jvm.FP.Core.round f (Jvm.FP.Core.ofInt i)) := roundRatio_nD
theorem fdiv1 (a : Int32) (b : Int64) : nn32 (Jvm.FP.Core.fdiv (Jvm.FP.Core.i2f (a ||| 8388608)) (Jvm.FP.Core.l2f b)) := by
  unfold nn32
  rw [Jvm.FP.Core.val32_fdiv]
  refine quo_nnw (i2f_w (or_ne a)) ?_
  rw [Jvm.FP.Core.val32_l2f]
  exact round_ofInt_nD
theorem val_one : Jvm.FP.Core.val32 FP.fconst1 = .fin false 8388608 (-23) := by decide +kernel
theorem val_half : Jvm.FP.Core.val32 1056964608 = .fin false 8388608 (-24) := by decide +kernel
theorem inv_nn {u : UInt32} (h : nn32 u) : nn32 (Jvm.FP.Core.fdiv FP.fconst1 u) := by
  unfold nn32
  rw [Jvm.FP.Core.val32_fdiv]
  exact quo_nnw (by rw [val_one]; exact (show (8388608 : Nat) ≠ 0 by decide)) h
theorem inv_add_nn {u : UInt32} (h : nn32 u) : nn32 (Jvm.FP.Core.fadd (Jvm.FP.Core.fdiv FP.fconst1 u) 1056964608) := by
  have h1 := inv_nn h
  unfold nn32 at h1 ⊢
  rw [Jvm.FP.Core.val32_fadd, val_half]
  apply round_nD
  generalize Jvm.FP.Core.val32 (Jvm.FP.Core.fdiv FP.fconst1 u) = d at h1
  cases d with
  | nan => exact absurd rfl h1
  | inf s => intro z; cases z
  | fin s c q => intro z; cases z
theorem toI_nn {d : Jvm.FP.Core.Datum} (h : pD d) : ∃ n : Nat, n < 2 ^ 31 ∧ Jvm.FP.Core.toI d = nI n := by
  have h1 : 0 ≤ Jvm.FP.Core.toInt (-2 ^ 31) (2 ^ 31 - 1) d ∧ Jvm.FP.Core.toInt (-2 ^ 31) (2 ^ 31 - 1) d ≤ 2 ^ 31 - 1 := by
    cases d with
    | nan => exact h.elim
    | inf s =>
      have hs : s = false := h
      subst hs
      constructor <;> decide
    | fin s c q =>
      have h2 : 0 ≤ Jvm.FP.Core.truncate s c q := by
        unfold Jvm.FP.Core.truncate
        rcases h with rfl | rfl
        · exact Int.natCast_nonneg _
        · rw [Nat.zero_mul, Nat.zero_div, Jvm.FP.Core.signed_zero]
          exact Int.le_refl 0
      have e : Jvm.FP.Core.toInt (-2 ^ 31) (2 ^ 31 - 1) (.fin s c q) = max (-2 ^ 31) (min (2 ^ 31 - 1) (Jvm.FP.Core.truncate s c q)) := rfl
      rw [e]
      omega
  unfold Jvm.FP.Core.toI
  generalize Jvm.FP.Core.toInt (-2 ^ 31) (2 ^ 31 - 1) d = z at h1
  refine ⟨z.toNat, by omega, ?_⟩
  have e2 : z = ((z.toNat : Nat) : Int) := by omega
  rw [e2]
  rfl
theorem order_gt {d : Jvm.FP.Core.Datum} {q : Int} (h : Jvm.FP.Core.order d (.fin false 0 q) = some .gt) : (d = .inf false) ∨ ∃ c r, d = .fin false c r ∧ c ≠ 0 := by
  cases d with
  | nan => cases h
  | inf s =>
    cases s
    · exact Or.inl rfl
    · have h4 : compare (Jvm.FP.Core.signed true 1) 0 = Ordering.gt := Option.some.inj h
      exact absurd h4 (by decide)
  | fin s c r =>
    right
    have h1 : compare (Jvm.FP.Core.signed s (Jvm.FP.Core.inUnits c r (min r q))) (Jvm.FP.Core.signed false (Jvm.FP.Core.inUnits 0 q (min r q))) = .gt := Option.some.inj h
    have h2 : Jvm.FP.Core.signed false (Jvm.FP.Core.inUnits 0 q (min r q)) = 0 := by
      unfold Jvm.FP.Core.inUnits
      rw [Nat.zero_mul]
      rfl
    rw [h2] at h1
    have h3 : 0 < Jvm.FP.Core.signed s (Jvm.FP.Core.inUnits c r (min r q)) := by
      rw [Int.compare_eq_gt] at h1
      exact h1
    unfold Jvm.FP.Core.inUnits at h3
    cases s with
    | false =>
      refine ⟨c, r, rfl, ?_⟩
      intro hc
      subst hc
      rw [Nat.zero_mul] at h3
      exact absurd h3 (by decide)
    | true =>
      exfalso
      have : Jvm.FP.Core.signed true (c * 2 ^ (r - min r q).toNat) = -((c * 2 ^ (r - min r q).toNat : Nat) : Int) := rfl
      rw [this] at h3
      omega
theorem f2i_nat {u : UInt32} (h : ¬ Op.cmpValue (FP.fcmp u FP.fconst0) .l ≤ 0) : ∃ n : Nat, n < 2 ^ 31 ∧ FP.f2i (FP.fadd (FP.fdiv FP.fconst1 u) 1056964608) = nI n := by
  have h0 : FP.fcmp u FP.fconst0 = some .gt := by
    generalize FP.fcmp u FP.fconst0 = o at h
    rcases o with _ | o
    · exact absurd (by decide) h
    · cases o
      · exact absurd (by decide) h
      · exact absurd (by decide) h
      · rfl
  have h1 : Jvm.FP.Core.order (Jvm.FP.Core.val32 u) (.fin false 0 (-149)) = some .gt := by
    have e : Jvm.FP.Core.val32 FP.fconst0 = .fin false 0 (-149) := by decide +kernel
    rw [← e]
    exact h0
  have h2 : pD (Jvm.FP.Core.val32 (Jvm.FP.Core.fdiv FP.fconst1 u)) := by
    rw [Jvm.FP.Core.val32_fdiv, val_one]
    rcases order_gt h1 with e | ⟨c, r, e, hc⟩
    · rw [e]
      exact Or.inl rfl
    · rw [e]
      show pD (if c = 0 then _ else _)
      rw [if_neg hc]
      exact roundRatio_pD (Or.inl rfl)
  have h3 : pD (Jvm.FP.Core.val32 (Jvm.FP.Core.fadd (Jvm.FP.Core.fdiv FP.fconst1 u) 1056964608)) := by
    rw [Jvm.FP.Core.val32_fadd, val_half]
    exact round_pD (sum_pD h2 (Or.inl rfl))
  exact toI_nn h3

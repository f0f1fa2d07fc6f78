/-! the shape of the object at x, cell by cell: what each cell may hold, whatever was called -/
noncomputable def kdL : List Nat := [0, 1, 2, 3, 4, 5, 6, 7, 8, 9, 8, 9, 8, 9, 8, 9, 8, 9, 8, 9, 8, 9, 8, 9, 10, 3, 4, 5, 6, 7, 8, 9, 8, 9, 8, 9, 8, 9, 8, 9, 8, 9, 8, 9, 8, 9, 11, 12, 1, 2, 1, 2, 1, 2, 1, 2, 1, 2, 1, 2, 1, 2, 1, 2, 1, 2, 1, 2, 1, 2, 1, 2, 1, 2, 13, 1, 2, 14, 15, 15, 16, 17, 18, 19, 19, 19, 19, 19, 19, 19, 19, 19, 19, 19, 19, 17, 18, 19, 19, 19, 19, 19, 19, 19, 19, 19, 19, 19, 19, 19, 19, 19, 19, 19, 19, 19, 19, 19, 19, 19, 19, 20, 21, 22, 21, 21, 22, 21, 21, 23, 24, 24, 25, 26, 15, 8, 9, 27, 27, 28, 29, 8, 9, 8, 9, 8, 9, 8, 9]
noncomputable def kd (k : Nat) : Nat := kdL.getD k 99
noncomputable def cap (k : Nat) : Nat := if k = 1 then 700 else if k = 75 then 348 else 600
theorem cap_le (k : Nat) : cap k ≤ 700 := by
  unfold cap
  split
  · omega
  · split <;> omega
noncomputable def fcap (k : Nat) : Nat := if k = 81 then 12 else 24
theorem fcap_le (k : Nat) : fcap k ≤ 24 := by
  unfold fcap
  split <;> omega
theorem fcap_pos (k : Nat) : 12 ≤ fcap k := by
  unfold fcap
  split <;> omega
abbrev Kx0 (G : EnvG) (x ca k : Nat) (e : Option va_E) : Prop := e = some (o_ 13 [.ref (x + 1), .ref (x + 3), .ref (x + 24), .ref (x + 46), .ref (x + 74), .ref (x + 80), .ref (x + 132), .ref (x + 121)])
abbrev Kx1 (G : EnvG) (x ca k : Nat) (e : Option va_E) : Prop := ∃ n : Nat, e = some (o_ 7 [.ref (x + (k + 1)), .int (nI n)]) ∧ n ≤ cap k
abbrev Kx2 (G : EnvG) (x ca k : Nat) (e : Option va_E) : Prop := ∃ f : Nat → Int32, e = some (ab_ G (cap (k - 1)) f) ∧ ∀ j, fits .byte (.int (f j)) = true
abbrev Kx3 (G : EnvG) (x ca k : Nat) (e : Option va_E) : Prop := ∃ tm sp : Int32, e = some (o_ 3 [.ref (x + (k + 1)), .ref (x + (k + 2)), .ref (x + (k + 3)), .ref (x + (k + 4)), .int tm, .int sp])
abbrev Kx4 (G : EnvG) (x ca k : Nat) (e : Option va_E) : Prop := ∃ f : Nat → Int32, e = some (ai_ G 9 f) ∧ ∀ j, ¬ f j < 0
abbrev Kx5 (G : EnvG) (x ca k : Nat) (e : Option va_E) : Prop := ∃ f : Nat → Int32, e = some (ai_ G 256 f)
abbrev Kx6 (G : EnvG) (x ca k : Nat) (e : Option va_E) : Prop := ∃ f : Nat → Option Nat, e = some (aq_ G 4 4 f) ∧ ∀ j, j < 4 → f j = some (x + (k + 2 + 4 * j))
abbrev Kx7 (G : EnvG) (x ca k : Nat) (e : Option va_E) : Prop := ∃ f : Nat → Option Nat, e = some (aq_ G 4 4 f) ∧ ∀ j, j < 4 → f j = some (x + (k + 3 + 4 * j))
abbrev Kx8 (G : EnvG) (x ca k : Nat) (e : Option va_E) : Prop := ∃ (n : Nat) (se rb : Int32), e = some (o_ 12 [.ref (x + (k + 1)), .int (nI n), .int se, .int rb]) ∧ n ≤ 9
abbrev Kx9 (G : EnvG) (x ca k : Nat) (e : Option va_E) : Prop := ∃ f : Nat → Int32, e = some (ai_ G 9 f)
abbrev Kx10 (G : EnvG) (x ca k : Nat) (e : Option va_E) : Prop := ∃ (co po nx ki sa nu : Int32), e = some (o_ 8 [.ref (x + 25), .int co, .int po, .ref (x + 1), .int nx, .int ki, .int sa, .int nu])
abbrev Kx11 (G : EnvG) (x ca k : Nat) (e : Option va_E) : Prop := ∃ (n : Nat) (dr : Int32), e = some (o_ 9 [.ref (x + 47), .int (nI n), .int dr]) ∧ n ≤ 12
abbrev Kx12 (G : EnvG) (x ca k : Nat) (e : Option va_E) : Prop := ∃ f : Nat → Option Nat, e = some (aq_ G 6 13 f) ∧ ∀ j, j < 13 → ∃ m, m < 13 ∧ f j = some (x + (48 + 2 * m))
abbrev Kx13 (G : EnvG) (x ca k : Nat) (e : Option va_E) : Prop := ∃ (pr : Nat) (sm : Int32) (sr : Int64) (sq : Int32), e = some (o_ 10 [.ref (x + 3), .ref (x + 46), .ref (x + 75), .ref (x + 77), .int (nI pr), .ref (x + 78), .ref (x + 79), .int sm, .long sr, .int sq]) ∧ pr ≤ 12
abbrev Kx14 (G : EnvG) (x ca k : Nat) (e : Option va_E) : Prop := ∃ f : Nat → Int32, e = some (ai_ G 12 f)
abbrev Kx15 (G : EnvG) (x ca k : Nat) (e : Option va_E) : Prop := ∃ f : Nat → Int32, e = some (ai_ G 4 f)
abbrev Kx16 (G : EnvG) (x ca k : Nat) (e : Option va_E) : Prop := ∃ (nw rt ds ad ex eb : Int32) (ob sa us : Int64), e = some (o_ 4 [.ref (x + 3), .ref (x + 74), .ref (x + 81), .ref (x + 95), .int nw, .int rt, .int ds, .int ad, .int ex, .int eb, .long ob, .long sa, .long us]) ∧ (ad = 0 ∨ ad = 1)
abbrev Kx17 (G : EnvG) (x ca k : Nat) (e : Option va_E) : Prop := ∃ n : Nat, e = some (o_ 6 [.ref (x + (k + 1)), .int (nI n)]) ∧ n ≤ fcap k
abbrev Kx18 (G : EnvG) (x ca k : Nat) (e : Option va_E) : Prop := ∃ f : Nat → Option Nat, e = some (aq_ G 5 (fcap (k - 1)) f) ∧ ∀ j, j < fcap (k - 1) → ∃ m, m < fcap (k - 1) ∧ f j = some (x + (k + 1 + m))
abbrev Kx19 (G : EnvG) (x ca k : Nat) (e : Option va_E) : Prop := ∃ (fk pk by_ : Int64) (fi la : Int32), e = some (o_ 5 [.long fk, .long pk, .long by_, .int fi, .int la])
abbrev Kx20 (G : EnvG) (x ca k : Nat) (e : Option va_E) : Prop := ∃ n : Nat, e = some (o_ 11 [.ref (x + 122), .ref (x + 123), .ref (x + 126), .ref (x + 129), .int (nI n)]) ∧ n ≤ 24
abbrev Kx21 (G : EnvG) (x ca k : Nat) (e : Option va_E) : Prop := ∃ f : Nat → Int64, e = some (al_ G 24 f)
abbrev Kx22 (G : EnvG) (x ca k : Nat) (e : Option va_E) : Prop := ∃ f : Nat → Option Nat, e = some (aq_ G 7 2 f) ∧ ∀ j, j < 2 → f j = some (x + (k + 1 + j))
abbrev Kx23 (G : EnvG) (x ca k : Nat) (e : Option va_E) : Prop := ∃ f : Nat → Option Nat, e = some (aq_ G 8 2 f) ∧ ∀ j, j < 2 → f j = some (x + (k + 1 + j))
abbrev Kx24 (G : EnvG) (x ca k : Nat) (e : Option va_E) : Prop := ∃ f : Nat → UInt64, e = some (ad_ G 24 f) ∧ ∀ j, pd64 (f j)
abbrev Kx25 (G : EnvG) (x ca k : Nat) (e : Option va_E) : Prop := ∃ (ac : Nat) (lt en : Int32), e = some (o_ 2 [.ref (x + 3), .ref (x + 121), .ref (x + 133), .ref (x + 134), .ref (x + 135), .ref (x + 137), .ref (x + 138), .ref (x + 139), .ref (x + 140), .int (nI ac), .int lt, .int en]) ∧ ac ≤ ca
abbrev Kx26 (G : EnvG) (x ca k : Nat) (e : Option va_E) : Prop := ∃ f : Nat → Option Nat, e = some (aq_ G 4 4 f) ∧ ∀ j, j < 4 → f j = some (x + (k + 8 + 2 * j))
abbrev Kx27 (G : EnvG) (x ca k : Nat) (e : Option va_E) : Prop := ∃ f : Nat → Int32, e = some (ai_ G 8 f)
abbrev Kx28 (G : EnvG) (x ca k : Nat) (e : Option va_E) : Prop := ∃ f : Nat → Int64, e = some (al_ G 9 f)
abbrev Kx29 (G : EnvG) (x ca k : Nat) (e : Option va_E) : Prop := ∃ f : Nat → Int64, e = some (al_ G 9 f) ∧ 0 ≤ f 4
noncomputable def Ok (G : EnvG) (x ca k : Nat) (e : Option va_E) : Prop := match kd k with | 0 => Kx0 G x ca k e | 1 => Kx1 G x ca k e | 2 => Kx2 G x ca k e | 3 => Kx3 G x ca k e | 4 => Kx4 G x ca k e | 5 => Kx5 G x ca k e | 6 => Kx6 G x ca k e | 7 => Kx7 G x ca k e | 8 => Kx8 G x ca k e | 9 => Kx9 G x ca k e | 10 => Kx10 G x ca k e | 11 => Kx11 G x ca k e | 12 => Kx12 G x ca k e | 13 => Kx13 G x ca k e | 14 => Kx14 G x ca k e | 15 => Kx15 G x ca k e | 16 => Kx16 G x ca k e | 17 => Kx17 G x ca k e | 18 => Kx18 G x ca k e | 19 => Kx19 G x ca k e | 20 => Kx20 G x ca k e | 21 => Kx21 G x ca k e | 22 => Kx22 G x ca k e | 23 => Kx23 G x ca k e | 24 => Kx24 G x ca k e | 25 => Kx25 G x ca k e | 26 => Kx26 G x ca k e | 27 => Kx27 G x ca k e | 28 => Kx28 G x ca k e | 29 => Kx29 G x ca k e | _ => True
noncomputable def In (G : EnvG) (x ca : Nat) (Φ : Hm) : Prop := ∀ k, Ok G x ca k (Φ (x + k))
noncomputable def Fr (x : Nat) (md : Nat → Prop) (Φ Φ1 : Hm) : Prop := ∀ b, (∀ j, b = x + j → ¬ md j) → Φ1 b = Φ b
theorem in0 {G : EnvG} {x ca k : Nat} {Φ : Hm} (h : In G x ca Φ) (hk : kd k = 0) : Kx0 G x ca k (Φ (x + k)) := by
  have h1 := h k
  unfold Ok at h1
  rw [hk] at h1
  exact h1
theorem ok0 {G : EnvG} {x ca k : Nat} {e : Option va_E} (hk : kd k = 0) (h : Kx0 G x ca k e) : Ok G x ca k e := by
  unfold Ok
  rw [hk]
  exact h
theorem in1 {G : EnvG} {x ca k : Nat} {Φ : Hm} (h : In G x ca Φ) (hk : kd k = 1) : Kx1 G x ca k (Φ (x + k)) := by
  have h1 := h k
  unfold Ok at h1
  rw [hk] at h1
  exact h1
theorem ok1 {G : EnvG} {x ca k : Nat} {e : Option va_E} (hk : kd k = 1) (h : Kx1 G x ca k e) : Ok G x ca k e := by
  unfold Ok
  rw [hk]
  exact h
theorem in2 {G : EnvG} {x ca k : Nat} {Φ : Hm} (h : In G x ca Φ) (hk : kd k = 2) : Kx2 G x ca k (Φ (x + k)) := by
  have h1 := h k
  unfold Ok at h1
  rw [hk] at h1
  exact h1
theorem ok2 {G : EnvG} {x ca k : Nat} {e : Option va_E} (hk : kd k = 2) (h : Kx2 G x ca k e) : Ok G x ca k e := by
  unfold Ok
  rw [hk]
  exact h
theorem in3 {G : EnvG} {x ca k : Nat} {Φ : Hm} (h : In G x ca Φ) (hk : kd k = 3) : Kx3 G x ca k (Φ (x + k)) := by
  have h1 := h k
  unfold Ok at h1
  rw [hk] at h1
  exact h1
theorem ok3 {G : EnvG} {x ca k : Nat} {e : Option va_E} (hk : kd k = 3) (h : Kx3 G x ca k e) : Ok G x ca k e := by
  unfold Ok
  rw [hk]
  exact h
theorem in4 {G : EnvG} {x ca k : Nat} {Φ : Hm} (h : In G x ca Φ) (hk : kd k = 4) : Kx4 G x ca k (Φ (x + k)) := by
  have h1 := h k
  unfold Ok at h1
  rw [hk] at h1
  exact h1
theorem ok4 {G : EnvG} {x ca k : Nat} {e : Option va_E} (hk : kd k = 4) (h : Kx4 G x ca k e) : Ok G x ca k e := by
  unfold Ok
  rw [hk]
  exact h
theorem in5 {G : EnvG} {x ca k : Nat} {Φ : Hm} (h : In G x ca Φ) (hk : kd k = 5) : Kx5 G x ca k (Φ (x + k)) := by
  have h1 := h k
  unfold Ok at h1
  rw [hk] at h1
  exact h1
theorem ok5 {G : EnvG} {x ca k : Nat} {e : Option va_E} (hk : kd k = 5) (h : Kx5 G x ca k e) : Ok G x ca k e := by
  unfold Ok
  rw [hk]
  exact h
theorem in6 {G : EnvG} {x ca k : Nat} {Φ : Hm} (h : In G x ca Φ) (hk : kd k = 6) : Kx6 G x ca k (Φ (x + k)) := by
  have h1 := h k
  unfold Ok at h1
  rw [hk] at h1
  exact h1
theorem ok6 {G : EnvG} {x ca k : Nat} {e : Option va_E} (hk : kd k = 6) (h : Kx6 G x ca k e) : Ok G x ca k e := by
  unfold Ok
  rw [hk]
  exact h
theorem in7 {G : EnvG} {x ca k : Nat} {Φ : Hm} (h : In G x ca Φ) (hk : kd k = 7) : Kx7 G x ca k (Φ (x + k)) := by
  have h1 := h k
  unfold Ok at h1
  rw [hk] at h1
  exact h1
theorem ok7 {G : EnvG} {x ca k : Nat} {e : Option va_E} (hk : kd k = 7) (h : Kx7 G x ca k e) : Ok G x ca k e := by
  unfold Ok
  rw [hk]
  exact h
theorem in8 {G : EnvG} {x ca k : Nat} {Φ : Hm} (h : In G x ca Φ) (hk : kd k = 8) : Kx8 G x ca k (Φ (x + k)) := by
  have h1 := h k
  unfold Ok at h1
  rw [hk] at h1
  exact h1
theorem ok8 {G : EnvG} {x ca k : Nat} {e : Option va_E} (hk : kd k = 8) (h : Kx8 G x ca k e) : Ok G x ca k e := by
  unfold Ok
  rw [hk]
  exact h
theorem in9 {G : EnvG} {x ca k : Nat} {Φ : Hm} (h : In G x ca Φ) (hk : kd k = 9) : Kx9 G x ca k (Φ (x + k)) := by
  have h1 := h k
  unfold Ok at h1
  rw [hk] at h1
  exact h1
theorem ok9 {G : EnvG} {x ca k : Nat} {e : Option va_E} (hk : kd k = 9) (h : Kx9 G x ca k e) : Ok G x ca k e := by
  unfold Ok
  rw [hk]
  exact h
theorem in10 {G : EnvG} {x ca k : Nat} {Φ : Hm} (h : In G x ca Φ) (hk : kd k = 10) : Kx10 G x ca k (Φ (x + k)) := by
  have h1 := h k
  unfold Ok at h1
  rw [hk] at h1
  exact h1
theorem ok10 {G : EnvG} {x ca k : Nat} {e : Option va_E} (hk : kd k = 10) (h : Kx10 G x ca k e) : Ok G x ca k e := by
  unfold Ok
  rw [hk]
  exact h
theorem in11 {G : EnvG} {x ca k : Nat} {Φ : Hm} (h : In G x ca Φ) (hk : kd k = 11) : Kx11 G x ca k (Φ (x + k)) := by
  have h1 := h k
  unfold Ok at h1
  rw [hk] at h1
  exact h1
theorem ok11 {G : EnvG} {x ca k : Nat} {e : Option va_E} (hk : kd k = 11) (h : Kx11 G x ca k e) : Ok G x ca k e := by
  unfold Ok
  rw [hk]
  exact h
theorem in12 {G : EnvG} {x ca k : Nat} {Φ : Hm} (h : In G x ca Φ) (hk : kd k = 12) : Kx12 G x ca k (Φ (x + k)) := by
  have h1 := h k
  unfold Ok at h1
  rw [hk] at h1
  exact h1
theorem ok12 {G : EnvG} {x ca k : Nat} {e : Option va_E} (hk : kd k = 12) (h : Kx12 G x ca k e) : Ok G x ca k e := by
  unfold Ok
  rw [hk]
  exact h
theorem in13 {G : EnvG} {x ca k : Nat} {Φ : Hm} (h : In G x ca Φ) (hk : kd k = 13) : Kx13 G x ca k (Φ (x + k)) := by
  have h1 := h k
  unfold Ok at h1
  rw [hk] at h1
  exact h1
theorem ok13 {G : EnvG} {x ca k : Nat} {e : Option va_E} (hk : kd k = 13) (h : Kx13 G x ca k e) : Ok G x ca k e := by
  unfold Ok
  rw [hk]
  exact h
theorem in14 {G : EnvG} {x ca k : Nat} {Φ : Hm} (h : In G x ca Φ) (hk : kd k = 14) : Kx14 G x ca k (Φ (x + k)) := by
  have h1 := h k
  unfold Ok at h1
  rw [hk] at h1
  exact h1
theorem ok14 {G : EnvG} {x ca k : Nat} {e : Option va_E} (hk : kd k = 14) (h : Kx14 G x ca k e) : Ok G x ca k e := by
  unfold Ok
  rw [hk]
  exact h
theorem in15 {G : EnvG} {x ca k : Nat} {Φ : Hm} (h : In G x ca Φ) (hk : kd k = 15) : Kx15 G x ca k (Φ (x + k)) := by
  have h1 := h k
  unfold Ok at h1
  rw [hk] at h1
  exact h1
theorem ok15 {G : EnvG} {x ca k : Nat} {e : Option va_E} (hk : kd k = 15) (h : Kx15 G x ca k e) : Ok G x ca k e := by
  unfold Ok
  rw [hk]
  exact h
theorem in16 {G : EnvG} {x ca k : Nat} {Φ : Hm} (h : In G x ca Φ) (hk : kd k = 16) : Kx16 G x ca k (Φ (x + k)) := by
  have h1 := h k
  unfold Ok at h1
  rw [hk] at h1
  exact h1
theorem ok16 {G : EnvG} {x ca k : Nat} {e : Option va_E} (hk : kd k = 16) (h : Kx16 G x ca k e) : Ok G x ca k e := by
  unfold Ok
  rw [hk]
  exact h
theorem in17 {G : EnvG} {x ca k : Nat} {Φ : Hm} (h : In G x ca Φ) (hk : kd k = 17) : Kx17 G x ca k (Φ (x + k)) := by
  have h1 := h k
  unfold Ok at h1
  rw [hk] at h1
  exact h1
theorem ok17 {G : EnvG} {x ca k : Nat} {e : Option va_E} (hk : kd k = 17) (h : Kx17 G x ca k e) : Ok G x ca k e := by
  unfold Ok
  rw [hk]
  exact h
theorem in18 {G : EnvG} {x ca k : Nat} {Φ : Hm} (h : In G x ca Φ) (hk : kd k = 18) : Kx18 G x ca k (Φ (x + k)) := by
  have h1 := h k
  unfold Ok at h1
  rw [hk] at h1
  exact h1
theorem ok18 {G : EnvG} {x ca k : Nat} {e : Option va_E} (hk : kd k = 18) (h : Kx18 G x ca k e) : Ok G x ca k e := by
  unfold Ok
  rw [hk]
  exact h
theorem in19 {G : EnvG} {x ca k : Nat} {Φ : Hm} (h : In G x ca Φ) (hk : kd k = 19) : Kx19 G x ca k (Φ (x + k)) := by
  have h1 := h k
  unfold Ok at h1
  rw [hk] at h1
  exact h1
theorem ok19 {G : EnvG} {x ca k : Nat} {e : Option va_E} (hk : kd k = 19) (h : Kx19 G x ca k e) : Ok G x ca k e := by
  unfold Ok
  rw [hk]
  exact h
theorem in20 {G : EnvG} {x ca k : Nat} {Φ : Hm} (h : In G x ca Φ) (hk : kd k = 20) : Kx20 G x ca k (Φ (x + k)) := by
  have h1 := h k
  unfold Ok at h1
  rw [hk] at h1
  exact h1
theorem ok20 {G : EnvG} {x ca k : Nat} {e : Option va_E} (hk : kd k = 20) (h : Kx20 G x ca k e) : Ok G x ca k e := by
  unfold Ok
  rw [hk]
  exact h
theorem in21 {G : EnvG} {x ca k : Nat} {Φ : Hm} (h : In G x ca Φ) (hk : kd k = 21) : Kx21 G x ca k (Φ (x + k)) := by
  have h1 := h k
  unfold Ok at h1
  rw [hk] at h1
  exact h1
theorem ok21 {G : EnvG} {x ca k : Nat} {e : Option va_E} (hk : kd k = 21) (h : Kx21 G x ca k e) : Ok G x ca k e := by
  unfold Ok
  rw [hk]
  exact h
theorem in22 {G : EnvG} {x ca k : Nat} {Φ : Hm} (h : In G x ca Φ) (hk : kd k = 22) : Kx22 G x ca k (Φ (x + k)) := by
  have h1 := h k
  unfold Ok at h1
  rw [hk] at h1
  exact h1
theorem ok22 {G : EnvG} {x ca k : Nat} {e : Option va_E} (hk : kd k = 22) (h : Kx22 G x ca k e) : Ok G x ca k e := by
  unfold Ok
  rw [hk]
  exact h
theorem in23 {G : EnvG} {x ca k : Nat} {Φ : Hm} (h : In G x ca Φ) (hk : kd k = 23) : Kx23 G x ca k (Φ (x + k)) := by
  have h1 := h k
  unfold Ok at h1
  rw [hk] at h1
  exact h1
theorem ok23 {G : EnvG} {x ca k : Nat} {e : Option va_E} (hk : kd k = 23) (h : Kx23 G x ca k e) : Ok G x ca k e := by
  unfold Ok
  rw [hk]
  exact h
theorem in24 {G : EnvG} {x ca k : Nat} {Φ : Hm} (h : In G x ca Φ) (hk : kd k = 24) : Kx24 G x ca k (Φ (x + k)) := by
  have h1 := h k
  unfold Ok at h1
  rw [hk] at h1
  exact h1
theorem ok24 {G : EnvG} {x ca k : Nat} {e : Option va_E} (hk : kd k = 24) (h : Kx24 G x ca k e) : Ok G x ca k e := by
  unfold Ok
  rw [hk]
  exact h
theorem in25 {G : EnvG} {x ca k : Nat} {Φ : Hm} (h : In G x ca Φ) (hk : kd k = 25) : Kx25 G x ca k (Φ (x + k)) := by
  have h1 := h k
  unfold Ok at h1
  rw [hk] at h1
  exact h1
theorem ok25 {G : EnvG} {x ca k : Nat} {e : Option va_E} (hk : kd k = 25) (h : Kx25 G x ca k e) : Ok G x ca k e := by
  unfold Ok
  rw [hk]
  exact h
theorem in26 {G : EnvG} {x ca k : Nat} {Φ : Hm} (h : In G x ca Φ) (hk : kd k = 26) : Kx26 G x ca k (Φ (x + k)) := by
  have h1 := h k
  unfold Ok at h1
  rw [hk] at h1
  exact h1
theorem ok26 {G : EnvG} {x ca k : Nat} {e : Option va_E} (hk : kd k = 26) (h : Kx26 G x ca k e) : Ok G x ca k e := by
  unfold Ok
  rw [hk]
  exact h
theorem in27 {G : EnvG} {x ca k : Nat} {Φ : Hm} (h : In G x ca Φ) (hk : kd k = 27) : Kx27 G x ca k (Φ (x + k)) := by
  have h1 := h k
  unfold Ok at h1
  rw [hk] at h1
  exact h1
theorem ok27 {G : EnvG} {x ca k : Nat} {e : Option va_E} (hk : kd k = 27) (h : Kx27 G x ca k e) : Ok G x ca k e := by
  unfold Ok
  rw [hk]
  exact h
theorem in28 {G : EnvG} {x ca k : Nat} {Φ : Hm} (h : In G x ca Φ) (hk : kd k = 28) : Kx28 G x ca k (Φ (x + k)) := by
  have h1 := h k
  unfold Ok at h1
  rw [hk] at h1
  exact h1
theorem ok28 {G : EnvG} {x ca k : Nat} {e : Option va_E} (hk : kd k = 28) (h : Kx28 G x ca k e) : Ok G x ca k e := by
  unfold Ok
  rw [hk]
  exact h
theorem in29 {G : EnvG} {x ca k : Nat} {Φ : Hm} (h : In G x ca Φ) (hk : kd k = 29) : Kx29 G x ca k (Φ (x + k)) := by
  have h1 := h k
  unfold Ok at h1
  rw [hk] at h1
  exact h1
theorem ok29 {G : EnvG} {x ca k : Nat} {e : Option va_E} (hk : kd k = 29) (h : Kx29 G x ca k e) : Ok G x ca k e := by
  unfold Ok
  rw [hk]
  exact h
theorem In.put {G : EnvG} {x ca k : Nat} {Φ Φ1 : Hm} {e : va_E} (h : In G x ca Φ) (h1 : Φ1 = fset Φ (x + k) e) (ho : Ok G x ca k (some e)) : In G x ca Φ1 := by
  intro j
  by_cases hj : j = k
  · subst hj
    rw [h1, fset_eq]
    exact ho
  · rw [h1, fset_ne (by omega)]
    exact h j
theorem In.mono {G : EnvG} {x ca cb : Nat} {Φ : Hm} (h : In G x ca Φ) (hc : ca ≤ cb) : In G x cb Φ := by
  intro k
  by_cases hk : kd k = 25
  · obtain ⟨a, b, d, h1, h2⟩ := in25 h hk
    exact ok25 hk ⟨a, b, d, h1, Nat.le_trans h2 hc⟩
  · have h1 := h k
    unfold Ok at h1 ⊢
    split at h1
    all_goals first | exact h1 | exact absurd (by assumption) hk
theorem kd_lt {k c : Nat} (h : kd k = c) (hc : c ≠ 99) : k < 149 := by
  rcases Nat.lt_or_ge k 149 with h3 | h3
  · exact h3
  · unfold kd at h
    rw [List.getD_eq_getElem?_getD, List.getElem?_eq_none (show kdL.length ≤ k from h3)] at h
    exact absurd (show c = 99 from h.symm) hc
theorem kd_q {m : Nat} (h : m < 13) : kd (48 + 2 * m) = 1 := by
  have : ∀ i : Fin 13, kd (48 + 2 * i.val) = 1 := by decide +kernel
  exact this ⟨m, h⟩
theorem kd_c {k : Nat} (hk : kd k = 1) : kd (k + 1) = 2 := by
  have h4 : ∀ i : Fin 149, kd i.val = 1 → kd (i.val + 1) = 2 := by decide +kernel
  exact h4 ⟨k, kd_lt hk (by decide)⟩ hk
theorem kd_t {k : Nat} (hk : kd k = 8) : kd (k + 1) = 9 := by
  have h4 : ∀ i : Fin 149, kd i.val = 8 → kd (i.val + 1) = 9 := by decide +kernel
  exact h4 ⟨k, kd_lt hk (by decide)⟩ hk
theorem kd_r {k : Nat} (hk : kd k = 17) : kd (k + 1) = 18 := by
  have h4 : ∀ i : Fin 149, kd i.val = 17 → kd (i.val + 1) = 18 := by decide +kernel
  exact h4 ⟨k, kd_lt hk (by decide)⟩ hk
theorem kd_s {k : Nat} (hk : kd k = 3) : kd (k + 1) = 4 ∧ kd (k + 2) = 5 ∧ kd (k + 3) = 6 ∧ kd (k + 4) = 7 := by
  have h4 : ∀ i : Fin 149, kd i.val = 3 → kd (i.val + 1) = 4 ∧ kd (i.val + 2) = 5 ∧ kd (i.val + 3) = 6 ∧ kd (i.val + 4) = 7 := by decide +kernel
  exact h4 ⟨k, kd_lt hk (by decide)⟩ hk
theorem kd_w {k j : Nat} (hk : kd k = 6) (h : j < 4) : kd (k + 2 + 4 * j) = 8 := by
  have h4 : ∀ i : Fin 149, kd i.val = 6 → ∀ j : Fin 4, kd (i.val + 2 + 4 * j.val) = 8 := by decide +kernel
  exact h4 ⟨k, kd_lt hk (by decide)⟩ hk ⟨j, h⟩
theorem kd_e {k j : Nat} (hk : kd k = 7) (h : j < 4) : kd (k + 3 + 4 * j) = 8 := by
  have h4 : ∀ i : Fin 149, kd i.val = 7 → ∀ j : Fin 4, kd (i.val + 3 + 4 * j.val) = 8 := by decide +kernel
  exact h4 ⟨k, kd_lt hk (by decide)⟩ hk ⟨j, h⟩
theorem kd_2a {j : Nat} (h : j < 2) : kd (123 + 1 + j) = 21 := by
  have h4 : ∀ j : Fin 2, kd (123 + 1 + j.val) = 21 := by decide +kernel
  exact h4 ⟨j, h⟩
theorem kd_2b {j : Nat} (h : j < 2) : kd (126 + 1 + j) = 21 := by
  have h4 : ∀ j : Fin 2, kd (126 + 1 + j.val) = 21 := by decide +kernel
  exact h4 ⟨j, h⟩
theorem kd_2c {j : Nat} (h : j < 2) : kd (129 + 1 + j) = 24 := by
  have h4 : ∀ j : Fin 2, kd (129 + 1 + j.val) = 24 := by decide +kernel
  exact h4 ⟨j, h⟩
theorem kd_k {j : Nat} (h : j < 4) : kd (133 + 8 + 2 * j) = 8 := by
  have h4 : ∀ j : Fin 4, kd (133 + 8 + 2 * j.val) = 8 := by decide +kernel
  exact h4 ⟨j, h⟩
theorem kd_f {k m : Nat} (hk : kd k = 18) (h : m < fcap (k - 1)) : kd (k + 1 + m) = 19 := by
  have h4 : ∀ i : Fin 149, kd i.val = 18 → ∀ m : Fin 24, m.val < fcap (i.val - 1) → kd (i.val + 1 + m.val) = 19 := by decide +kernel
  exact h4 ⟨k, kd_lt hk (by decide)⟩ hk ⟨m, Nat.lt_of_lt_of_le h (fcap_le _)⟩ h

theorem nI_mul (a b : Nat) : nI a * nI b = nI (a * b) := (Int32.ofNat_mul a b).symm
theorem nI_sub {a b : Nat} (h : b ≤ a) : nI a - nI b = nI (a - b) := by
  have h1 : nI a = nI (a - b) + nI b := by rw [nI_add]; congr 1; omega
  rw [h1, Int32.add_sub_cancel]
theorem nI_m1 {a : Nat} (h : 1 ≤ a) : nI a + (-1) = nI (a - 1) := by
  have h1 := nI_sub (a := a) (b := 1) h
  rw [← h1, Int32.sub_eq_add_neg]
  rfl
theorem nI_rem8 {a : Nat} (h : a < 2 ^ 31) : nI a - nI a / 8 * 8 = nI (a % 8) := pk_rem (d := 8) h (by decide) (by decide)
theorem pred_pos {i : Nat} (h : ¬ nI i - 1 < 0) : 1 ≤ i := by
  rcases i with _ | i
  · exact absurd (show nI 0 - 1 < 0 by decide) h
  · omega
theorem pred_dec {i : Nat} (h : 1 ≤ i) : nI i - 1 + (-1) = nI (i - 1) - 1 := by
  have h1 : nI i - 1 = nI (i - 1) := nI_sub (a := i) (b := 1) h
  rw [h1, Int32.sub_eq_add_neg]
theorem nI_ofp {x : Int32} (h : ¬ x ≤ 0) : ∃ j : Nat, 0 < j ∧ j < 2 ^ 31 ∧ x = nI j := by
  have h2 : ¬ x < 0 := fun h3 => h (Int32.le_of_lt h3)
  obtain ⟨j, hj, e⟩ := nI_of h2
  refine ⟨j, ?_, hj, e⟩
  rcases j with _ | j
  · subst e
    exact absurd (show nI 0 ≤ 0 by decide) h
  · omega
theorem sub_le {o f t : Nat} (ho : o < 2 ^ 31) (hf : f < 2 ^ 31) (ht : t < 2 ^ 31) (h : ¬ nI o - nI f < nI t) : f + t ≤ o := by
  by_cases hfo : f ≤ o
  · rw [nI_sub hfo, nI_ltI (by omega) ht] at h
    omega
  · exfalso
    apply h
    rw [Int32.lt_iff_toInt_lt, Int32.toInt_sub, nI_toInt ho, nI_toInt hf, nI_toInt ht]
    have : ((o : Int) - (f : Int)).bmod (2 ^ 32) = (o : Int) - (f : Int) := Int.bmod_eq_of_le (by omega) (by omega)
    rw [this]
    omega
theorem fbT_nat {i : Nat} (h : i < 9) : ∃ n : Nat, n ≤ 8 ∧ fbT i = nI n := by
  have : ∀ j : Fin 9, ∃ n : Fin 9, fbT j.val = nI n.val := by decide +kernel
  obtain ⟨n, hn⟩ := this ⟨i, h⟩
  exact ⟨n.val, by omega, hn⟩
theorem nI_ofge {x : Int32} {c : Nat} (hc : c < 2 ^ 31) (h : ¬ x < nI c) : ∃ j : Nat, c ≤ j ∧ j < 2 ^ 31 ∧ x = nI j := by
  have h2 : ¬ x < 0 := by
    intro h3
    apply h
    rw [Int32.lt_iff_toInt_lt] at h3 ⊢
    rw [nI_toInt hc]
    have : (0 : Int32).toInt = 0 := by decide
    omega
  obtain ⟨j, hj, e⟩ := nI_of h2
  subst e
  rw [nI_ltI hj hc] at h
  exact ⟨j, by omega, hj, rfl⟩
theorem upd_nn {f : Nat → Int32} {i : Nat} {v : Int32} (r : ∀ j, ¬ f j < 0) (h : ¬ v < 0) : ∀ j, ¬ upd f i v j < 0 := by
  intro j
  unfold upd
  split
  · exact h
  · exact r j
theorem cpy_nn {f g : Nat → Int32} {a b n : Nat} (r : ∀ j, ¬ f j < 0) (r2 : ∀ j, ¬ g j < 0) : ∀ j, ¬ va_cpy f g a b n j < 0 := by
  intro j
  unfold va_cpy
  split
  · exact r _
  · exact r2 _
theorem us_nn : ∀ j, ¬ usT j < 0 := by
  intro j
  rcases Nat.lt_or_ge j 9 with h | h
  · have : ∀ i : Fin 9, ¬ usT i.val < 0 := by decide +kernel
    exact this ⟨j, h⟩
  · unfold usT
    rw [List.getD_eq_getElem?_getD, List.getElem?_eq_none (show ([1, 100, 1000, 100, 20, 1000, 5000, 512, 1] : List Int32).length ≤ j from h)]
    decide
/-- a long that was read from i bytes -/
noncomputable def np (i : Nat) (v : Int64) : Prop := i ≤ 7 → ∃ A : Nat, A < 2 ^ (8 * i) ∧ v = Int64.ofNat A
theorem np_0 : np 0 0 := fun _ => ⟨0, by decide, rfl⟩
theorem and255 (v : Int32) : ∃ n : Nat, n ≤ 255 ∧ v &&& 255 = nI n := by
  obtain ⟨j, hj, e⟩ := pk_andE v (m := 255) 8 (by decide)
  exact ⟨j, by omega, e⟩
theorem np_step {i n : Nat} {v : Int64} (h : np i v) (hn : n ≤ 255 := by omega) : np (i + 1) ((v <<< ((8 : Int32).toInt64 &&& 63)) ||| (nI n).toInt64) := by
  intro hi
  obtain ⟨A, hA, rfl⟩ := h (by omega)
  have hA2 : A < 2 ^ 48 := Nat.lt_of_lt_of_le hA (Nat.pow_le_pow_right (by decide) (by omega))
  refine ⟨A * 256 + n, ?_, ?_⟩
  · have h1 : 2 ^ (8 * (i + 1)) = 2 ^ (8 * i) * 256 := by rw [show 8 * (i + 1) = 8 * i + 8 by omega, Nat.pow_add]
    rw [h1]
    omega
  · have e1 : ((8 : Int32).toInt64 &&& 63) = 8 := by decide
    have e2 : (nI n).toInt64 = Int64.ofNat n := nI_l (by omega)
    rw [e1, e2]
    apply Int64.toBitVec_inj.mp
    have hs : ((8 : Int64).toBitVec.smod 64).toNat = 8 := by decide
    rw [Int64.toBitVec_or, Int64.toBitVec_shiftLeft, BitVec.shiftLeft_eq', hs]
    apply BitVec.eq_of_toNat_eq
    rw [BitVec.toNat_or, BitVec.toNat_shiftLeft, Int64.toBitVec_ofNat', Int64.toBitVec_ofNat', Int64.toBitVec_ofNat', BitVec.toNat_ofNat, BitVec.toNat_ofNat, BitVec.toNat_ofNat, Nat.mod_eq_of_lt (show A < 2 ^ 64 by omega), Nat.mod_eq_of_lt (show n < 2 ^ 64 by omega), Nat.mod_eq_of_lt (show A * 256 + n < 2 ^ 64 by omega)]
    have e3 : A <<< 8 = A * 256 := by rw [Nat.shiftLeft_eq]
    rw [Nat.mod_eq_of_lt (show A <<< 8 < 2 ^ 64 by rw [e3]; omega), ← Nat.shiftLeft_add_eq_or_of_lt (show n < 2 ^ 8 by omega), e3]
theorem np_nn {i : Nat} {v : Int64} (h : np i v) (hi : i ≤ 7) : 0 ≤ v := by
  obtain ⟨A, hA, rfl⟩ := h hi
  have hA2 : A < 2 ^ 56 := Nat.lt_of_lt_of_le hA (Nat.pow_le_pow_right (by decide) (by omega))
  rw [Int64.le_iff_toInt_le]
  have h1 : (Int64.ofNat A).toInt = A := by
    show (Int64.ofNat A).toBitVec.toInt = A
    rw [Int64.toBitVec_ofNat']
    have h4 := BitVec.toInt_eq_toNat_cond (x := BitVec.ofNat 64 A)
    rw [BitVec.toNat_ofNat, Nat.mod_eq_of_lt (show A < 2 ^ 64 by omega)] at h4
    split at h4 <;> omega
  have h2 : (0 : Int64).toInt = 0 := by decide
  omega
theorem upd_fit {f : Nat → Int32} {i : Nat} {v : Int32} (r : ∀ j, fits .byte (.int (f j)) = true) : ∀ j, fits .byte (.int (upd f i (vp_nar .byte v) j)) = true := by
  intro j
  unfold upd
  split
  · rw [vp_nar_byte]
    exact pk_fb v
  · exact r j
theorem cpy_fit {f g : Nat → Int32} {a b n : Nat} (r : ∀ j, fits .byte (.int (f j)) = true) (r2 : ∀ j, fits .byte (.int (g j)) = true) : ∀ j, fits .byte (.int (va_cpy f g a b n j)) = true := by
  intro j
  unfold va_cpy
  split
  · exact r _
  · exact r2 _
theorem row_up {x : Nat} {f : Nat → Option Nat} {N M b i : Nat} {g : Nat → Nat} (r : ∀ j, j < N → ∃ m, m < M ∧ f j = some (x + g m)) (h : ∃ m, m < M ∧ b = x + g m) : ∀ j, j < N → ∃ m, m < M ∧ va_up f i (some b) j = some (x + g m) := by
  intro j hj
  by_cases e : j = i
  · obtain ⟨m, hm, he⟩ := h
    exact ⟨m, hm, by simp [va_up, e, he]⟩
  · obtain ⟨m, hm, he⟩ := r j hj
    exact ⟨m, hm, by simp [va_up, e, he]⟩
theorem z_fi {p : Program} {l : Launch} {e : Env} {R : Room} {s : State} {m : MethodId} {args : Array Value} {below : List Frame} {meth : Method} {c : Code} {Q : State → Prop} {G : EnvG} {nL pc : Nat} {lv : List (Nat × Value)} {rest : List Value} {Φ : Hm} {sz cells slots : Nat} {w : Int32} (kk : ∀ v : Int32, Z p l e R s m args below meth c Q G nL pc lv (.int v :: rest) Φ sz cells slots) : Z p l e R s m args below meth c Q G nL pc lv (.int w :: rest) Φ sz cells slots := kk w
theorem z_fiq {p : Program} {l : Launch} {e : Env} {R : Room} {s : State} {m : MethodId} {args : Array Value} {below : List Frame} {meth : Method} {c : Code} {Q : State → Prop} {G : EnvG} {nL pc : Nat} {lv : List (Nat × Value)} {rest : List Value} {Φ : Hm} {sz cells slots : Nat} {w : Int32} {P : Int32 → Prop} (hp : P w) (kk : ∀ v : Int32, P v → Z p l e R s m args below meth c Q G nL pc lv (.int v :: rest) Φ sz cells slots) : Z p l e R s m args below meth c Q G nL pc lv (.int w :: rest) Φ sz cells slots := kk w hp
theorem z_fl {p : Program} {l : Launch} {e : Env} {R : Room} {s : State} {m : MethodId} {args : Array Value} {below : List Frame} {meth : Method} {c : Code} {Q : State → Prop} {G : EnvG} {nL pc : Nat} {lv : List (Nat × Value)} {rest : List Value} {Φ : Hm} {sz cells slots : Nat} {w : Int64} (kk : ∀ v : Int64, Z p l e R s m args below meth c Q G nL pc lv (.long v :: rest) Φ sz cells slots) : Z p l e R s m args below meth c Q G nL pc lv (.long w :: rest) Φ sz cells slots := kk w
theorem imin_le (x y : Int32) : (if y < x then y else x) ≤ y := by
  split
  · exact Int32.le_refl y
  · rename_i h
    exact Int32.not_lt.mp h
theorem nI_min {a b : Nat} (ha : a < 2 ^ 31) (hb : b < 2 ^ 31) : (if nI b < nI a then nI b else nI a) = nI (min a b) := by
  by_cases h : b < a
  · rw [if_pos (nI_lt h ha), Nat.min_eq_right (Nat.le_of_lt h)]
  · rw [if_neg (nI_nlt (Nat.le_of_not_lt h) hb), Nat.min_eq_left (Nat.le_of_not_lt h)]
theorem fset_of {Φ Φ1 : Hm} {a : Nat} {e : va_E} (h : ∀ b9 : Nat, b9 ≠ a → Φ1 b9 = Φ b9) (h1 : Φ1 a = some e) : Φ1 = fset Φ a e := by
  funext b
  by_cases hb : b = a
  · subst hb
    rw [h1, fset_eq]
  · rw [fset_ne hb, h b hb]
theorem z_mmaxl {p : Program} {l : Launch} {e : Env} {R : Room} {s : State} {m : MethodId} {args : Array Value} {below : List Frame} {meth : Method} {c : Code} {Q : State → Prop} {G : EnvG} {nL pc : Nat} {lv : List (Nat × Value)} {rest : List Value} {Φ : Hm} {sz cells slots : Nat} {cc : ByteArray} {own : String} {ws : List Cond} {ret : Option FieldType} {nm : String} (B : Bd p s m args meth c G cc nL own ws ret nm) {index : Nat} {x y : Int64} (h1 : Cond.methodLink own index Lib.MathLoose.max_long.x ∈ ws) (h2 : Cond.static Lib.MathLoose.max_long.x ∈ ws) (h3 : Cond.initialized "java/lang/Math" ∈ ws) (h4 : Cond.code Lib.MathLoose.max_long.x Lib.MathLoose.max_long.code 4 (some .long) ∈ ws) (hR : 1 ≤ R.frames ∧ (rest.map fun v => v.category).sum + 15 ≤ R.locals) (hcs : cells ≤ R.cells ∧ slots ≤ R.slots) (hdg : decode cc pc = .ok (.invokestatic index, 3)) (kk : ∀ v : Int64, Z p l e R s m args below meth c Q G nL (pc + 3) lv (.long v :: rest) Φ sz cells slots) : Z p l e R s m args below meth c Q G nL pc lv (.long y :: .long x :: rest) Φ sz cells slots := by
  intro H locs ls hl hP hS
  exact va_mmax_long B.1.1 B.1.2.1 (by rw [B.1.2.2.1]; exact hl.1.symm) B.1.2.2.2.1 (B.1.2.2.2.2 _ h1) (B.1.2.2.2.2 _ h2) (B.1.2.2.2.2 _ h3) (B.1.2.2.2.2 _ h4) hR.1 hR.2 hcs.1 hcs.2 hdg (kk _ H locs ls hl hP hS)
theorem gt1_ne {r : Int32} (h : 1 < r) : ¬ r = 0 := by
  intro h2
  subst h2
  exact absurd h (by decide)
theorem ge1_nel {r : Int32} (h : 1 ≤ r) : ¬ r.toInt64 = 0 := by
  intro h2
  have h3 := congrArg Int64.toInt h2
  rw [Int32.toInt_toInt64] at h3
  rw [Int32.le_iff_toInt_le] at h
  have h4 : (1 : Int32).toInt = 1 := by decide
  have h5 : (0 : Int64).toInt = 0 := by decide
  omega
theorem z_fdq {p : Program} {l : Launch} {e : Env} {R : Room} {s : State} {m : MethodId} {args : Array Value} {below : List Frame} {meth : Method} {c : Code} {Q : State → Prop} {G : EnvG} {nL pc : Nat} {lv : List (Nat × Value)} {rest : List Value} {Φ : Hm} {sz cells slots : Nat} {w : UInt64} {P : UInt64 → Prop} (hp : P w) (kk : ∀ v : UInt64, P v → Z p l e R s m args below meth c Q G nL pc lv (.double v :: rest) Φ sz cells slots) : Z p l e R s m args below meth c Q G nL pc lv (.double w :: rest) Φ sz cells slots := kk w hp
theorem up_dec {p k : Int32} (h : ¬ p ≤ k) : (p.toInt - (k + 1).toInt).toNat < (p.toInt - k.toInt).toNat := by
  rw [Int32.le_iff_toInt_le] at h
  have h1 := p.toInt_lt
  have h2 := k.le_toInt
  have h3 : (k + 1).toInt = k.toInt + 1 := by
    rw [Int32.toInt_add]
    exact Int.bmod_eq_of_le (by have : (1 : Int32).toInt = 1 := by decide
                                omega) (by have : (1 : Int32).toInt = 1 := by decide
                                           omega)
  rw [h3]
  omega
theorem down_dec {k : Int32} (h : ¬ k < 0) : ((k + (-1)).toInt + 1).toNat < (k.toInt + 1).toNat := by
  obtain ⟨n, hn, rfl⟩ := nI_of h
  rcases n with _ | n
  · decide
  · rw [nI_m1 (by omega), nI_toInt (by omega), nI_toInt (by omega)]
    omega
theorem z_ff {p : Program} {l : Launch} {e : Env} {R : Room} {s : State} {m : MethodId} {args : Array Value} {below : List Frame} {meth : Method} {c : Code} {Q : State → Prop} {G : EnvG} {nL pc : Nat} {lv : List (Nat × Value)} {rest : List Value} {Φ : Hm} {sz cells slots : Nat} {w : UInt32} (kk : ∀ v : UInt32, Z p l e R s m args below meth c Q G nL pc lv (.float v :: rest) Φ sz cells slots) : Z p l e R s m args below meth c Q G nL pc lv (.float w :: rest) Φ sz cells slots := kk w
theorem z_ffq {p : Program} {l : Launch} {e : Env} {R : Room} {s : State} {m : MethodId} {args : Array Value} {below : List Frame} {meth : Method} {c : Code} {Q : State → Prop} {G : EnvG} {nL pc : Nat} {lv : List (Nat × Value)} {rest : List Value} {Φ : Hm} {sz cells slots : Nat} {w : UInt32} {P : UInt32 → Prop} (hp : P w) (kk : ∀ v : UInt32, P v → Z p l e R s m args below meth c Q G nL pc lv (.float v :: rest) Φ sz cells slots) : Z p l e R s m args below meth c Q G nL pc lv (.float w :: rest) Φ sz cells slots := kk w hp
theorem z_fd {p : Program} {l : Launch} {e : Env} {R : Room} {s : State} {m : MethodId} {args : Array Value} {below : List Frame} {meth : Method} {c : Code} {Q : State → Prop} {G : EnvG} {nL pc : Nat} {lv : List (Nat × Value)} {rest : List Value} {Φ : Hm} {sz cells slots : Nat} {w : UInt64} (kk : ∀ v : UInt64, Z p l e R s m args below meth c Q G nL pc lv (.double v :: rest) Φ sz cells slots) : Z p l e R s m args below meth c Q G nL pc lv (.double w :: rest) Φ sz cells slots := kk w
theorem z_flq {p : Program} {l : Launch} {e : Env} {R : Room} {s : State} {m : MethodId} {args : Array Value} {below : List Frame} {meth : Method} {c : Code} {Q : State → Prop} {G : EnvG} {nL pc : Nat} {lv : List (Nat × Value)} {rest : List Value} {Φ : Hm} {sz cells slots : Nat} {w : Int64} {P : Int64 → Prop} (hp : P w) (kk : ∀ v : Int64, P v → Z p l e R s m args below meth c Q G nL pc lv (.long v :: rest) Φ sz cells slots) : Z p l e R s m args below meth c Q G nL pc lv (.long w :: rest) Φ sz cells slots := kk w hp
theorem z_aaldA {p : Program} {l : Launch} {e : Env} {R : Room} {s : State} {m : MethodId} {args : Array Value} {below : List Frame} {meth : Method} {c : Code} {Q : State → Prop} {G : EnvG} {nL pc : Nat} {lv : List (Nat × Value)} {rest : List Value} {Φ : Hm} {sz cells slots : Nat} {cc : ByteArray} {own : String} {ws : List Cond} {ret : Option FieldType} {nm : String} (B : Bd p s m args meth c G cc nL own ws ret nm) {a n t : Nat} {ty : FieldType} {f : Nat → Option Nat} (ht : (tyl G.2.1)[t]? = some (G.2.1 t, .array ty)) (ha : Φ a = some (aq_ G t n f)) {i : Int32} (hin : vp_in i n) {b : Nat} (hf : f i.toNatClampNeg = some b) (hdg : decode cc pc = .ok (.aaload, 1)) (kk : Z p l e R s m args below meth c Q G nL (pc + 1) lv (.ref b :: rest) Φ sz cells slots) : Z p l e R s m args below meth c Q G nL pc lv (.int i :: .ref a :: rest) Φ sz cells slots := by
  intro H locs ls hl hP hS
  have hlt : i.toNatClampNeg < n := Nat.not_le.mp fun q => hin (Or.inr q)
  refine W.aald (v := va_rf (f i.toNatClampNeg)) (ty := .array ty) B.1.1 B.1.2.1 (hP.2 a _ ha) ((B.2.2.2.2.1.1.2 t _ ht).1 n (fun j => va_rf (f j))) rfl (fun q => by cases q) (by show ¬ (i < 0 ∨ (arrV _ _ _).slots.size ≤ _); rw [arrV_size]; exact hin) (by show (arrV _ _ _).slots[_]? = _; rw [arrV_read _ _ hlt]) rfl rfl hdg (by rw [hf]; exact kk H locs ls hl hP hS)
theorem fbT_nat4 {i : Nat} (h : i < 9) : ∃ n : Nat, n ≤ 8 ∧ fbT i = nI n ∧ (i = 4 → n ≤ 7) := by
  have : ∀ j : Fin 9, ∃ n : Fin 9, fbT j.val = nI n.val ∧ (j.val = 4 → n.val ≤ 7) := by decide +kernel
  obtain ⟨n, hn, h2⟩ := this ⟨i, h⟩
  exact ⟨n.val, by omega, hn, h2⟩
theorem upd4 {f : Nat → Int64} {i : Nat} {v : Int64} (r : 0 ≤ f 4) (h : i = 4 → 0 ≤ v) : 0 ≤ vp_updL f i v 4 := by
  unfold vp_updL
  split
  · rename_i e
    exact h e.symm
  · exact r
theorem z_loop {p : Program} {l : Launch} {e : Env} {R : Room} {s : State} {m : MethodId} {args : Array Value} {below : List Frame} {meth : Method} {c : Code} {Q : State → Prop} {G : EnvG} {nL pc : Nat} {Φ : Hm} {sz cells slots : Nat} {α : Type} (Iv : α → Hm → Prop) (lvf : α → List (Nat × Value)) (ms : α → Nat) (body : ∀ (a : α) (Φi : Hm), Iv a Φi → (∀ (a' : α) (Φj : Hm), ms a' < ms a → Iv a' Φj → Z p l e R s m args below meth c Q G nL pc (lvf a') [] Φj sz cells slots) → Z p l e R s m args below meth c Q G nL pc (lvf a) [] Φi sz cells slots) (a0 : α) (h0 : Iv a0 Φ) : Z p l e R s m args below meth c Q G nL pc (lvf a0) [] Φ sz cells slots := by
  have h : ∀ (n : Nat) (a : α) (Φi : Hm), ms a = n → Iv a Φi → Z p l e R s m args below meth c Q G nL pc (lvf a) [] Φi sz cells slots := by
    intro n
    induction n using Nat.strongRecOn with
    | _ n ih =>
      intro a Φi hn hi
      exact body a Φi hi (fun a' Φj h1 h2 => ih (ms a') (by omega) a' Φj rfl h2)
  exact h (ms a0) a0 Φ rfl h0

/-- appendInput: its answer and the input's length behind it -/
noncomputable def apV (n : Nat) (v : Option Value) (n1 : Nat) : Prop := (680 < n ∧ v = some (.int (-1)) ∧ n1 = n) ∨ (n ≤ 680 ∧ v = some (.int (nI (n + 20))) ∧ n1 = n + 20)
/-- truncateInput -/
noncomputable def trV (n : Nat) (a : Int32) (v : Option Value) (n1 : Nat) : Prop := (∃ j, j ≤ n ∧ a = nI j ∧ v = some (.int (nI j)) ∧ n1 = j) ∨ ((∀ j, j ≤ n → a ≠ nI j) ∧ v = some (.int (-1)) ∧ n1 = n)
theorem apV_fun {n n1 n2 : Nat} {v w : Option Value} (h : apV n v n1) (h2 : apV n w n2) : v = w ∧ n1 = n2 := by
  rcases h with ⟨a, rfl, rfl⟩ | ⟨a, rfl, rfl⟩ <;> rcases h2 with ⟨b, rfl, rfl⟩ | ⟨b, rfl, rfl⟩
  · exact ⟨rfl, rfl⟩
  · omega
  · omega
  · exact ⟨rfl, rfl⟩
theorem trV_fun {n n1 n2 : Nat} {a : Int32} {v w : Option Value} (hn : n ≤ 700) (h : trV n a v n1) (h2 : trV n a w n2) : v = w ∧ n1 = n2 := by
  rcases h with ⟨j, hj, ea, rfl, rfl⟩ | ⟨hj, rfl, rfl⟩ <;> rcases h2 with ⟨i, hi, eb, rfl, rfl⟩ | ⟨hi, rfl, rfl⟩
  · have : n1 = n2 := (nI_eq (a := n1) (b := n2) (by omega) (by omega)).mp (ea.symm.trans eb)
    subst this
    exact ⟨rfl, rfl⟩
  · exact absurd ea (hi _ hj)
  · exact absurd eb (hj _ hi)
  · exact ⟨rfl, rfl⟩
theorem tr_neg {a : Int32} {n : Nat} (hn : n ≤ 700) (h : a < 0) : ∀ j, j ≤ n → a ≠ nI j := by
  intro j hj e
  subst e
  exact absurd h (nI_pos (by omega))
theorem tr_big {m n : Nat} (hm : m < 2 ^ 31) (hn : n ≤ 700) (h : ¬ m ≤ n) : ∀ j, j ≤ n → nI m ≠ nI j := by
  intro j hj e
  have : m = j := (nI_eq (a := m) (b := j) hm (by omega)).mp e
  omega


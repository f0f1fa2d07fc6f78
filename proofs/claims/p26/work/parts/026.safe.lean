theorem dX6_fail_0 : decode cX6_fail 0 = .ok (.aload_n 0, 1) := by decide +kernel
theorem dX6_fail_1 : decode cX6_fail 1 = .ok (.iload_n 1, 1) := by decide +kernel
theorem dX6_fail_2 : decode cX6_fail 2 = .ok (.putfield 18, 3) := by decide +kernel
theorem dX6_fail_5 : decode cX6_fail 5 = .ok (.aload_n 0, 1) := by decide +kernel
theorem dX6_fail_6 : decode cX6_fail 6 = .ok (.aload_n 0, 1) := by decide +kernel
theorem dX6_fail_7 : decode cX6_fail 7 = .ok (.getfield 31, 3) := by decide +kernel
theorem dX6_fail_10 : decode cX6_fail 10 = .ok (.putfield 22, 3) := by decide +kernel
theorem dX6_fail_13 : decode cX6_fail 13 = .ok (.iconst 0, 1) := by decide +kernel
theorem dX6_fail_14 : decode cX6_fail 14 = .ok (.ireturn, 1) := by decide +kernel
theorem dX6_kindOf_0 : decode cX6_kindOf 0 = .ok (.iload_n 0, 1) := by decide +kernel
theorem dX6_kindOf_1 : decode cX6_kindOf 1 = .ok (.iconst (-1), 1) := by decide +kernel
theorem dX6_kindOf_2 : decode cX6_kindOf 2 = .ok (.if_icmp .ne 5, 3) := by decide +kernel
theorem dX6_kindOf_5 : decode cX6_kindOf 5 = .ok (.iconst 0, 1) := by decide +kernel
theorem dX6_kindOf_6 : decode cX6_kindOf 6 = .ok (.ireturn, 1) := by decide +kernel
theorem dX6_kindOf_7 : decode cX6_kindOf 7 = .ok (.iload_n 0, 1) := by decide +kernel
theorem dX6_kindOf_8 : decode cX6_kindOf 8 = .ok (.bipush 32, 2) := by decide +kernel
theorem dX6_kindOf_10 : decode cX6_kindOf 10 = .ok (.if_icmp .eq 9, 3) := by decide +kernel
theorem dX6_kindOf_13 : decode cX6_kindOf 13 = .ok (.iload_n 0, 1) := by decide +kernel
theorem dX6_kindOf_14 : decode cX6_kindOf 14 = .ok (.bipush 10, 2) := by decide +kernel
theorem dX6_kindOf_16 : decode cX6_kindOf 16 = .ok (.if_icmp .ne 5, 3) := by decide +kernel
theorem dX6_kindOf_19 : decode cX6_kindOf 19 = .ok (.iconst 1, 1) := by decide +kernel
theorem dX6_kindOf_20 : decode cX6_kindOf 20 = .ok (.ireturn, 1) := by decide +kernel
theorem dX6_kindOf_21 : decode cX6_kindOf 21 = .ok (.iload_n 0, 1) := by decide +kernel
theorem dX6_kindOf_22 : decode cX6_kindOf 22 = .ok (.bipush 97, 2) := by decide +kernel
theorem dX6_kindOf_24 : decode cX6_kindOf 24 = .ok (.if_icmp .lt 11, 3) := by decide +kernel
theorem dX6_kindOf_27 : decode cX6_kindOf 27 = .ok (.iload_n 0, 1) := by decide +kernel
theorem dX6_kindOf_28 : decode cX6_kindOf 28 = .ok (.bipush 122, 2) := by decide +kernel
theorem dX6_kindOf_30 : decode cX6_kindOf 30 = .ok (.if_icmp .gt 5, 3) := by decide +kernel
theorem dX6_kindOf_33 : decode cX6_kindOf 33 = .ok (.iconst 2, 1) := by decide +kernel
theorem dX6_kindOf_34 : decode cX6_kindOf 34 = .ok (.ireturn, 1) := by decide +kernel
theorem dX6_kindOf_35 : decode cX6_kindOf 35 = .ok (.iload_n 0, 1) := by decide +kernel
theorem dX6_kindOf_36 : decode cX6_kindOf 36 = .ok (.bipush 48, 2) := by decide +kernel
theorem dX6_kindOf_38 : decode cX6_kindOf 38 = .ok (.if_icmp .lt 11, 3) := by decide +kernel
theorem dX6_kindOf_41 : decode cX6_kindOf 41 = .ok (.iload_n 0, 1) := by decide +kernel
theorem dX6_kindOf_42 : decode cX6_kindOf 42 = .ok (.bipush 57, 2) := by decide +kernel
theorem dX6_kindOf_44 : decode cX6_kindOf 44 = .ok (.if_icmp .gt 5, 3) := by decide +kernel
theorem dX6_kindOf_47 : decode cX6_kindOf 47 = .ok (.iconst 3, 1) := by decide +kernel
theorem dX6_kindOf_48 : decode cX6_kindOf 48 = .ok (.ireturn, 1) := by decide +kernel
theorem dX6_kindOf_49 : decode cX6_kindOf 49 = .ok (.iload_n 0, 1) := by decide +kernel
theorem dX6_kindOf_50 : decode cX6_kindOf 50 = .ok (.bipush 59, 2) := by decide +kernel
theorem dX6_kindOf_52 : decode cX6_kindOf 52 = .ok (.if_icmp .ne 7, 3) := by decide +kernel
theorem dX6_kindOf_55 : decode cX6_kindOf 55 = .ok (.iconst 4, 1) := by decide +kernel
theorem dX6_kindOf_56 : decode cX6_kindOf 56 = .ok (.goto 4, 3) := by decide +kernel
theorem dX6_kindOf_59 : decode cX6_kindOf 59 = .ok (.iconst 5, 1) := by decide +kernel
theorem dX6_kindOf_60 : decode cX6_kindOf 60 = .ok (.ireturn, 1) := by decide +kernel
/-! the text of a configuration, by itself: signs, tokens, numbers, words -/
theorem upd_ne {f : Nat → Int32} {i j : Nat} {v : Int32} (h : ¬ j = i) : upd f i v j = f j := if_neg h
theorem upd_at {f : Nat → Int32} {i : Nat} {v : Int32} : upd f i v i = v := if_pos rfl
noncomputable def kSem (s : Int32) : Nat := if s = 59 then 4 else 5
noncomputable def kNum (s : Int32) : Nat := if s < 48 then kSem s else if 57 < s then kSem s else 3
/-- the kind of a sign: 0 end, 1 blank, 2 letter, 3 digit, 4 semicolon, 5 none -/
noncomputable def kO (s : Int32) : Nat := if s = -1 then 0 else if s = 32 then 1 else if s = 10 then 1 else if s < 97 then kNum s else if 122 < s then kNum s else 2
theorem kSem_c (s : Int32) : kSem s = 4 ∨ kSem s = 5 := by
  unfold kSem
  split
  · exact Or.inl rfl
  · exact Or.inr rfl
theorem kNum_c (s : Int32) : (kNum s = 3 ∧ 48 ≤ s.toInt ∧ s.toInt ≤ 57) ∨ ((kNum s = 4 ∨ kNum s = 5) ∧ ¬ (48 ≤ s.toInt ∧ s.toInt ≤ 57)) := by
  have e1 : (48 : Int32).toInt = 48 := by decide
  have e2 : (57 : Int32).toInt = 57 := by decide
  unfold kNum
  by_cases h1 : s < 48
  · rw [if_pos h1]
    rw [Int32.lt_iff_toInt_lt, e1] at h1
    exact Or.inr ⟨kSem_c s, by omega⟩
  · rw [if_neg h1]
    rw [Int32.lt_iff_toInt_lt, e1] at h1
    by_cases h2 : 57 < s
    · rw [if_pos h2]
      rw [Int32.lt_iff_toInt_lt, e2] at h2
      exact Or.inr ⟨kSem_c s, by omega⟩
    · rw [if_neg h2]
      rw [Int32.lt_iff_toInt_lt, e2] at h2
      exact Or.inl ⟨rfl, by omega, by omega⟩
/-- the kinds, by the number of the sign -/
theorem kO_c (s : Int32) : (kO s = 0 ∧ s = -1) ∨ (kO s = 1 ∧ (s = 32 ∨ s = 10)) ∨ (kO s = 2 ∧ 97 ≤ s.toInt ∧ s.toInt ≤ 122) ∨ (kO s = 3 ∧ 48 ≤ s.toInt ∧ s.toInt ≤ 57) ∨ ((kO s = 4 ∨ kO s = 5) ∧ s ≠ -1 ∧ s ≠ 32 ∧ s ≠ 10 ∧ ¬ (97 ≤ s.toInt ∧ s.toInt ≤ 122) ∧ ¬ (48 ≤ s.toInt ∧ s.toInt ≤ 57)) := by
  have e1 : (97 : Int32).toInt = 97 := by decide
  have e2 : (122 : Int32).toInt = 122 := by decide
  unfold kO
  by_cases h1 : s = -1
  · rw [if_pos h1]
    exact Or.inl ⟨rfl, h1⟩
  rw [if_neg h1]
  by_cases h2 : s = 32
  · rw [if_pos h2]
    exact Or.inr (Or.inl ⟨rfl, Or.inl h2⟩)
  rw [if_neg h2]
  by_cases h3 : s = 10
  · rw [if_pos h3]
    exact Or.inr (Or.inl ⟨rfl, Or.inr h3⟩)
  rw [if_neg h3]
  by_cases h4 : s < 97
  · rw [if_pos h4]
    rw [Int32.lt_iff_toInt_lt, e1] at h4
    rcases kNum_c s with ⟨a, b, c⟩ | ⟨a, b⟩
    · exact Or.inr (Or.inr (Or.inr (Or.inl ⟨a, b, c⟩)))
    · exact Or.inr (Or.inr (Or.inr (Or.inr ⟨a, h1, h2, h3, by omega, b⟩)))
  rw [if_neg h4]
  rw [Int32.lt_iff_toInt_lt, e1] at h4
  by_cases h5 : 122 < s
  · rw [if_pos h5]
    rw [Int32.lt_iff_toInt_lt, e2] at h5
    rcases kNum_c s with ⟨a, b, c⟩ | ⟨a, b⟩
    · exact Or.inr (Or.inr (Or.inr (Or.inl ⟨a, b, c⟩)))
    · exact Or.inr (Or.inr (Or.inr (Or.inr ⟨a, h1, h2, h3, by omega, b⟩)))
  rw [if_neg h5]
  rw [Int32.lt_iff_toInt_lt, e2] at h5
  exact Or.inr (Or.inr (Or.inl ⟨rfl, by omega, by omega⟩))
theorem kO_0 {s : Int32} : kO s = 0 ↔ s = -1 := by
  constructor
  · intro h
    rcases kO_c s with ⟨_, a⟩ | ⟨a, _⟩ | ⟨a, _⟩ | ⟨a, _⟩ | ⟨a | a, _⟩
    · exact a
    all_goals omega
  · intro h
    subst h
    decide
theorem kO_1 {s : Int32} : kO s = 1 ↔ s = 32 ∨ s = 10 := by
  constructor
  · intro h
    rcases kO_c s with ⟨a, _⟩ | ⟨_, a⟩ | ⟨a, _⟩ | ⟨a, _⟩ | ⟨a | a, _⟩
    · omega
    · exact a
    all_goals omega
  · intro h
    rcases h with rfl | rfl <;> decide
theorem kO_2 {s : Int32} : kO s = 2 ↔ 97 ≤ s.toInt ∧ s.toInt ≤ 122 := by
  constructor
  · intro h
    rcases kO_c s with ⟨a, _⟩ | ⟨a, _⟩ | ⟨_, a⟩ | ⟨a, _⟩ | ⟨a | a, _⟩
    · omega
    · omega
    · exact a
    all_goals omega
  · intro h
    have f1 : (-1 : Int32).toInt = -1 := by decide
    have f2 : (32 : Int32).toInt = 32 := by decide
    have f3 : (10 : Int32).toInt = 10 := by decide
    rcases kO_c s with ⟨_, rfl⟩ | ⟨_, rfl | rfl⟩ | ⟨a, _⟩ | ⟨_, _, _⟩ | ⟨_, _, _, _, a, _⟩
    · omega
    · omega
    · omega
    · exact a
    · omega
    · exact absurd h a
theorem kO_3 {s : Int32} : kO s = 3 ↔ 48 ≤ s.toInt ∧ s.toInt ≤ 57 := by
  constructor
  · intro h
    rcases kO_c s with ⟨a, _⟩ | ⟨a, _⟩ | ⟨a, _⟩ | ⟨_, a⟩ | ⟨a | a, _⟩
    · omega
    · omega
    · omega
    · exact a
    all_goals omega
  · intro h
    have f1 : (-1 : Int32).toInt = -1 := by decide
    have f2 : (32 : Int32).toInt = 32 := by decide
    have f3 : (10 : Int32).toInt = 10 := by decide
    rcases kO_c s with ⟨_, rfl⟩ | ⟨_, rfl | rfl⟩ | ⟨_, _, _⟩ | ⟨a, _⟩ | ⟨_, _, _, _, _, a⟩
    · omega
    · omega
    · omega
    · omega
    · exact a
    · exact absurd h a
theorem kO_4 {s : Int32} (h : s = 59) : kO s = 4 := by
  subst h
  decide
theorem kSem_4 {s : Int32} (h : kSem s = 4) : s = 59 := by
  unfold kSem at h
  by_cases h1 : s = 59
  · exact h1
  · rw [if_neg h1] at h
    omega
theorem kNum_4 {s : Int32} (h : kNum s = 4) : s = 59 := by
  unfold kNum at h
  by_cases h1 : s < 48
  · rw [if_pos h1] at h
    exact kSem_4 h
  · rw [if_neg h1] at h
    by_cases h2 : 57 < s
    · rw [if_pos h2] at h
      exact kSem_4 h
    · rw [if_neg h2] at h
      omega
theorem kO_is4 {s : Int32} (h : kO s = 4) : s = 59 := by
  unfold kO at h
  by_cases h1 : s = -1
  · rw [if_pos h1] at h
    omega
  rw [if_neg h1] at h
  by_cases h2 : s = 32
  · rw [if_pos h2] at h
    omega
  rw [if_neg h2] at h
  by_cases h3 : s = 10
  · rw [if_pos h3] at h
    omega
  rw [if_neg h3] at h
  by_cases h4 : s < 97
  · rw [if_pos h4] at h
    exact kNum_4 h
  rw [if_neg h4] at h
  by_cases h5 : 122 < s
  · rw [if_pos h5] at h
    exact kNum_4 h
  rw [if_neg h5] at h
  omega
theorem kO_5 {s : Int32} (h0 : ¬ kO s = 0) (h1 : ¬ kO s = 1) (h2 : ¬ kO s = 2) (h3 : ¬ kO s = 3) (h4 : ¬ s = 59) : kO s = 5 := by
  rcases kO_c s with ⟨a, _⟩ | ⟨a, _⟩ | ⟨a, _⟩ | ⟨a, _⟩ | ⟨a | a, _⟩
  · exact absurd a h0
  · exact absurd a h1
  · exact absurd a h2
  · exact absurd a h3
  · exact absurd (kO_is4 a) h4
  · exact a
/-- a token: behind p, of kind k, from s to e -/
noncomputable def Tk (b : Nat → Int32) (p k s e : Nat) : Prop :=
  (p ≤ s ∧ (∀ i, p ≤ i → i < s → kO (b i) = 1) ∧ ¬ kO (b s) = 1) ∧
  ((kO (b s) = 0 ∧ k = 0 ∧ e = s) ∨ ((kO (b s) = 4 ∨ kO (b s) = 5) ∧ k = kO (b s) ∧ e = s + 1) ∨
   ((kO (b s) = 2 ∨ kO (b s) = 3) ∧ s < e ∧ (∀ i, s ≤ i → i < e → kO (b i) = kO (b s)) ∧ ¬ kO (b e) = kO (b s) ∧ k = if (if kO (b s) = 3 then 6 else 12) < e - s then 5 else kO (b s)))
theorem Tk_s {b : Nat → Int32} {p k s e k2 s2 e2 : Nat} (h : Tk b p k s e) (h2 : Tk b p k2 s2 e2) : s = s2 := by
  obtain ⟨⟨a1, a2, a3⟩, -⟩ := h
  obtain ⟨⟨c1, c2, c3⟩, -⟩ := h2
  rcases Nat.lt_trichotomy s s2 with q | q | q
  · exact absurd (c2 s a1 q) a3
  · exact q
  · exact absurd (a2 s2 c1 q) c3
theorem Tk_fun {b : Nat → Int32} {p k s e k2 s2 e2 : Nat} (h : Tk b p k s e) (h2 : Tk b p k2 s2 e2) : k = k2 ∧ s = s2 ∧ e = e2 := by
  have hs := Tk_s h h2
  subst hs
  obtain ⟨-, h⟩ := h
  obtain ⟨-, h2⟩ := h2
  rcases h with ⟨a, rfl, rfl⟩ | ⟨a, rfl, rfl⟩ | ⟨a, a1, a2, a3, rfl⟩
  · rcases h2 with ⟨c, rfl, rfl⟩ | ⟨c, rfl, rfl⟩ | ⟨c, c1, c2, c3, rfl⟩
    · exact ⟨rfl, rfl, rfl⟩
    · omega
    · omega
  · rcases h2 with ⟨c, rfl, rfl⟩ | ⟨c, rfl, rfl⟩ | ⟨c, c1, c2, c3, rfl⟩
    · omega
    · exact ⟨rfl, rfl, rfl⟩
    · omega
  · rcases h2 with ⟨c, rfl, rfl⟩ | ⟨c, rfl, rfl⟩ | ⟨c, c1, c2, c3, rfl⟩
    · omega
    · omega
    · have he : e = e2 := by
        rcases Nat.lt_trichotomy e e2 with q | q | q
        · exact absurd (c2 e (by omega) q) a3
        · exact q
        · exact absurd (a2 e2 (by omega) q) c3
      subst he
      exact ⟨rfl, rfl, rfl⟩
noncomputable def tk (b : Nat → Int32) (p : Nat) : Nat × Nat × Nat := Classical.epsilon (fun t : Nat × Nat × Nat => Tk b p t.1 t.2.1 t.2.2)
theorem tk_eq {b : Nat → Int32} {p k s e : Nat} (h : Tk b p k s e) : tk b p = (k, s, e) := by
  have h1 : Tk b p (tk b p).1 (tk b p).2.1 (tk b p).2.2 := Classical.epsilon_spec (p := fun t : Nat × Nat × Nat => Tk b p t.1 t.2.1 t.2.2) ⟨(k, s, e), h⟩
  obtain ⟨e1, e2, e3⟩ := Tk_fun h1 h
  exact Prod.ext e1 (Prod.ext e2 e3)
/-- the number that the m digits at s make -/
noncomputable def nv (b : Nat → Int32) (s : Nat) : Nat → Nat
  | 0 => 0
  | m + 1 => 10 * nv b s m + ((b (s + m)).toNatClampNeg - 48)
theorem nv_lt (b : Nat → Int32) (s : Nat) : ∀ m, (∀ i, i < m → kO (b (s + i)) = 3) → nv b s m < 10 ^ m := by
  intro m
  induction m with
  | zero => intro _; exact Nat.lt_of_lt_of_le Nat.zero_lt_one (Nat.le_refl _)
  | succ m ih =>
    intro h
    have h1 := ih (fun i hi => h i (by omega))
    have h2 := kO_3.mp (h m (by omega))
    have h3 : (b (s + m)).toNatClampNeg ≤ 57 := by
      show (b (s + m)).toInt.toNat ≤ 57
      omega
    show 10 * nv b s m + _ < 10 ^ (m + 1)
    rw [Nat.pow_succ]
    omega
/-- the letters of a word, packed as the reference packs them -/
noncomputable def wv (b : Nat → Int32) (s : Nat) : Nat → Nat
  | 0 => 0
  | m + 1 => 32 * wv b s m + ((b (s + m)).toNatClampNeg - 96)
theorem wv_lt (b : Nat → Int32) (s : Nat) : ∀ m, (∀ i, i < m → kO (b (s + i)) = 2) → wv b s m < 32 ^ m := by
  intro m
  induction m with
  | zero => intro _; exact Nat.lt_of_lt_of_le Nat.zero_lt_one (Nat.le_refl _)
  | succ m ih =>
    intro h
    have h1 := ih (fun i hi => h i (by omega))
    have h2 := kO_2.mp (h m (by omega))
    have h3 : (b (s + m)).toNatClampNeg ≤ 122 := by
      show (b (s + m)).toInt.toNat ≤ 122
      omega
    show 32 * wv b s m + _ < 32 ^ (m + 1)
    rw [Nat.pow_succ]
    omega
/-- a word of a list, as its letters' numbers -/
noncomputable def pkL (w : List Nat) : Nat := w.foldl (fun a c => 32 * a + (c - 96)) 0
noncomputable def IsW (b : Nat → Int32) (s m : Nat) (w : List Nat) : Prop := m = w.length ∧ ∀ i, i < m → b (s + i) = nI (w.getD i 0)
theorem pkL_snoc (w : List Nat) (c : Nat) : pkL (w ++ [c]) = 32 * pkL w + (c - 96) := by
  unfold pkL
  rw [List.foldl_append]
  rfl
noncomputable def lett (w : List Nat) : Prop := ∀ c, c ∈ w → 97 ≤ c ∧ c ≤ 122
/-- the packed number tells the word -/
theorem wv_inj (b : Nat → Int32) (s : Nat) : ∀ (m : Nat), (∀ i, i < m → kO (b (s + i)) = 2) → ∀ (w : List Nat), lett w → wv b s m = pkL w → IsW b s m w := by
  intro m
  induction m with
  | zero =>
    intro _ w hw h
    rcases List.eq_nil_or_concat w with rfl | ⟨w, c, rfl⟩
    · exact ⟨rfl, fun i hi => absurd hi (Nat.not_lt_zero _)⟩
    · have h1 := hw c (by simp)
      rw [List.concat_eq_append, pkL_snoc] at h
      have h2 : wv b s 0 = 0 := rfl
      omega
  | succ m ih =>
    intro hb w hw h
    have h2 := kO_2.mp (hb m (by omega))
    have h3 : ((b (s + m)).toNatClampNeg : Int) = (b (s + m)).toInt := by
      show ((b (s + m)).toInt.toNat : Int) = _
      omega
    have h4 : wv b s (m + 1) = 32 * wv b s m + ((b (s + m)).toNatClampNeg - 96) := rfl
    rcases List.eq_nil_or_concat w with rfl | ⟨w, c, rfl⟩
    · have h5 : pkL [] = 0 := rfl
      omega
    · rw [List.concat_eq_append] at hw h ⊢
      rw [pkL_snoc] at h
      have h1 := hw c (by simp)
      have h6 : wv b s m = pkL w := by omega
      have h7 : (b (s + m)).toNatClampNeg = c := by omega
      obtain ⟨h8, h9⟩ := ih (fun i hi => hb i (by omega)) w (fun c hc => hw c (by simp [hc])) h6
      refine ⟨by simp [h8], fun i hi => ?_⟩
      by_cases hi2 : i = m
      · subst hi2
        have e1 : (w ++ [c]).getD i 0 = c := by rw [List.getD_eq_getElem?_getD, List.getElem?_append_right (by omega), h8]; simp
        rw [e1]
        apply Int32.toInt_inj.mp
        rw [nI_toInt (by omega)]
        omega
      · have e1 : (w ++ [c]).getD i 0 = w.getD i 0 := by rw [List.getD_eq_getElem?_getD, List.getD_eq_getElem?_getD, List.getElem?_append_left (by omega)]
        rw [e1]
        exact h9 i (by omega)
theorem wv_of (b : Nat → Int32) (s : Nat) : ∀ (m : Nat) (w : List Nat), lett w → IsW b s m w → wv b s m = pkL w := by
  intro m
  induction m with
  | zero =>
    intro w _ h
    have : w = [] := List.length_eq_zero_iff.mp h.1.symm
    subst this
    rfl
  | succ m ih =>
    intro w hw h
    rcases List.eq_nil_or_concat w with rfl | ⟨w, c, rfl⟩
    · exact absurd h.1 (by simp)
    · rw [List.concat_eq_append] at hw h ⊢
      have hl : m = w.length := by have := h.1; simp at this; exact this
      have h1 := hw c (by simp)
      have h2 := ih w (fun c hc => hw c (by simp [hc])) ⟨hl, fun i hi => by
        have h3 := h.2 i (by omega)
        rw [List.getD_eq_getElem?_getD, List.getElem?_append_left (by omega)] at h3
        rw [List.getD_eq_getElem?_getD]
        exact h3⟩
      have h3 := h.2 m (by omega)
      rw [List.getD_eq_getElem?_getD, List.getElem?_append_right (by omega), hl] at h3
      simp only [Nat.sub_self, List.getElem?_cons_zero, Option.getD_some] at h3
      rw [pkL_snoc]
      show 32 * wv b s m + ((b (s + m)).toNatClampNeg - 96) = _
      rw [h2, hl, h3, nI_clamp (by omega)]

/-! the statements of a text: what they do to a configuration c (the rows of 307 ints, as the reference keeps them), where they end, which error they have -/
noncomputable def stW : List (List Nat) := [[115, 97, 109, 112, 108, 105, 110, 103], [98, 117, 100, 103, 101, 116], [97, 99, 116, 105, 118, 101], [105, 110, 97, 99, 116, 105, 118, 101], [114, 101, 102, 114, 101, 115, 104], [45], [108, 105, 102, 101, 116, 105, 109, 101], [108, 101, 110, 103, 116, 104], [97, 115, 115, 117, 109, 101], [116, 101, 109, 112, 108, 97, 116, 101], [117, 115, 101], [100, 114, 111, 112]]
noncomputable def fdW : List (List Nat) := [[115, 111, 117, 114, 99, 101], [100, 101, 115, 116, 105, 110, 97, 116, 105, 111, 110], [112, 111, 114, 116], [112, 114, 111, 116, 111, 99, 111, 108], [112, 97, 99, 107, 101, 116, 115], [98, 121, 116, 101, 115], [102, 105, 114, 115, 116], [108, 97, 115, 116], [114, 97, 116, 101]]
/-- the place of the m signs at s in a list of words -/
noncomputable def WI (L : List (List Nat)) (b : Nat → Int32) (s m : Nat) (r : Int32) : Prop := (∃ j, j < L.length ∧ r = nI j ∧ IsW b s m (L.getD j []) ∧ ∀ i, i < j → ¬ IsW b s m (L.getD i [])) ∨ (r = -1 ∧ ∀ i, i < L.length → ¬ IsW b s m (L.getD i []))
theorem WI_fun {L : List (List Nat)} {b : Nat → Int32} {s m : Nat} {r q : Int32} (h : WI L b s m r) (h2 : WI L b s m q) : r = q := by
  rcases h with ⟨j, a1, a2, a3, a4⟩ | ⟨a1, a2⟩ <;> rcases h2 with ⟨i, c1, c2, c3, c4⟩ | ⟨c1, c2⟩
  · rcases Nat.lt_trichotomy j i with q | q | q
    · exact absurd a3 (c4 j q)
    · subst q
      rw [a2, c2]
    · exact absurd c3 (a4 i q)
  · exact absurd a3 (c2 j a1)
  · exact absurd c3 (a2 i c1)
  · rw [a1, c1]
theorem leastP {P : Nat → Prop} {n : Nat} (h : ∃ i, i < n ∧ P i) : ∃ i, i < n ∧ P i ∧ ∀ j, j < i → ¬ P j := by
  obtain ⟨i, hi, hp⟩ := h
  induction i using Nat.strongRecOn with
  | _ i ih =>
    by_cases h2 : ∃ j, j < i ∧ P j
    · obtain ⟨j, hj, hq⟩ := h2
      exact ih j hj (by omega) hq
    · exact ⟨i, hi, hp, fun j hj hq => h2 ⟨j, hj, hq⟩⟩
theorem WI_ex (L : List (List Nat)) (b : Nat → Int32) (s m : Nat) : ∃ r, WI L b s m r := by
  by_cases h : ∃ i, i < L.length ∧ IsW b s m (L.getD i [])
  · obtain ⟨j, h1, h2, h3⟩ := leastP h
    exact ⟨nI j, Or.inl ⟨j, h1, rfl, h2, h3⟩⟩
  · exact ⟨-1, Or.inr ⟨rfl, fun i hi hq => h ⟨i, hi, hq⟩⟩⟩
noncomputable def wi (L : List (List Nat)) (b : Nat → Int32) (s m : Nat) : Int32 := Classical.epsilon (fun r : Int32 => WI L b s m r)
theorem wi_eq {L : List (List Nat)} {b : Nat → Int32} {s m : Nat} {r : Int32} (h : WI L b s m r) : wi L b s m = r := WI_fun (Classical.epsilon_spec (p := fun r : Int32 => WI L b s m r) ⟨r, h⟩) h
/-- the word at hand: of kind k, from s to e -/
noncomputable def wd (L : List (List Nat)) (b : Nat → Int32) (k s e : Nat) : Int32 := if k = 2 then wi L b s (e - s) else -1
theorem wd_no {L : List (List Nat)} {b : Nat → Int32} {k s e : Nat} (h : ¬ k = 2) : wd L b k s e = -1 := if_neg h
theorem wd_of {L : List (List Nat)} {b : Nat → Int32} {k s e : Nat} {r : Int32} (hk : k = 2) (h : WI L b s (e - s) r) : wd L b k s e = r := by
  unfold wd
  rw [if_pos hk]
  exact wi_eq h
/-- a number that must lie from lo to hi: error, place, number -/
noncomputable def numAt (b : Nat → Int32) (p : Nat) (lo hi : Int) : Nat × Nat × Nat :=
  if (tk b p).1 = 3 then (if lo ≤ (nv b (tk b p).2.1 ((tk b p).2.2 - (tk b p).2.1) : Int) ∧ (nv b (tk b p).2.1 ((tk b p).2.2 - (tk b p).2.1) : Int) ≤ hi then (0, (tk b p).2.2, nv b (tk b p).2.1 ((tk b p).2.2 - (tk b p).2.1)) else (2, (tk b p).2.1, 0)) else (1, (tk b p).2.1, 0)
theorem numAt_1 {b : Nat → Int32} {p k s e : Nat} {lo hi : Int} (h : Tk b p k s e) (hk : ¬ k = 3) : numAt b p lo hi = (1, s, 0) := by
  unfold numAt
  rw [tk_eq h]
  exact if_neg hk
theorem numAt_2 {b : Nat → Int32} {p s e : Nat} {lo hi : Int} (h : Tk b p 3 s e) (hr : ¬ (lo ≤ (nv b s (e - s) : Int) ∧ (nv b s (e - s) : Int) ≤ hi)) : numAt b p lo hi = (2, s, 0) := by
  unfold numAt
  rw [tk_eq h]
  show (if 3 = 3 then _ else _) = _
  rw [if_pos rfl]
  exact if_neg hr
theorem numAt_0 {b : Nat → Int32} {p s e : Nat} {lo hi : Int} (h : Tk b p 3 s e) (h1 : lo ≤ (nv b s (e - s) : Int)) (h2 : (nv b s (e - s) : Int) ≤ hi) : numAt b p lo hi = (0, e, nv b s (e - s)) := by
  unfold numAt
  rw [tk_eq h]
  show (if 3 = 3 then _ else _) = _
  rw [if_pos rfl]
  exact if_pos ⟨h1, h2⟩
noncomputable def semi (b : Nat → Int32) (p : Nat) : Nat × Nat := if (tk b p).1 = 4 then (0, (tk b p).2.2) else (1, (tk b p).2.1)
theorem semi_0 {b : Nat → Int32} {p s e : Nat} (h : Tk b p 4 s e) : semi b p = (0, e) := by
  unfold semi
  rw [tk_eq h]
  exact if_pos rfl
theorem semi_1 {b : Nat → Int32} {p k s e : Nat} (h : Tk b p k s e) (hk : ¬ k = 4) : semi b p = (1, s) := by
  unfold semi
  rw [tk_eq h]
  exact if_neg hk
abbrev Cf : Type := Nat → Int32
abbrev RS : Type := Nat × Nat × Cf
/-- a semicolon behind it -/
noncomputable def endA (b : Nat → Int32) (r : RS) : RS := if r.1 = 0 then ((semi b r.2.1).1, (semi b r.2.1).2, r.2.2) else r
theorem endA_e {b : Nat → Int32} {er q : Nat} {c : Cf} (h : ¬ er = 0) : endA b (er, q, c) = (er, q, c) := if_neg h
theorem endA_0 {b : Nat → Int32} {q er q2 : Nat} {c : Cf} (h : semi b q = (er, q2)) : endA b (0, q, c) = (er, q2, c) := by
  unfold endA
  rw [if_pos rfl]
  show ((semi b q).1, (semi b q).2, c) = _
  rw [h]
noncomputable def loS (w : Nat) : Int := ([1, 1, 1, 1, 1, 1, 1, 256, 1] : List Int).getD w 0
noncomputable def hiS (w : Nat) : Int := ([1024, 1000, 10000, 10000, 1000, 100000, 100000, 600, 1024] : List Int).getD w 0
noncomputable def setA (b : Nat → Int32) (p w : Nat) (c : Cf) : RS := if (numAt b p (loS w) (hiS w)).1 = 0 then (0, (numAt b p (loS w) (hiS w)).2.1, upd c w (nI (numAt b p (loS w) (hiS w)).2.2)) else ((numAt b p (loS w) (hiS w)).1, (numAt b p (loS w) (hiS w)).2.1, c)
theorem setA_0 {b : Nat → Int32} {p w e v : Nat} {c : Cf} (h : numAt b p (loS w) (hiS w) = (0, e, v)) : setA b p w c = (0, e, upd c w (nI v)) := by
  unfold setA
  rw [h]
  exact if_pos rfl
theorem setA_e {b : Nat → Int32} {p w er s v : Nat} {c : Cf} (h : numAt b p (loS w) (hiS w) = (er, s, v)) (he : ¬ er = 0) : setA b p w c = (er, s, c) := by
  unfold setA
  rw [h]
  exact if_neg he
/-- refresh has two numbers -/
noncomputable def refA (b : Nat → Int32) (p : Nat) (c : Cf) : RS := if (setA b p 4 c).1 = 0 then setA b (setA b p 4 c).2.1 5 (setA b p 4 c).2.2 else setA b p 4 c
noncomputable def useA (b : Nat → Int32) (p : Nat) (c : Cf) : RS := if (numAt b p 0 255).1 = 0 then (if (numAt b (numAt b p 0 255).2.1 0 ((c 10).toInt - 1)).1 = 0 then (0, (numAt b (numAt b p 0 255).2.1 0 ((c 10).toInt - 1)).2.1, upd c (51 + (numAt b p 0 255).2.2) (nI (numAt b (numAt b p 0 255).2.1 0 ((c 10).toInt - 1)).2.2)) else ((numAt b (numAt b p 0 255).2.1 0 ((c 10).toInt - 1)).1, (numAt b (numAt b p 0 255).2.1 0 ((c 10).toInt - 1)).2.1, c)) else ((numAt b p 0 255).1, (numAt b p 0 255).2.1, c)
noncomputable def drpA (b : Nat → Int32) (p : Nat) (c : Cf) : RS := if wd fdW b (tk b p).1 (tk b p).2.1 (tk b p).2.2 = -1 then (1, (tk b p).2.1, c) else (0, (tk b p).2.2, upd c 9 (c 9 &&& (((1 : Int32) <<< (wd fdW b (tk b p).1 (tk b p).2.1 (tk b p).2.2 &&& 31)) ^^^ (-1))))
/-- the fields of a template: m of them read, ms the set of them -/
noncomputable def tplA (b : Nat → Int32) : Nat → Nat → Cf → Nat → Int32 → RS
  | 0, p, c, _, _ => (1, p, c)
  | k + 1, p, c, m, ms =>
    if ¬ m = 0 ∧ (tk b p).1 = 4 then (0, (tk b p).2.2, upd (upd c (11 + (c 10).toNatClampNeg) (nI m)) 10 (c 10 + 1)) else
    if wd fdW b (tk b p).1 (tk b p).2.1 (tk b p).2.2 = -1 then (1, (tk b p).2.1, c) else
    if (ms >>> (wd fdW b (tk b p).1 (tk b p).2.1 (tk b p).2.2 &&& 31)) &&& 1 = 1 then (3, (tk b p).2.1, c) else
    tplA b k (tk b p).2.2 (upd c (15 + 9 * (c 10).toNatClampNeg + m) (wd fdW b (tk b p).1 (tk b p).2.1 (tk b p).2.2)) (m + 1) (ms ||| ((1 : Int32) <<< (wd fdW b (tk b p).1 (tk b p).2.1 (tk b p).2.2 &&& 31)))
/-- one statement; its first token is of kind k, from s to e -/
noncomputable def stK (b : Nat → Int32) (k s e : Nat) (c : Cf) : RS :=
  if wd stW b k s e = -1 then (1, s, c) else
  if wd stW b k s e = 9 then (if c 10 = 4 then (4, s, c) else tplA b 10 e c 0 0) else
  if wd stW b k s e = 10 then endA b (useA b e c) else
  if wd stW b k s e = 11 then endA b (drpA b e c) else
  if wd stW b k s e = 4 then endA b (refA b e c) else
  endA b (setA b e (wd stW b k s e).toNatClampNeg c)
/-- the text: error (0 for none), its place, how many statements, the configuration -/
noncomputable def txA (b : Nat → Int32) : Nat → Nat → Cf → Nat → Nat × Nat × Nat × Cf
  | 0, p, c, n => (1, p, n, c)
  | k + 1, p, c, n => if (tk b p).1 = 0 then (0, p, n, c) else if (stK b (tk b p).1 (tk b p).2.1 (tk b p).2.2 c).1 = 0 then txA b k (stK b (tk b p).1 (tk b p).2.1 (tk b p).2.2 c).2.1 (stK b (tk b p).1 (tk b p).2.1 (tk b p).2.2 c).2.2 (n + 1) else ((stK b (tk b p).1 (tk b p).2.1 (tk b p).2.2 c).1, (stK b (tk b p).1 (tk b p).2.1 (tk b p).2.2 c).2.1, n, (stK b (tk b p).1 (tk b p).2.1 (tk b p).2.2 c).2.2)
theorem txA_0 {b : Nat → Int32} {k p s e n : Nat} {c : Cf} (h : Tk b p 0 s e) : txA b (k + 1) p c n = (0, p, n, c) := by
  show (if (tk b p).1 = 0 then _ else _) = _
  rw [tk_eq h]
  exact if_pos rfl
theorem txA_s {b : Nat → Int32} {k p q s e n e2 : Nat} {c c2 : Cf} (h : Tk b p q s e) (hq : ¬ q = 0) (h1 : stK b q s e c = (0, e2, c2)) : txA b (k + 1) p c n = txA b k e2 c2 (n + 1) := by
  show (if (tk b p).1 = 0 then _ else _) = _
  rw [tk_eq h]
  show (if q = 0 then _ else if (stK b q s e c).1 = 0 then txA b k (stK b q s e c).2.1 (stK b q s e c).2.2 (n + 1) else _) = _
  rw [h1, if_neg hq]
  exact if_pos rfl
theorem txA_e {b : Nat → Int32} {k p q s e n er s2 : Nat} {c c2 : Cf} (h : Tk b p q s e) (hq : ¬ q = 0) (h1 : stK b q s e c = (er, s2, c2)) (he : ¬ er = 0) : txA b (k + 1) p c n = (er, s2, n, c2) := by
  show (if (tk b p).1 = 0 then _ else _) = _
  rw [tk_eq h]
  show (if q = 0 then _ else if (stK b q s e c).1 = 0 then _ else ((stK b q s e c).1, (stK b q s e c).2.1, n, (stK b q s e c).2.2)) = _
  rw [h1, if_neg hq]
  exact if_neg he
theorem tplA_0 {b : Nat → Int32} {k p s e m : Nat} {c : Cf} {ms : Int32} (h : Tk b p 4 s e) (hm : ¬ m = 0) : tplA b (k + 1) p c m ms = (0, e, upd (upd c (11 + (c 10).toNatClampNeg) (nI m)) 10 (c 10 + 1)) := by
  show (if ¬ m = 0 ∧ (tk b p).1 = 4 then _ else _) = _
  rw [tk_eq h]
  exact if_pos ⟨hm, rfl⟩
theorem tplA_1 {b : Nat → Int32} {k p q s e m : Nat} {c : Cf} {ms : Int32} (h : Tk b p q s e) (hm : ¬ (¬ m = 0 ∧ q = 4)) (hw : wd fdW b q s e = -1) : tplA b (k + 1) p c m ms = (1, s, c) := by
  show (if ¬ m = 0 ∧ (tk b p).1 = 4 then _ else _) = _
  rw [tk_eq h]
  show (if ¬ m = 0 ∧ q = 4 then _ else if wd fdW b q s e = -1 then _ else _) = _
  rw [if_neg hm]
  exact if_pos hw
theorem tplA_3 {b : Nat → Int32} {k p q s e m : Nat} {c : Cf} {ms r : Int32} (h : Tk b p q s e) (hm : ¬ (¬ m = 0 ∧ q = 4)) (hw : wd fdW b q s e = r) (hr : ¬ r = -1) (hb : (ms >>> (r &&& 31)) &&& 1 = 1) : tplA b (k + 1) p c m ms = (3, s, c) := by
  show (if ¬ m = 0 ∧ (tk b p).1 = 4 then _ else _) = _
  rw [tk_eq h]
  show (if ¬ m = 0 ∧ q = 4 then _ else if wd fdW b q s e = -1 then _ else if (ms >>> (wd fdW b q s e &&& 31)) &&& 1 = 1 then _ else _) = _
  rw [if_neg hm, hw, if_neg hr]
  exact if_pos hb
theorem tplA_s {b : Nat → Int32} {k p q s e m : Nat} {c : Cf} {ms r : Int32} (h : Tk b p q s e) (hm : ¬ (¬ m = 0 ∧ q = 4)) (hw : wd fdW b q s e = r) (hr : ¬ r = -1) (hb : ¬ (ms >>> (r &&& 31)) &&& 1 = 1) : tplA b (k + 1) p c m ms = tplA b k e (upd c (15 + 9 * (c 10).toNatClampNeg + m) r) (m + 1) (ms ||| ((1 : Int32) <<< (r &&& 31))) := by
  show (if ¬ m = 0 ∧ (tk b p).1 = 4 then _ else _) = _
  rw [tk_eq h]
  show (if ¬ m = 0 ∧ q = 4 then _ else if wd fdW b q s e = -1 then _ else if (ms >>> (wd fdW b q s e &&& 31)) &&& 1 = 1 then _ else tplA b k e (upd c (15 + 9 * (c 10).toNatClampNeg + m) (wd fdW b q s e)) (m + 1) (ms ||| ((1 : Int32) <<< (wd fdW b q s e &&& 31)))) = _
  rw [if_neg hm, hw, if_neg hr]
  exact if_neg hb
theorem drpA_1 {b : Nat → Int32} {p q s e : Nat} {c : Cf} (h : Tk b p q s e) (hw : wd fdW b q s e = -1) : drpA b p c = (1, s, c) := by
  unfold drpA
  rw [tk_eq h]
  exact if_pos hw
theorem drpA_0 {b : Nat → Int32} {p q s e : Nat} {c : Cf} {r : Int32} (h : Tk b p q s e) (hw : wd fdW b q s e = r) (hr : ¬ r = -1) : drpA b p c = (0, e, upd c 9 (c 9 &&& (((1 : Int32) <<< (r &&& 31)) ^^^ (-1)))) := by
  unfold drpA
  rw [tk_eq h]
  show (if wd fdW b q s e = -1 then _ else (0, e, upd c 9 (c 9 &&& (((1 : Int32) <<< (wd fdW b q s e &&& 31)) ^^^ (-1))))) = _
  rw [hw]
  exact if_neg hr
theorem useA_1 {b : Nat → Int32} {p er s v : Nat} {c : Cf} (h : numAt b p 0 255 = (er, s, v)) (he : ¬ er = 0) : useA b p c = (er, s, c) := by
  unfold useA
  rw [h]
  exact if_neg he
theorem useA_2 {b : Nat → Int32} {p e w er s v : Nat} {c : Cf} (h : numAt b p 0 255 = (0, e, w)) (h2 : numAt b e 0 ((c 10).toInt - 1) = (er, s, v)) (he : ¬ er = 0) : useA b p c = (er, s, c) := by
  unfold useA
  rw [h]
  show (if 0 = 0 then (if (numAt b e 0 ((c 10).toInt - 1)).1 = 0 then _ else ((numAt b e 0 ((c 10).toInt - 1)).1, (numAt b e 0 ((c 10).toInt - 1)).2.1, c)) else _) = _
  rw [h2, if_pos rfl]
  exact if_neg he
theorem useA_0 {b : Nat → Int32} {p e w e2 w2 : Nat} {c : Cf} (h : numAt b p 0 255 = (0, e, w)) (h2 : numAt b e 0 ((c 10).toInt - 1) = (0, e2, w2)) : useA b p c = (0, e2, upd c (51 + w) (nI w2)) := by
  unfold useA
  rw [h]
  show (if 0 = 0 then (if (numAt b e 0 ((c 10).toInt - 1)).1 = 0 then (0, (numAt b e 0 ((c 10).toInt - 1)).2.1, upd c (51 + w) (nI (numAt b e 0 ((c 10).toInt - 1)).2.2)) else _) else _) = _
  rw [h2, if_pos rfl]
  exact if_pos rfl
theorem refA_1 {b : Nat → Int32} {p er s : Nat} {c c2 : Cf} (h : setA b p 4 c = (er, s, c2)) (he : ¬ er = 0) : refA b p c = (er, s, c2) := by
  unfold refA
  rw [h]
  exact if_neg he
theorem refA_0 {b : Nat → Int32} {p e : Nat} {c c1 : Cf} {r : RS} (h : setA b p 4 c = (0, e, c1)) (h2 : setA b e 5 c1 = r) : refA b p c = r := by
  unfold refA
  rw [h]
  exact (if_pos rfl).trans h2
theorem nI_nm1x {n : Nat} (h : n < 2 ^ 31) : ¬ nI n = -1 := by
  intro e
  have h1 := congrArg Int32.toInt e
  rw [nI_toInt h, show (-1 : Int32).toInt = -1 from by decide] at h1
  omega
theorem stK_1 {b : Nat → Int32} {k s e : Nat} {c : Cf} (h : wd stW b k s e = -1) : stK b k s e c = (1, s, c) := if_pos h
theorem stK_t {b : Nat → Int32} {k s e : Nat} {c : Cf} {r : RS} (h : wd stW b k s e = 9) (h2 : (if c 10 = 4 then (4, s, c) else tplA b 10 e c 0 0) = r) : stK b k s e c = r := by
  unfold stK
  rw [h]
  exact h2
theorem stK_u {b : Nat → Int32} {k s e : Nat} {c : Cf} (h : wd stW b k s e = 10) : stK b k s e c = endA b (useA b e c) := by
  unfold stK
  rw [h]
  rfl
theorem stK_d {b : Nat → Int32} {k s e : Nat} {c : Cf} (h : wd stW b k s e = 11) : stK b k s e c = endA b (drpA b e c) := by
  unfold stK
  rw [h]
  rfl
theorem stK_r {b : Nat → Int32} {k s e : Nat} {c : Cf} (h : wd stW b k s e = 4) : stK b k s e c = endA b (refA b e c) := by
  unfold stK
  rw [h]
  rfl
theorem stK_s {b : Nat → Int32} {k s e w : Nat} {c : Cf} (h : wd stW b k s e = nI w) (hw : w < 9) (h4 : ¬ w = 4) : stK b k s e c = endA b (setA b e w c) := by
  unfold stK
  rw [h]
  have hj : ∀ j, j < 12 → (nI w = nI j ↔ w = j) := fun j hj => nI_eq (a := w) (b := j) (by omega) (by omega)
  rw [if_neg (nI_nm1x (by omega)), if_neg (fun q => by have := (hj 9 (by omega)).mp q; omega), if_neg (fun q => by have := (hj 10 (by omega)).mp q; omega), if_neg (fun q => by have := (hj 11 (by omega)).mp q; omega), if_neg (fun q => by have := (hj 4 (by omega)).mp q; omega), nI_clamp (by omega)]
theorem stK_f {b : Nat → Int32} {k s e w er s2 : Nat} {c c2 : Cf} (h : wd stW b k s e = nI w) (hw : w < 9) (h2 : setA b e w c = (er, s2, c2)) (he : ¬ er = 0) : stK b k s e c = (er, s2, c2) := by
  by_cases h4 : w = 4
  · subst h4
    rw [stK_r h, refA_1 h2 he, endA_e he]
  · rw [stK_s h hw h4, h2, endA_e he]
/-- the configuration at the beginning -/
noncomputable def cB : Cf := fun j => ([1, 100, 1000, 100, 20, 1000, 5000, 512, 1, 511] : List Int32).getD j 0
theorem txF {b : Nat → Int32} {p m : Nat} {c : Cf} {X : Nat × Nat × Nat × Cf} (h : X = txA b (702 - m) p c m) (hm : m ≤ 701) : X = txA b (701 - m + 1) p c m := by
  rw [show 701 - m + 1 = 702 - m by omega]
  exact h
theorem txS {b : Nat → Int32} {p q s e m e2 : Nat} {c c2 : Cf} {X : Nat × Nat × Nat × Cf} (h : X = txA b (702 - m) p c m) (hm : m ≤ 701) (hT : Tk b p q s e) (hq : ¬ q = 0) (h1 : stK b q s e c = (0, e2, c2)) : X = txA b (702 - (m + 1)) e2 c2 (m + 1) := by
  rw [txF h hm, txA_s hT hq h1, show 702 - (m + 1) = 701 - m by omega]

/-! the class's parser: its text, tokens -/
theorem bA_hi {f : Nat → Int32} {n i : Nat} (h : n ≤ i) : bA f n i = -1 := by
  unfold bA
  exact if_neg (by omega)
theorem bA_and {f : Nat → Int32} {n i : Nat} (h : i < n) : ∃ q : Nat, q ≤ 255 ∧ bA f n i = nI q := by
  unfold bA
  rw [if_pos h]
  exact and255 (f i)
theorem kO_le (s : Int32) : kO s ≤ 5 := by
  rcases kO_c s with ⟨a, _⟩ | ⟨a, _⟩ | ⟨a, _⟩ | ⟨a, _⟩ | ⟨a | a, _⟩ <;> omega
theorem kO_hi {f : Nat → Int32} {n i : Nat} (h : n ≤ i) : kO (bA f n i) = 0 := kO_0.mpr (bA_hi h)
theorem Tk_one {b : Nat → Int32} {p s : Nat} (h0 : p ≤ s) (h1 : ∀ i, p ≤ i → i < s → kO (b i) = 1) (h2 : kO (b s) = 4 ∨ kO (b s) = 5) : Tk b p (kO (b s)) s (s + 1) := ⟨⟨h0, h1, by omega⟩, Or.inr (Or.inl ⟨h2, rfl, rfl⟩)⟩
theorem Tk_run {f : Nat → Int32} {n p s e k : Nat} (h0 : p ≤ s) (h1 : ∀ i, p ≤ i → i < s → kO (bA f n i) = 1) (h2 : ¬ kO (bA f n s) = 1) (h4 : ¬ kO (bA f n s) = 4) (h5 : ¬ kO (bA f n s) = 5) (hs : s ≤ e) (ha : ∀ i, s ≤ i → i < e → kO (bA f n i) = kO (bA f n s)) (hx : ¬ kO (bA f n e) = kO (bA f n s) ∨ n ≤ e) (he : e = s ∨ e ≤ n)
    (hk : (kO (bA f n s) = 3 ∧ 6 < e - s ∧ k = 5) ∨ (kO (bA f n s) = 3 ∧ e - s ≤ 6 ∧ k = kO (bA f n s)) ∨ (¬ kO (bA f n s) = 3 ∧ 12 < e - s ∧ k = 5) ∨ (¬ kO (bA f n s) = 3 ∧ e - s ≤ 12 ∧ k = kO (bA f n s))) : Tk (bA f n) p k s e := by
  have hk2 : k = if (if kO (bA f n s) = 3 then 6 else 12) < e - s then 5 else kO (bA f n s) := by
    rcases hk with ⟨a, c, d⟩ | ⟨a, c, d⟩ | ⟨a, c, d⟩ | ⟨a, c, d⟩
    · rw [if_pos a, if_pos c]; exact d
    · rw [if_pos a, if_neg (by omega)]; exact d
    · rw [if_neg a, if_pos c]; exact d
    · rw [if_neg a, if_neg (by omega)]; exact d
  have hle := kO_le (bA f n s)
  by_cases hz : kO (bA f n s) = 0
  · have hn : n ≤ s := by
      refine Nat.le_of_not_lt (fun hc => ?_)
      have h7 := kO_0.mp hz
      obtain ⟨q, hq, e⟩ := bA_and (f := f) hc
      rw [e] at h7
      have h8 := congrArg Int32.toInt h7
      rw [nI_toInt (by omega), show (-1 : Int32).toInt = -1 from by decide] at h8
      omega
    have hes : e = s := by omega
    subst hes
    refine ⟨⟨h0, h1, h2⟩, Or.inl ⟨hz, ?_, rfl⟩⟩
    rw [hk2, hz]
    rw [if_neg (by omega)]
  · have hlt : s < n := by
      refine Nat.lt_of_not_le (fun hc => hz (kO_hi hc))
    have hse : s < e := by
      refine Nat.lt_of_not_le (fun hc => ?_)
      have hes : e = s := by omega
      subst hes
      rcases hx with hx | hx
      · exact hx rfl
      · omega
    have hxe : ¬ kO (bA f n e) = kO (bA f n s) := by
      rcases hx with hx | hx
      · exact hx
      · rw [kO_hi hx]
        omega
    exact ⟨⟨h0, h1, h2⟩, Or.inr (Or.inr ⟨by omega, hse, ha, hxe, hk2⟩)⟩
theorem Tk_ok {f : Nat → Int32} {n p k s e : Nat} (h : Tk (bA f n) p k s e) (hp : p ≤ n) : p ≤ s ∧ s ≤ e ∧ e ≤ n ∧ k ≤ 5 ∧ (k = 3 → e - s ≤ 6 ∧ s < e ∧ ∀ i, i < e - s → kO (bA f n (s + i)) = 3) ∧ (k = 2 → e - s ≤ 12 ∧ s < e ∧ ∀ i, i < e - s → kO (bA f n (s + i)) = 2) ∧ (¬ k = 0 → s < e) := by
  obtain ⟨⟨h0, h1, h2⟩, h3⟩ := h
  have hle := kO_le (bA f n s)
  have hsn : s ≤ n := by
    refine Nat.le_of_not_lt (fun hc => ?_)
    have h7 := h1 n hp hc
    rw [kO_hi (Nat.le_refl n)] at h7
    omega
  rcases h3 with ⟨a, rfl, rfl⟩ | ⟨a, rfl, rfl⟩ | ⟨a, c1, c2, c3, c4⟩
  · refine ⟨h0, Nat.le_refl _, hsn, by omega, fun q => absurd q (by omega), fun q => absurd q (by omega), fun q => absurd rfl q⟩
  · have hlt : s < n := Nat.lt_of_not_le (fun hc => by rw [kO_hi hc] at a; omega)
    refine ⟨h0, by omega, by omega, by omega, fun q => absurd q (by omega), fun q => absurd q (by omega), fun _ => by omega⟩
  · have hen : e ≤ n := by
      refine Nat.le_of_not_lt (fun hc => ?_)
      have h7 := c2 n (by omega) hc
      rw [kO_hi (Nat.le_refl n)] at h7
      omega
    have hk : k = 5 ∨ (k = kO (bA f n s) ∧ e - s ≤ (if kO (bA f n s) = 3 then 6 else 12)) := by
      rw [c4]
      by_cases hq : (if kO (bA f n s) = 3 then 6 else 12) < e - s
      · rw [if_pos hq]; exact Or.inl rfl
      · rw [if_neg hq]; exact Or.inr ⟨rfl, by omega⟩
    refine ⟨h0, by omega, hen, by omega, fun q => ?_, fun q => ?_, fun _ => by omega⟩
    · have h8 : kO (bA f n s) = 3 := by omega
      rw [if_pos h8] at hk
      exact ⟨by omega, c1, fun i hi => (c2 (s + i) (by omega) (by omega)).trans h8⟩
    · have h8 : kO (bA f n s) = 2 := by omega
      rw [if_neg (by omega)] at hk
      exact ⟨by omega, c1, fun i hi => (c2 (s + i) (by omega) (by omega)).trans h8⟩
/-- a digit more -/
theorem nv_step {f : Nat → Int32} {n s m : Nat} (hd : kO (bA f n (s + m)) = 3) (hv : nv (bA f n) s m < 10 ^ 6) : 10 * nI (nv (bA f n) s m) + bA f n (s + m) - 48 = nI (nv (bA f n) s (m + 1)) := by
  have h2 := kO_3.mp hd
  have h3 : bA f n (s + m) = nI (bA f n (s + m)).toNatClampNeg := by
    apply Int32.toInt_inj.mp
    rw [nI_toInt (by show (bA f n (s + m)).toInt.toNat < _; omega)]
    show _ = ((bA f n (s + m)).toInt.toNat : Int)
    omega
  have h4 : 48 ≤ (bA f n (s + m)).toNatClampNeg := by
    show 48 ≤ (bA f n (s + m)).toInt.toNat
    omega
  show _ = nI (10 * nv (bA f n) s m + ((bA f n (s + m)).toNatClampNeg - 48))
  generalize (bA f n (s + m)).toNatClampNeg = q at h3 h4
  rw [h3, show (10 : Int32) = nI 10 from rfl, nI_mul 10 _, nI_add, show (48 : Int32) = nI 48 from rfl, nI_sub (by omega)]
  congr 1
  omega

/-! the words that stand in the class's two String constants -/
noncomputable def byS (i k : Nat) : Int32 := (bytS.getD i []).getD k 0
noncomputable def Lw (i : Nat) : List (List Nat) := match i with | 0 => stW | _ => fdW
noncomputable def plS (i : Nat) : Nat → Nat
  | 0 => 0
  | k + 1 => if k = lenS.getD i 0 ∨ byS i k = 32 then plS i k + 1 else plS i k
noncomputable def frS (i : Nat) : Nat → Nat
  | 0 => 0
  | k + 1 => if k = lenS.getD i 0 ∨ byS i k = 32 then k + 1 else frS i k
theorem frS_le (i k : Nat) : frS i k ≤ k := by
  induction k with
  | zero => exact Nat.le_refl _
  | succ k ih =>
    by_cases h : k = lenS.getD i 0 ∨ byS i k = 32
    · have e : frS i (k + 1) = k + 1 := if_pos h
      omega
    · have e : frS i (k + 1) = frS i k := if_neg h
      omega
theorem plS_le (i k : Nat) : plS i k ≤ k := by
  induction k with
  | zero => exact Nat.le_refl _
  | succ k ih =>
    by_cases h : k = lenS.getD i 0 ∨ byS i k = 32
    · have e : plS i (k + 1) = plS i k + 1 := if_pos h
      omega
    · have e : plS i (k + 1) = plS i k := if_neg h
      omega
theorem plS_y {i k : Nat} (h : k = lenS.getD i 0 ∨ byS i k = 32) : plS i (k + 1) = plS i k + 1 := if_pos h
theorem plS_n {i k : Nat} (h : ¬ k = lenS.getD i 0) (h2 : ¬ byS i k = 32) : plS i (k + 1) = plS i k := if_neg (fun q => q.elim h h2)
theorem frS_y {i k : Nat} (h : k = lenS.getD i 0 ∨ byS i k = 32) : frS i (k + 1) = k + 1 := if_pos h
theorem frS_n {i k : Nat} (h : ¬ k = lenS.getD i 0) (h2 : ¬ byS i k = 32) : frS i (k + 1) = frS i k := if_neg (fun q => q.elim h h2)
noncomputable def segC (i k : Nat) : Bool := decide (plS i k < (Lw i).length) && (decide (((Lw i).getD (plS i k) []).length = k - frS i k) && (List.range (k - frS i k)).all (fun j => decide (nI (((Lw i).getD (plS i k) []).getD j 0) = byS i (frS i k + j))))
noncomputable def sepB (i k : Nat) : Bool := decide (k = lenS.getD i 0) || decide (byS i k = 32)
theorem seg_all0 : (List.range 2).all (fun i => (List.range 101).all (fun k => !(decide (k ≤ lenS.getD i 0)) || (!(sepB i k) || segC i k))) = true := by decide +kernel
theorem seg_all : ∀ i, i < 2 → ∀ k, k < 101 → k ≤ lenS.getD i 0 → (k = lenS.getD i 0 ∨ byS i k = 32) → (plS i k < (Lw i).length ∧ ((Lw i).getD (plS i k) []).length = k - frS i k ∧ ∀ j, j < k - frS i k → nI (((Lw i).getD (plS i k) []).getD j 0) = byS i (frS i k + j)) := by
  intro i hi k hk hl hs
  have h1 := List.all_eq_true.mp (List.all_eq_true.mp seg_all0 i (List.mem_range.mpr hi)) k (List.mem_range.mpr hk)
  have h2 : sepB i k = true := by
    unfold sepB
    rcases hs with hs | hs
    · rw [decide_eq_true hs]
      rfl
    · rw [decide_eq_true hs, Bool.or_true]
  rw [decide_eq_true hl, h2] at h1
  have h3 : segC i k = true := h1
  unfold segC at h3
  rw [Bool.and_eq_true, Bool.and_eq_true] at h3
  exact ⟨of_decide_eq_true h3.1, of_decide_eq_true h3.2.1, fun j hj => of_decide_eq_true (List.all_eq_true.mp h3.2.2 j (List.mem_range.mpr hj))⟩
theorem plS_end : ∀ i, i < 2 → plS i (lenS.getD i 0 + 1) = (Lw i).length := by decide +kernel
/-- the m signs at s are those of the constant i from place a on -/
noncomputable def EqS (b : Nat → Int32) (s i a m : Nat) : Prop := ∀ j, j < m → byS i (a + j) = b (s + j)
theorem EqS_0 {b : Nat → Int32} {s i a m : Nat} (h : m = 0) : EqS b s i a m := fun j hj => absurd hj (by omega)
theorem EqS_s {b : Nat → Int32} {s i a k m q : Nat} (h : EqS b s i a (k - a)) (ha : a ≤ k) (hq : q = s + k - a) (e : byS i k = b q) (hm : m = k + 1 - a) : EqS b s i a m := by
  intro j hj
  by_cases hj2 : j < k - a
  · exact h j hj2
  · have h1 : j = k - a := by omega
    subst h1
    rw [show a + (k - a) = k by omega, e, hq, show s + k - a = s + (k - a) by omega]
theorem EqS_n {b : Nat → Int32} {s i a k m q : Nat} (ha : a ≤ k) (hm : k < a + m) (hq : q = s + k - a) (e : ¬ byS i k = b q) : ¬ EqS b s i a m := by
  intro h
  have h1 := h (k - a) (by omega)
  rw [show a + (k - a) = k by omega, show s + (k - a) = q by omega] at h1
  exact e h1
theorem EqS_w {b : Nat → Int32} {s m i k : Nat} (hi : i < 2) (hk : k ≤ lenS.getD i 0) (hs : k = lenS.getD i 0 ∨ byS i k = 32) : (k - frS i k = m ∧ EqS b s i (frS i k) (k - frS i k)) ↔ IsW b s m ((Lw i).getD (plS i k) []) := by
  have hl := lenS_le i
  obtain ⟨-, h2, h3⟩ := seg_all i hi k (by omega) hk hs
  constructor
  · rintro ⟨e, h⟩
    subst e
    exact ⟨h2.symm, fun j hj => by rw [h3 j hj]; exact (h j hj).symm⟩
  · rintro ⟨e, h⟩
    rw [h2] at e
    subst e
    exact ⟨rfl, fun j hj => by rw [← h3 j hj]; exact (h j hj).symm⟩
theorem WI_hit {b : Nat → Int32} {s m i k : Nat} (hi : i < 2) (hk : k ≤ lenS.getD i 0) (hs : k = lenS.getD i 0 ∨ byS i k = 32) (h : k - frS i k = m ∧ EqS b s i (frS i k) (k - frS i k)) (hn : ∀ j, j < plS i k → ¬ IsW b s m ((Lw i).getD j [])) : WI (Lw i) b s m (nI (plS i k)) := by
  have hl := lenS_le i
  exact Or.inl ⟨plS i k, (seg_all i hi k (by omega) hk hs).1, rfl, (EqS_w hi hk hs).mp h, hn⟩
theorem WI_mis {b : Nat → Int32} {s m i k : Nat} (hi : i < 2) (hk : k = lenS.getD i 0 + 1) (hn : ∀ j, j < plS i k → ¬ IsW b s m ((Lw i).getD j [])) : WI (Lw i) b s m (-1) := by
  subst hk
  rw [plS_end i hi] at hn
  exact Or.inr ⟨rfl, hn⟩
theorem WI_y {b : Nat → Int32} {s m i k : Nat} (hi : i < 2) (hk : k ≤ lenS.getD i 0) (hs : k = lenS.getD i 0 ∨ byS i k = 32) (h : ¬ (k - frS i k = m ∧ EqS b s i (frS i k) (k - frS i k))) (hn : ∀ j, j < plS i k → ¬ IsW b s m ((Lw i).getD j [])) : ∀ j, j < plS i (k + 1) → ¬ IsW b s m ((Lw i).getD j []) := by
  rw [plS_y hs]
  intro j hj
  by_cases hj2 : j = plS i k
  · subst hj2
    exact fun q => h ((EqS_w hi hk hs).mpr q)
  · exact hn j (by omega)

set_option maxHeartbeats 4000000 in
set_option maxRecDepth 100000 in
theorem s_X6_kindOf (G : EnvG) (l : Launch) (Φ : Hm) (sz x ca : Nat) (a : Int32) (hx : G.2.2.2 ≤ x) (hI : In G x ca Φ)  : Ct G l yX6_kindOf wsX6_kindOf ({ frames := 0, cells := 0, slots := 0, locals := 0 }) 0 0 [.int a] Φ sz (fun v Φ1 sz1 => (v = some (.int (nI (kO a)))) ∧ sz1 = sz ∧ In G x (ca) Φ1 ∧ Fr x (fun j9 => False) Φ Φ1) := by
  refine Ct.of (cc := cX6_kindOf) (maxL := 1) (ret := (some .int)) (by decide) rfl (Nat.le_of_ble_eq_true rfl) ?_
  intro p9 e9 s9 m9 w9 t9 k9 B
  show Z p9 l e9 _ s9 m9 _ w9 t9 k9 _ G 1 0 [(0, .int a)] [] Φ sz 0 0
  refine z_iload_n B dX6_kindOf_0 rfl 0 rfl ?_
  refine z_iconst (v := (-1)) B dX6_kindOf_1 rfl ?_
  refine z_icmp_ne (tgt := 7) B dX6_kindOf_2 rfl (fun c_1 => ?_) (fun c_1 => ?_)
  · refine z_iload_n B dX6_kindOf_7 rfl 0 rfl ?_
    refine z_bipush (v := 32) B dX6_kindOf_8 rfl ?_
    refine z_icmp_eq (tgt := 19) B dX6_kindOf_10 rfl (fun c_2 => ?_) (fun c_2 => ?_)
    · refine z_iconst (v := 1) B dX6_kindOf_19 rfl ?_
      exact z_ret_i B dX6_kindOf_20 ⟨(by rw [show kO a = 1 from by unfold kO kNum kSem; rw [if_neg c_1, if_pos c_2]]; rfl), rfl, hI, (fun b9 h9 => rfl)⟩
    · refine z_iload_n B dX6_kindOf_13 rfl 0 rfl ?_
      refine z_bipush (v := 10) B dX6_kindOf_14 rfl ?_
      refine z_icmp_ne (tgt := 21) B dX6_kindOf_16 rfl (fun c_3 => ?_) (fun c_3 => ?_)
      · refine z_iload_n B dX6_kindOf_21 rfl 0 rfl ?_
        refine z_bipush (v := 97) B dX6_kindOf_22 rfl ?_
        refine z_icmp_lt (tgt := 35) B dX6_kindOf_24 rfl (fun c_4 => ?_) (fun c_4 => ?_)
        · refine z_iload_n B dX6_kindOf_35 rfl 0 rfl ?_
          refine z_bipush (v := 48) B dX6_kindOf_36 rfl ?_
          refine z_icmp_lt (tgt := 49) B dX6_kindOf_38 rfl (fun c_5 => ?_) (fun c_5 => ?_)
          · refine z_iload_n B dX6_kindOf_49 rfl 0 rfl ?_
            refine z_bipush (v := 59) B dX6_kindOf_50 rfl ?_
            refine z_icmp_ne (tgt := 59) B dX6_kindOf_52 rfl (fun c_6 => ?_) (fun c_6 => ?_)
            · refine z_iconst (v := 5) B dX6_kindOf_59 rfl ?_
              exact z_ret_i B dX6_kindOf_60 ⟨(by rw [show kO a = 5 from by unfold kO kNum kSem; rw [if_neg c_1, if_neg c_2, if_neg c_3, if_pos c_4, if_pos c_5, if_neg c_6]]; rfl), rfl, hI, (fun b9 h9 => rfl)⟩
            · refine z_iconst (v := 4) B dX6_kindOf_55 rfl ?_
              refine z_goto (tgt := 60) B dX6_kindOf_56 rfl ?_
              exact z_ret_i B dX6_kindOf_60 ⟨(by rw [show kO a = 4 from by unfold kO kNum kSem; rw [if_neg c_1, if_neg c_2, if_neg c_3, if_pos c_4, if_pos c_5, if_pos c_6]]; rfl), rfl, hI, (fun b9 h9 => rfl)⟩
          · refine z_iload_n B dX6_kindOf_41 rfl 0 rfl ?_
            refine z_bipush (v := 57) B dX6_kindOf_42 rfl ?_
            refine z_icmp_gt (tgt := 49) B dX6_kindOf_44 rfl (fun c_7 => ?_) (fun c_7 => ?_)
            · refine z_iload_n B dX6_kindOf_49 rfl 0 rfl ?_
              refine z_bipush (v := 59) B dX6_kindOf_50 rfl ?_
              refine z_icmp_ne (tgt := 59) B dX6_kindOf_52 rfl (fun c_8 => ?_) (fun c_8 => ?_)
              · refine z_iconst (v := 5) B dX6_kindOf_59 rfl ?_
                exact z_ret_i B dX6_kindOf_60 ⟨(by rw [show kO a = 5 from by unfold kO kNum kSem; rw [if_neg c_1, if_neg c_2, if_neg c_3, if_pos c_4, if_neg c_5, if_pos c_7, if_neg c_8]]; rfl), rfl, hI, (fun b9 h9 => rfl)⟩
              · refine z_iconst (v := 4) B dX6_kindOf_55 rfl ?_
                refine z_goto (tgt := 60) B dX6_kindOf_56 rfl ?_
                exact z_ret_i B dX6_kindOf_60 ⟨(by rw [show kO a = 4 from by unfold kO kNum kSem; rw [if_neg c_1, if_neg c_2, if_neg c_3, if_pos c_4, if_neg c_5, if_pos c_7, if_pos c_8]]; rfl), rfl, hI, (fun b9 h9 => rfl)⟩
            · refine z_iconst (v := 3) B dX6_kindOf_47 rfl ?_
              exact z_ret_i B dX6_kindOf_48 ⟨(by rw [show kO a = 3 from by unfold kO kNum kSem; rw [if_neg c_1, if_neg c_2, if_neg c_3, if_pos c_4, if_neg c_5, if_neg c_7]]; rfl), rfl, hI, (fun b9 h9 => rfl)⟩
        · refine z_iload_n B dX6_kindOf_27 rfl 0 rfl ?_
          refine z_bipush (v := 122) B dX6_kindOf_28 rfl ?_
          refine z_icmp_gt (tgt := 35) B dX6_kindOf_30 rfl (fun c_9 => ?_) (fun c_9 => ?_)
          · refine z_iload_n B dX6_kindOf_35 rfl 0 rfl ?_
            refine z_bipush (v := 48) B dX6_kindOf_36 rfl ?_
            refine z_icmp_lt (tgt := 49) B dX6_kindOf_38 rfl (fun c_10 => ?_) (fun c_10 => ?_)
            · refine z_iload_n B dX6_kindOf_49 rfl 0 rfl ?_
              refine z_bipush (v := 59) B dX6_kindOf_50 rfl ?_
              refine z_icmp_ne (tgt := 59) B dX6_kindOf_52 rfl (fun c_11 => ?_) (fun c_11 => ?_)
              · refine z_iconst (v := 5) B dX6_kindOf_59 rfl ?_
                exact z_ret_i B dX6_kindOf_60 ⟨(by rw [show kO a = 5 from by unfold kO kNum kSem; rw [if_neg c_1, if_neg c_2, if_neg c_3, if_neg c_4, if_pos c_9, if_pos c_10, if_neg c_11]]; rfl), rfl, hI, (fun b9 h9 => rfl)⟩
              · refine z_iconst (v := 4) B dX6_kindOf_55 rfl ?_
                refine z_goto (tgt := 60) B dX6_kindOf_56 rfl ?_
                exact z_ret_i B dX6_kindOf_60 ⟨(by rw [show kO a = 4 from by unfold kO kNum kSem; rw [if_neg c_1, if_neg c_2, if_neg c_3, if_neg c_4, if_pos c_9, if_pos c_10, if_pos c_11]]; rfl), rfl, hI, (fun b9 h9 => rfl)⟩
            · refine z_iload_n B dX6_kindOf_41 rfl 0 rfl ?_
              refine z_bipush (v := 57) B dX6_kindOf_42 rfl ?_
              refine z_icmp_gt (tgt := 49) B dX6_kindOf_44 rfl (fun c_12 => ?_) (fun c_12 => ?_)
              · refine z_iload_n B dX6_kindOf_49 rfl 0 rfl ?_
                refine z_bipush (v := 59) B dX6_kindOf_50 rfl ?_
                refine z_icmp_ne (tgt := 59) B dX6_kindOf_52 rfl (fun c_13 => ?_) (fun c_13 => ?_)
                · refine z_iconst (v := 5) B dX6_kindOf_59 rfl ?_
                  exact z_ret_i B dX6_kindOf_60 ⟨(by rw [show kO a = 5 from by unfold kO kNum kSem; rw [if_neg c_1, if_neg c_2, if_neg c_3, if_neg c_4, if_pos c_9, if_neg c_10, if_pos c_12, if_neg c_13]]; rfl), rfl, hI, (fun b9 h9 => rfl)⟩
                · refine z_iconst (v := 4) B dX6_kindOf_55 rfl ?_
                  refine z_goto (tgt := 60) B dX6_kindOf_56 rfl ?_
                  exact z_ret_i B dX6_kindOf_60 ⟨(by rw [show kO a = 4 from by unfold kO kNum kSem; rw [if_neg c_1, if_neg c_2, if_neg c_3, if_neg c_4, if_pos c_9, if_neg c_10, if_pos c_12, if_pos c_13]]; rfl), rfl, hI, (fun b9 h9 => rfl)⟩
              · refine z_iconst (v := 3) B dX6_kindOf_47 rfl ?_
                exact z_ret_i B dX6_kindOf_48 ⟨(by rw [show kO a = 3 from by unfold kO kNum kSem; rw [if_neg c_1, if_neg c_2, if_neg c_3, if_neg c_4, if_pos c_9, if_neg c_10, if_neg c_12]]; rfl), rfl, hI, (fun b9 h9 => rfl)⟩
          · refine z_iconst (v := 2) B dX6_kindOf_33 rfl ?_
            exact z_ret_i B dX6_kindOf_34 ⟨(by rw [show kO a = 2 from by unfold kO kNum kSem; rw [if_neg c_1, if_neg c_2, if_neg c_3, if_neg c_4, if_neg c_9]]; rfl), rfl, hI, (fun b9 h9 => rfl)⟩
      · refine z_iconst (v := 1) B dX6_kindOf_19 rfl ?_
        exact z_ret_i B dX6_kindOf_20 ⟨(by rw [show kO a = 1 from by unfold kO kNum kSem; rw [if_neg c_1, if_neg c_2, if_pos c_3]]; rfl), rfl, hI, (fun b9 h9 => rfl)⟩
  · refine z_iconst (v := 0) B dX6_kindOf_5 rfl ?_
    exact z_ret_i B dX6_kindOf_6 ⟨(by rw [show kO a = 0 from by unfold kO kNum kSem; rw [if_pos c_1]]; rfl), rfl, hI, (fun b9 h9 => rfl)⟩

set_option maxHeartbeats 4000000 in
set_option maxRecDepth 100000 in
theorem s_X5_byteAt1 (G : EnvG) (l : Launch) (Φ : Hm) (sz x ca : Nat) (n : Nat) (f : Nat → Int32) (i : Nat) (hx : G.2.2.2 ≤ x) (hI : In G x ca Φ) (hc0 : Φ (x + 1) = some (o_ 7 [.ref (x + 2), .int (nI n)])) (hc1 : Φ (x + 2) = some (ab_ G 700 f)) (hi : i < 2 ^ 31) (hn : n ≤ 700) : Ct G l yX5_byteAt wsX5_byteAt ({ frames := 0, cells := 0, slots := 0, locals := 0 }) 0 0 [.ref (x + 1), .int (nI i)] Φ sz (fun v Φ1 sz1 => (v = some (.int (bA f n i))) ∧ sz1 = sz ∧ In G x (ca) Φ1 ∧ Fr x (fun j9 => False) Φ Φ1) := by
  refine Ct.of (cc := cX5_byteAt) (maxL := 2) (ret := (some .int)) (by decide) rfl (Nat.le_of_ble_eq_true rfl) ?_
  intro p9 e9 s9 m9 w9 t9 k9 B
  show Z p9 l e9 _ s9 m9 _ w9 t9 k9 _ G 2 0 [(0, .ref (x + 1)), (1, .int (nI i))] [] Φ sz 0 0
  refine z_iload_n B dX5_byteAt_0 rfl 1 rfl ?_
  refine z_if_lt (tgt := 25) B dX5_byteAt_1 rfl (fun c_1 => ?_) (fun c_1 => ?_)
  · have e_1 : i < 0 := (nI_ltI (a := i) (b := 0) (by omega) (by omega)).mp c_1
    refine z_iconst (v := (-1)) B dX5_byteAt_25 rfl ?_
    exact z_ret_i B dX5_byteAt_26 ⟨(show some (Value.int (-1)) = some (.int (bA f n i)) by unfold bA; rw [if_neg (by omega)]), rfl, hI, (fun b9 h9 => rfl)⟩
  · have e_2 : ¬ (i < 0) := fun h9 => c_1 ((nI_ltI (a := i) (b := 0) (by omega) (by omega)).mpr h9)
    refine z_iload_n B dX5_byteAt_4 rfl 1 rfl ?_
    refine z_aload_n B dX5_byteAt_5 rfl 0 rfl ?_
    refine z_get (ref := "FlowExporter$Message") (C := RX5) (T := TX5) (N := 2) (ci := 7) (v := .int (nI n)) B hu_X5_byteAt_X5 rfl 1 (Nat.le_of_ble_eq_true rfl) hv_X5_byteAt_9 rfl hc0 rfl dX5_byteAt_6 ?_
    refine z_icmp_ge (tgt := 25) B dX5_byteAt_9 rfl (fun c_2 => ?_) (fun c_2 => ?_)
    · have e_3 : n ≤ i := (nI_leI (a := n) (b := i) (by omega) (by omega)).mp c_2
      refine z_iconst (v := (-1)) B dX5_byteAt_25 rfl ?_
      exact z_ret_i B dX5_byteAt_26 ⟨(show some (Value.int (-1)) = some (.int (bA f n i)) by unfold bA; rw [if_neg (by omega)]), rfl, hI, (fun b9 h9 => rfl)⟩
    · have e_4 : ¬ (n ≤ i) := fun h9 => c_2 ((nI_leI (a := n) (b := i) (by omega) (by omega)).mpr h9)
      refine z_aload_n B dX5_byteAt_12 rfl 0 rfl ?_
      refine z_get (ref := "FlowExporter$Message") (C := RX5) (T := TX5) (N := 2) (ci := 7) (v := .ref (x + 2)) B hu_X5_byteAt_X5 rfl 0 (Nat.le_of_ble_eq_true rfl) hv_X5_byteAt_21 rfl hc0 rfl dX5_byteAt_13 ?_
      refine z_iload_n B dX5_byteAt_16 rfl 1 rfl ?_
      refine z_bald B hc1 (vp_in_nI (by omega) (by omega)) dX5_byteAt_17 ?_
      refine z_sipush (v := 255) B dX5_byteAt_18 rfl ?_
      refine z_iand B dX5_byteAt_21 ?_
      refine z_goto (tgt := 26) B dX5_byteAt_22 rfl ?_
      exact z_ret_i B dX5_byteAt_26 ⟨(show some (Value.int ((f (nI i).toNatClampNeg) &&& 255)) = some (.int (bA f n i)) by rw [nI_clamp (by omega)]; unfold bA; rw [if_pos (by omega)]), rfl, hI, (fun b9 h9 => rfl)⟩

theorem hu_X6_fail_X6 : ∀ w ∈ u_ws RX6 TX6 8, w ∈ wsX6_fail := fun _ h => List.mem_cons_of_mem _ (List.mem_append_right _ (h))

theorem hv_X6_fail_18 : Cond.fieldLink RX6 18 "FlowExporter$Parser" (TX6 1).2.1 (TX6 1).2.2.1 ∈ wsX6_fail := List.mem_cons_of_mem _ (List.mem_append_left _ (List.mem_of_getElem? (i := 0) rfl))

theorem hv_X6_fail_31 : Cond.fieldLink RX6 31 "FlowExporter$Parser" (TX6 6).2.1 (TX6 6).2.2.1 ∈ wsX6_fail := List.mem_cons_of_mem _ (List.mem_append_left _ (List.mem_of_getElem? (i := 1) rfl))

theorem hv_X6_fail_22 : Cond.fieldLink RX6 22 "FlowExporter$Parser" (TX6 2).2.1 (TX6 2).2.2.1 ∈ wsX6_fail := List.mem_cons_of_mem _ (List.mem_append_left _ (List.mem_of_getElem? (i := 2) rfl))

set_option maxHeartbeats 4000000 in
set_option maxRecDepth 100000 in
theorem s_X6_fail (G : EnvG) (l : Launch) (Φ : Hm) (sz x ca : Nat) (co : Int32) (po : Int32) (nx : Nat) (ki : Nat) (sa : Nat) (nu : Nat) (a : Int32) (hx : G.2.2.2 ≤ x) (hI : In G x ca Φ) (hc0 : Φ (x + 24) = some (o_ 8 [.ref (x + 25), .int co, .int po, .ref (x + 1), .int (nI nx), .int (nI ki), .int (nI sa), .int (nI nu)])) : Ct G l yX6_fail wsX6_fail ({ frames := 0, cells := 0, slots := 0, locals := 0 }) 0 0 [.ref (x + 24), .int a] Φ sz (fun v Φ1 sz1 => ((v = some (.int 0)) ∧ Φ1 (x + 24) = some (o_ 8 [.ref (x + 25), .int a, .int (nI sa), .ref (x + 1), .int (nI nx), .int (nI ki), .int (nI sa), .int (nI nu)])) ∧ sz1 = sz ∧ In G x (ca) Φ1 ∧ Fr x (fun j9 => j9 = 24) Φ Φ1) := by
  refine Ct.of (cc := cX6_fail) (maxL := 2) (ret := (some .boolean)) (by decide) rfl (Nat.le_of_ble_eq_true rfl) ?_
  intro p9 e9 s9 m9 w9 t9 k9 B
  show Z p9 l e9 _ s9 m9 _ w9 t9 k9 _ G 2 0 [(0, .ref (x + 24)), (1, .int a)] [] Φ sz 0 0
  refine z_aload_n B dX6_fail_0 rfl 0 rfl ?_
  refine z_iload_n B dX6_fail_1 rfl 1 rfl ?_
  refine z_put (ref := "FlowExporter$Parser") (C := RX6) (T := TX6) (N := 8) (ci := 8) (v := .int a) B hu_X6_fail_X6 tyX6 tyX6_ok nmX6 rfl 1 (Nat.le_of_ble_eq_true rfl) hv_X6_fail_18 rfl (Or.inl rfl) hc0 (Nat.le_trans hx (Nat.le_add_right x 24)) rfl rfl (Nat.le_of_ble_eq_true rfl) dX6_fail_2 (fun Φ1 hΦ1 => ?_)
  have h_1 : Φ1 (x + 24) = some (o_ 8 [.ref (x + 25), .int a, .int po, .ref (x + 1), .int (nI nx), .int (nI ki), .int (nI sa), .int (nI nu)]) := fset_at hΦ1
  have hI1 : In G x (ca) Φ1 := In.put (k := 24) hI hΦ1 (ok10 (k := 24) rfl ⟨a, po, nI nx, nI ki, nI sa, nI nu, rfl⟩)
  refine z_aload_n B dX6_fail_5 rfl 0 rfl ?_
  refine z_aload_n B dX6_fail_6 rfl 0 rfl ?_
  refine z_get (ref := "FlowExporter$Parser") (C := RX6) (T := TX6) (N := 8) (ci := 8) (v := .int (nI sa)) B hu_X6_fail_X6 rfl 6 (Nat.le_of_ble_eq_true rfl) hv_X6_fail_31 rfl h_1 rfl dX6_fail_7 ?_
  refine z_put (ref := "FlowExporter$Parser") (C := RX6) (T := TX6) (N := 8) (ci := 8) (v := .int (nI sa)) B hu_X6_fail_X6 tyX6 tyX6_ok nmX6 rfl 2 (Nat.le_of_ble_eq_true rfl) hv_X6_fail_22 rfl (Or.inl rfl) h_1 (Nat.le_trans hx (Nat.le_add_right x 24)) rfl rfl (Nat.le_of_ble_eq_true rfl) dX6_fail_10 (fun Φ2 hΦ2 => ?_)
  have h_2 : Φ2 (x + 24) = some (o_ 8 [.ref (x + 25), .int a, .int (nI sa), .ref (x + 1), .int (nI nx), .int (nI ki), .int (nI sa), .int (nI nu)]) := fset_at hΦ2
  have hI2 : In G x (ca) Φ2 := In.put (k := 24) hI1 hΦ2 (ok10 (k := 24) rfl ⟨a, nI sa, nI nx, nI ki, nI sa, nI nu, rfl⟩)
  refine z_iconst (v := 0) B dX6_fail_13 rfl ?_
  exact z_ret_z B dX6_fail_14 (by decide) ⟨⟨rfl, h_2⟩, rfl, hI2, (fun b9 h9 => ((fset_fr hΦ2 (fun h8 => h9 (24) h8 (show 24 = 24 by decide))).trans ((fset_fr hΦ1 (fun h8 => h9 (24) h8 (show 24 = 24 by decide))).trans rfl)))⟩

theorem no_b {f : Nat → Int32} {n p i j : Nat} (h : ∀ i9, p ≤ i9 → i9 < i → kO (bA f n i9) = 1) (h1 : kO (bA f n i) = 1 ∧ j = i + 1) : ∀ i9, p ≤ i9 → i9 < j → kO (bA f n i9) = 1 := by
  obtain ⟨h1, rfl⟩ := h1
  intro q h2 h3
  by_cases e : q = i
  · subst e
    exact h1
  · exact h q h2 (by omega)
theorem al_b {f : Nat → Int32} {n s i j K : Nat} (h : ∀ i9, s ≤ i9 → i9 < i → kO (bA f n i9) = K) (h1 : kO (bA f n i) = K ∧ j = i + 1) : ∀ i9, s ≤ i9 → i9 < j → kO (bA f n i9) = K := by
  obtain ⟨h1, rfl⟩ := h1
  intro q h2 h3
  by_cases e : q = i
  · subst e
    exact h1
  · exact h q h2 (by omega)

theorem hu_X6_nextToken_X6 : ∀ w ∈ u_ws RX6 TX6 8, w ∈ wsX6_nextToken := fun _ h => List.mem_cons_of_mem _ (List.mem_append_left _ (List.mem_append_left _ (List.mem_append_right _ (h))))

theorem hv_X6_nextToken_25 : Cond.fieldLink RX6 25 "FlowExporter$Parser" (TX6 4).2.1 (TX6 4).2.2.1 ∈ wsX6_nextToken := List.mem_cons_of_mem _ (List.mem_append_left _ (List.mem_append_left _ (List.mem_append_left _ (List.mem_of_getElem? (i := 0) rfl))))

theorem hv_X6_nextToken_37 : Cond.fieldLink RX6 37 "FlowExporter$Parser" (TX6 3).2.1 (TX6 3).2.2.1 ∈ wsX6_nextToken := List.mem_cons_of_mem _ (List.mem_append_left _ (List.mem_append_left _ (List.mem_append_left _ (List.mem_of_getElem? (i := 1) rfl))))

theorem fq_545 {x : Nat} : ∀ j9 : Nat, x + 1 = x + j9 → (j9 = 24) → False := by
  intro j9 h1 h2
  omega

theorem hu_X6_nextToken_X5 : ∀ w ∈ u_ws RX5 TX5 2, w ∈ wsX6_nextToken := fun _ h => List.mem_cons_of_mem _ (List.mem_append_left _ (List.mem_append_right _ (h)))

theorem hv_X6_nextToken_138 : Cond.fieldLink RX6 138 "FlowExporter$Message" (TX5 1).2.1 (TX5 1).2.2.1 ∈ wsX6_nextToken := List.mem_cons_of_mem _ (List.mem_append_left _ (List.mem_append_left _ (List.mem_append_left _ (List.mem_of_getElem? (i := 2) rfl))))

theorem hv_X6_nextToken_31 : Cond.fieldLink RX6 31 "FlowExporter$Parser" (TX6 6).2.1 (TX6 6).2.2.1 ∈ wsX6_nextToken := List.mem_cons_of_mem _ (List.mem_append_left _ (List.mem_append_left _ (List.mem_append_left _ (List.mem_of_getElem? (i := 3) rfl))))

theorem fq_549 {x : Nat} : ∀ j9 : Nat, x + 2 = x + j9 → (j9 = 24) → False := by
  intro j9 h1 h2
  omega

theorem hv_X6_nextToken_28 : Cond.fieldLink RX6 28 "FlowExporter$Parser" (TX6 5).2.1 (TX6 5).2.2.1 ∈ wsX6_nextToken := List.mem_cons_of_mem _ (List.mem_append_left _ (List.mem_append_left _ (List.mem_append_left _ (List.mem_of_getElem? (i := 4) rfl))))

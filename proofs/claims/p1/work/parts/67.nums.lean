theorem lg_lt (x y : Int64) : lg_cmp x y < 0 ↔ x < y := by
  unfold lg_cmp
  by_cases h : x > y
  · simp only [h, if_true]
    constructor
    · intro h1; exact absurd h1 (by decide)
    · intro h1; exact absurd (Int64.lt_trans h1 h) (Int64.lt_irrefl)
  · by_cases h2 : x = y
    · subst h2; simp
    · simp only [h, h2, if_false]
      constructor
      · intro _; exact Int64.lt_of_le_of_ne (Int64.not_lt.mp h) h2
      · intro _; decide
theorem lg_gt (x y : Int64) : 0 < lg_cmp x y ↔ y < x := by
  unfold lg_cmp
  by_cases h : x > y
  · simp only [h, if_true]
    constructor
    · intro _; trivial
    · intro _; decide
  · simp only [h, if_false]
    constructor
    · by_cases h2 : x = y
      · simp only [h2, if_true]; intro h1; exact absurd h1 (by decide)
      · simp only [h2, if_false]; intro h1; exact absurd h1 (by decide)
    · intro h1; exact h1.elim
theorem inP_iff (a : Int32) (lo hi : Int64) : inP a.toInt64 lo hi ↔ lo.toInt ≤ a.toInt ∧ a.toInt ≤ hi.toInt := by
  unfold inP
  rw [lg_lt, lg_gt, Int64.lt_iff_toInt_lt, Int64.lt_iff_toInt_lt, Int32.toInt_toInt64]
  omega
theorem inP_of {a : Int32} {lo hi : Int64} {p q : Int} (hp : lo.toInt = p) (hq : hi.toInt = q) : inP a.toInt64 lo hi ↔ p ≤ a.toInt ∧ a.toInt ≤ q := by rw [inP_iff, hp, hq]
theorem nI_get {a : Int32} {k : Nat} (h1 : 0 ≤ a.toInt) (h2 : a.toInt ≤ k) (hk : k < 2 ^ 31) : ∃ n : Nat, a = nI n ∧ n ≤ k ∧ a.toInt = n := by
  refine ⟨a.toInt.toNat, ?_, by omega, by omega⟩
  apply Int32.toInt_inj.mp
  rw [nI_toInt (by omega)]
  omega
theorem sw_get (a : Int32) : ∃ k : Nat, k < 64 ∧ a &&& 63 = nI k := by
  refine ⟨(a &&& 63).toBitVec.toNat, ?_, ?_⟩
  · have : (a &&& 63).toBitVec = a.toBitVec &&& 63#32 := rfl
    rw [this, BitVec.toNat_and]
    exact Nat.lt_of_le_of_lt Nat.and_le_right (by decide)
  · apply Int32.toBitVec_inj.mp
    show _ = (Int32.ofNat _).toBitVec
    rw [Int32.toBitVec_ofNat']
    simp

theorem k_nat {a : Int32} (h1 : 0 ≤ a.toInt) : a.toInt64.toBitVec.toNat = a.toInt.toNat := by
  have h2 : a.toInt64.toInt = a.toInt := Int32.toInt_toInt64 a
  have h3 : a.toInt64.toInt = a.toInt64.toBitVec.toInt := rfl
  have h4 := BitVec.toInt_eq_toNat_cond (x := a.toInt64.toBitVec)
  have h5 := a.toInt64.toBitVec.isLt
  split at h4 <;> omega
theorem k_sh {a : Int32} {s : Int64} {k n j : Nat} (h1 : 0 ≤ a.toInt) (h2 : a.toInt < 2 ^ k) (hs : (s.toBitVec.smod 64).toNat = j) (hn : k + j ≤ n) : (a.toInt64 <<< s).toBitVec.toNat < 2 ^ n := by
  rw [Int64.toBitVec_shiftLeft, BitVec.shiftLeft_eq', hs, BitVec.toNat_shiftLeft, k_nat h1]
  have h3 : a.toInt.toNat < 2 ^ k := by
    have : ((2 ^ k : Nat) : Int) = (2 : Int) ^ k := by norm_cast
    omega
  have h4 : a.toInt.toNat <<< j < 2 ^ n := by
    rw [Nat.shiftLeft_eq]
    calc a.toInt.toNat * 2 ^ j < 2 ^ k * 2 ^ j := Nat.mul_lt_mul_of_pos_right h3 (Nat.two_pow_pos j)
      _ = 2 ^ (k + j) := (Nat.pow_add 2 k j).symm
      _ ≤ 2 ^ n := Nat.pow_le_pow_right (by decide) hn
  exact Nat.lt_of_le_of_lt (Nat.mod_le _ _) h4
theorem k_key {a b c d : Int32} (ha : 0 ≤ a.toInt ∧ a.toInt ≤ 255) (hb : 0 ≤ b.toInt ∧ b.toInt ≤ 255) (hc : 0 ≤ c.toInt ∧ c.toInt ≤ 65535) (hd : 0 ≤ d.toInt ∧ d.toInt ≤ 255) : (((a.toInt64 <<< ((32 : Int32).toInt64 &&& 63)) ||| (b.toInt64 <<< ((24 : Int32).toInt64 &&& 63))) ||| (c.toInt64 <<< ((8 : Int32).toInt64 &&& 63))) ||| d.toInt64 ≠ -1 := by
  intro h
  have h1 := congrArg (fun z : Int64 => z.toBitVec.toNat) h
  simp only [Int64.toBitVec_or, BitVec.toNat_or] at h1
  have e1 := k_sh (a := a) (s := (32 : Int32).toInt64 &&& 63) (k := 8) (n := 40) (j := 32) ha.1 (by omega) (by decide) (by decide)
  have e2 := k_sh (a := b) (s := (24 : Int32).toInt64 &&& 63) (k := 8) (n := 40) (j := 24) hb.1 (by omega) (by decide) (by decide)
  have e3 := k_sh (a := c) (s := (8 : Int32).toInt64 &&& 63) (k := 16) (n := 40) (j := 8) hc.1 (by omega) (by decide) (by decide)
  have e4 : d.toInt64.toBitVec.toNat < 2 ^ 40 := by rw [k_nat hd.1]; omega
  have e5 := Nat.or_lt_two_pow (Nat.or_lt_two_pow (Nat.or_lt_two_pow e1 e2) e3) e4
  rw [h1] at e5
  exact absurd e5 (by decide)
theorem lg_eq (x y : Int64) : lg_cmp x y = 0 ↔ x = y := by
  unfold lg_cmp
  by_cases h : x > y
  · simp only [h, if_true]
    constructor
    · intro h1; exact absurd h1 (by decide)
    · intro h1; subst h1; exact absurd h (Int64.lt_irrefl)
  · by_cases h2 : x = y
    · simp [h2]
    · simp [h, h2]
theorem i_lt {a c : Int32} {q : Int} (hq : c.toInt = q) : a < c ↔ a.toInt < q := by rw [Int32.lt_iff_toInt_lt, hq]
theorem i_gt {a c : Int32} {q : Int} (hq : c.toInt = q) : c < a ↔ q < a.toInt := by rw [Int32.lt_iff_toInt_lt, hq]
theorem i_le {a c : Int32} {q : Int} (hq : c.toInt = q) : a ≤ c ↔ a.toInt ≤ q := by rw [Int32.le_iff_toInt_le, hq]
theorem i_eq {a c : Int32} {q : Int} (hq : c.toInt = q) : a = c ↔ a.toInt = q := by rw [← Int32.toInt_inj, hq]
theorem k_iff (a b c d : Int32) : ¬ lg_cmp (kOf a b c d) (-1) = 0 ↔ ((0 ≤ a.toInt ∧ a.toInt ≤ 255) ∧ (0 ≤ b.toInt ∧ b.toInt ≤ 255) ∧ (0 ≤ c.toInt ∧ c.toInt ≤ 65535) ∧ (0 ≤ d.toInt ∧ d.toInt ≤ 255)) := by
  rw [lg_eq]
  unfold kOf
  simp only [i_lt (c := 0) (q := 0) rfl, i_gt (c := 255) (q := 255) rfl, i_le (c := 255) (q := 255) rfl, i_gt (c := 65535) (q := 65535) rfl]
  by_cases h1 : a.toInt < 0
  · rw [if_pos h1]; exact ⟨fun h => absurd rfl h, fun h => by omega⟩
  by_cases h2 : 255 < a.toInt
  · rw [if_neg h1, if_pos h2]; exact ⟨fun h => absurd rfl h, fun h => by omega⟩
  by_cases h3 : b.toInt < 0
  · rw [if_neg h1, if_neg h2, if_pos h3]; exact ⟨fun h => absurd rfl h, fun h => by omega⟩
  by_cases h4 : b.toInt ≤ 255
  · by_cases h5 : c.toInt < 0
    · rw [if_neg h1, if_neg h2, if_neg h3, if_pos h4, if_pos h5]; exact ⟨fun h => absurd rfl h, fun h => by omega⟩
    by_cases h6 : 65535 < c.toInt
    · rw [if_neg h1, if_neg h2, if_neg h3, if_pos h4, if_neg h5, if_pos h6]; exact ⟨fun h => absurd rfl h, fun h => by omega⟩
    by_cases h7 : d.toInt < 0
    · rw [if_neg h1, if_neg h2, if_neg h3, if_pos h4, if_neg h5, if_neg h6, if_pos h7]; exact ⟨fun h => absurd rfl h, fun h => by omega⟩
    by_cases h8 : d.toInt ≤ 255
    · rw [if_neg h1, if_neg h2, if_neg h3, if_pos h4, if_neg h5, if_neg h6, if_neg h7, if_pos h8]
      exact ⟨fun _ => by refine ⟨⟨?_, ?_⟩, ⟨?_, ?_⟩, ⟨?_, ?_⟩, ?_, ?_⟩ <;> omega, fun _ => k_key (by omega) (by omega) (by omega) (by omega)⟩
    · rw [if_neg h1, if_neg h2, if_neg h3, if_pos h4, if_neg h5, if_neg h6, if_neg h7, if_neg h8]; exact ⟨fun h => absurd rfl h, fun h => by omega⟩
  · rw [if_neg h1, if_neg h2, if_neg h3, if_neg h4]; exact ⟨fun h => absurd rfl h, fun h => by omega⟩
theorem inP_0_0 (a : Int32) : inP a.toInt64 0 0 ↔ 0 ≤ a.toInt ∧ a.toInt ≤ 0 := inP_of (by decide) (by decide)
theorem inP_0_m1 (a : Int32) : inP a.toInt64 0 (-1) ↔ 0 ≤ a.toInt ∧ a.toInt ≤ -1 := inP_of (by decide) (by decide)
theorem inP_0_3 (a : Int32) : inP a.toInt64 0 3 ↔ 0 ≤ a.toInt ∧ a.toInt ≤ 3 := inP_of (by decide) (by decide)
theorem inP_0_8 (a : Int32) : inP a.toInt64 0 8 ↔ 0 ≤ a.toInt ∧ a.toInt ≤ 8 := inP_of (by decide) (by decide)
theorem inP_0_1 (a : Int32) : inP a.toInt64 0 1 ↔ 0 ≤ a.toInt ∧ a.toInt ≤ 1 := inP_of (by decide) (by decide)
theorem inP_1_1024 (a : Int32) : inP a.toInt64 1 1024 ↔ 1 ≤ a.toInt ∧ a.toInt ≤ 1024 := inP_of (by decide) (by decide)
theorem inP_1_200 (a : Int32) : inP a.toInt64 1 200 ↔ 1 ≤ a.toInt ∧ a.toInt ≤ 200 := inP_of (by decide) (by decide)
theorem inP_1_1000 (a : Int32) : inP a.toInt64 1 1000 ↔ 1 ≤ a.toInt ∧ a.toInt ≤ 1000 := inP_of (by decide) (by decide)
theorem inP_0_255 (a : Int32) : inP a.toInt64 0 255 ↔ 0 ≤ a.toInt ∧ a.toInt ≤ 255 := inP_of (by decide) (by decide)
theorem inP_0_65535 (a : Int32) : inP a.toInt64 0 65535 ↔ 0 ≤ a.toInt ∧ a.toInt ≤ 65535 := inP_of (by decide) (by decide)
theorem inP_1_65535 (a : Int32) : inP a.toInt64 1 65535 ↔ 1 ≤ a.toInt ∧ a.toInt ≤ 65535 := inP_of (by decide) (by decide)
theorem i_lt_0 (a : Int32) : a < 0 ↔ a.toInt < 0 := i_lt (by decide)
theorem i_lt_1 (a : Int32) : a < 1 ↔ a.toInt < 1 := i_lt (by decide)
theorem i_lt_4 (a : Int32) : a < 4 ↔ a.toInt < 4 := i_lt (by decide)
theorem i_lt_9 (a : Int32) : a < 9 ↔ a.toInt < 9 := i_lt (by decide)
theorem i_gt_65535 (a : Int32) : 65535 < a ↔ 65535 < a.toInt := i_gt (by decide)
theorem i_le_0 (a : Int32) : a ≤ 0 ↔ a.toInt ≤ 0 := i_le (by decide)
theorem i_le_200 (a : Int32) : a ≤ 200 ↔ a.toInt ≤ 200 := i_le (by decide)
theorem i_le_1000 (a : Int32) : a ≤ 1000 ↔ a.toInt ≤ 1000 := i_le (by decide)
theorem i_le_1024 (a : Int32) : a ≤ 1024 ↔ a.toInt ≤ 1024 := i_le (by decide)
theorem i_eq_0 (a : Int32) : a = 0 ↔ a.toInt = 0 := i_eq (by decide)
theorem i_eq_1 (a : Int32) : a = 1 ↔ a.toInt = 1 := i_eq (by decide)
theorem i_eq_2 (a : Int32) : a = 2 ↔ a.toInt = 2 := i_eq (by decide)
theorem i_eq_3 (a : Int32) : a = 3 ↔ a.toInt = 3 := i_eq (by decide)
theorem i_eq_4 (a : Int32) : a = 4 ↔ a.toInt = 4 := i_eq (by decide)
theorem i_eq_5 (a : Int32) : a = 5 ↔ a.toInt = 5 := i_eq (by decide)
theorem i_eq_6 (a : Int32) : a = 6 ↔ a.toInt = 6 := i_eq (by decide)
theorem i_eq_7 (a : Int32) : a = 7 ↔ a.toInt = 7 := i_eq (by decide)
theorem i_eq_8 (a : Int32) : a = 8 ↔ a.toInt = 8 := i_eq (by decide)
theorem hv_1 {a : Int32} (h : ¬ a.toInt = 0) : (if a < 0 then -1 else if a ≤ 0 then a else -1) = (-1 : Int32) := by
  by_cases h2 : a < 0
  · rw [if_pos h2]
  · rw [if_neg h2, if_neg (show ¬ a ≤ 0 from by rw [i_le_0]; rw [i_lt_0] at h2; omega)]
theorem hv_14 {a : Int32} (h : ¬ (1 ≤ a.toInt ∧ a.toInt ≤ 1024)) : (if a < 1 then -1 else if a ≤ 1024 then 0 else -1) = (-1 : Int32) := by
  by_cases h2 : a < 1
  · rw [if_pos h2]
  · rw [if_neg h2, if_neg (show ¬ a ≤ 1024 from by rw [i_le_1024]; rw [i_lt_1] at h2; omega)]
theorem hk_6 {a b c d f : Int32} (h : (0 ≤ a.toInt ∧ a.toInt ≤ 255) ∧ (0 ≤ b.toInt ∧ b.toInt ≤ 255) ∧ (0 ≤ c.toInt ∧ c.toInt ≤ 65535) ∧ (0 ≤ d.toInt ∧ d.toInt ≤ 255) ∧ (1 ≤ f.toInt ∧ f.toInt ≤ 65535)) : ¬ lg_cmp (kOf a b c d) (-1) = 0 ∧ ¬ f < 1 ∧ ¬ 65535 < f :=
  ⟨(k_iff a b c d).mpr ⟨h.1, h.2.1, h.2.2.1, h.2.2.2.1⟩, by rw [i_lt_1]; omega, by rw [i_gt_65535]; omega⟩
theorem hk_6x {a b c d f : Int32} (h : ¬ ((0 ≤ a.toInt ∧ a.toInt ≤ 255) ∧ (0 ≤ b.toInt ∧ b.toInt ≤ 255) ∧ (0 ≤ c.toInt ∧ c.toInt ≤ 65535) ∧ (0 ≤ d.toInt ∧ d.toInt ≤ 255) ∧ (1 ≤ f.toInt ∧ f.toInt ≤ 65535))) : ¬ (¬ lg_cmp (kOf a b c d) (-1) = 0 ∧ ¬ f < 1 ∧ ¬ 65535 < f) := by
  intro q
  obtain ⟨q1, q2, q3⟩ := q
  obtain ⟨r1, r2, r3, r4⟩ := (k_iff a b c d).mp q1
  rw [i_lt_1] at q2
  rw [i_gt_65535] at q3
  exact h ⟨r1, r2, r3, r4, by omega, by omega⟩
theorem hk_7 {a b c d f g : Int32} (h : (0 ≤ a.toInt ∧ a.toInt ≤ 255) ∧ (0 ≤ b.toInt ∧ b.toInt ≤ 255) ∧ (0 ≤ c.toInt ∧ c.toInt ≤ 65535) ∧ (0 ≤ d.toInt ∧ d.toInt ≤ 255) ∧ (1 ≤ f.toInt ∧ f.toInt ≤ 65535)) (h1 : 1 ≤ g.toInt ∧ g.toInt ≤ 200) : ¬ lg_cmp (kOf a b c d) (-1) = 0 ∧ ¬ f < 1 ∧ ¬ 65535 < f ∧ ¬ g < 1 ∧ g ≤ 200 :=
  ⟨(hk_6 h).1, (hk_6 h).2.1, (hk_6 h).2.2, by rw [i_lt_1]; omega, by rw [i_le_200]; omega⟩
theorem hk_7x1 {a b c d f g : Int32} (h : ¬ ((0 ≤ a.toInt ∧ a.toInt ≤ 255) ∧ (0 ≤ b.toInt ∧ b.toInt ≤ 255) ∧ (0 ≤ c.toInt ∧ c.toInt ≤ 65535) ∧ (0 ≤ d.toInt ∧ d.toInt ≤ 255) ∧ (1 ≤ f.toInt ∧ f.toInt ≤ 65535))) : ¬ (¬ lg_cmp (kOf a b c d) (-1) = 0 ∧ ¬ f < 1 ∧ ¬ 65535 < f ∧ ¬ g < 1 ∧ g ≤ 200) := fun q => hk_6x h ⟨q.1, q.2.1, q.2.2.1⟩
theorem hk_7x2 {a b c d f g : Int32} (h : ¬ (1 ≤ g.toInt ∧ g.toInt ≤ 200)) : ¬ (¬ lg_cmp (kOf a b c d) (-1) = 0 ∧ ¬ f < 1 ∧ ¬ 65535 < f ∧ ¬ g < 1 ∧ g ≤ 200) := by
  intro q
  obtain ⟨-, -, -, q2, q3⟩ := q
  rw [i_lt_1] at q2
  rw [i_le_200] at q3
  exact h ⟨by omega, by omega⟩

/-! the class's configuration that is being read: what is told of it -/
noncomputable def pcN (m : Nat) : Nat := (List.range 9).foldl (fun a k => a + m / 2 ^ k % 2) 0
theorem mskC_all : ∀ m, m < 512 → ∀ j, j < 9 → ((nI m >>> (nI j &&& 31)) &&& 1 = 1 ∨ (nI m ||| ((1 : Int32) <<< (nI j &&& 31)) = nI (m + 2 ^ j) ∧ m + 2 ^ j < 512 ∧ pcN (m + 2 ^ j) = pcN m + 1 ∧ pcN m ≤ 8)) := by decide +kernel
theorem mskC {m j : Nat} (hm : m < 512) (hj : j < 9) (h : ¬ (nI m >>> (nI j &&& 31)) &&& 1 = 1) : nI m ||| ((1 : Int32) <<< (nI j &&& 31)) = nI (m + 2 ^ j) ∧ m + 2 ^ j < 512 ∧ pcN (m + 2 ^ j) = pcN m + 1 ∧ pcN m ≤ 8 := (mskC_all m hm j hj).resolve_left h
theorem pcN_le : ∀ m, m < 512 → pcN m ≤ 9 := by decide +kernel
theorem and1C (v : Int32) : v &&& 1 = 0 ∨ v &&& 1 = 1 := by
  obtain ⟨j, hj, e⟩ := pk_andE v (m := 1) 1 (by decide)
  rcases (show j = 0 ∨ j = 1 by omega) with rfl | rfl
  · exact Or.inl e
  · exact Or.inr e
/-- the configuration's object: t templates -/
noncomputable def CfO (G : EnvG) (x t : Nat) (Φ : Hm) : Prop := ∃ sp : Int32, Φ (x + 25) = some (o_ 3 [.ref (x + 26), .ref (x + 27), .ref (x + 28), .ref (x + 29), .int (nI t), .int sp])
/-- the templates from t on are empty -/
noncomputable def CfZ (G : EnvG) (x t : Nat) (Φ : Hm) : Prop := ∀ u, t ≤ u → u < 4 → Φ (x + (30 + 4 * u)) = some (o_ 12 [.ref (x + (30 + 4 * u + 1)), .int (nI 0), .int (nI 0), .int 0])
/-- the template that is being read: m fields, their set mm -/
noncomputable def CfT (G : EnvG) (x t m mm : Nat) (Φ : Hm) : Prop := ∃ rb : Int32, Φ (x + (30 + 4 * t)) = some (o_ 12 [.ref (x + (30 + 4 * t + 1)), .int (nI m), .int (nI mm), .int rb])
theorem CfO.fr {G : EnvG} {x t : Nat} {md : Nat → Prop} {Φ Φ1 : Hm} (h : CfO G x t Φ) (hF : Fr x md Φ Φ1) (hm : ∀ j, md j → ¬ j = 25) : CfO G x t Φ1 := by
  obtain ⟨sp, h⟩ := h
  exact ⟨sp, (hF (x + 25) (fun j q hj => hm j hj (by omega))).trans h⟩
theorem CfO.off {G : EnvG} {x t k : Nat} {e : va_E} {Φ Φ1 : Hm} (h : CfO G x t Φ) (h1 : Φ1 = fset Φ (x + k) e) (hk : ¬ k = 25) : CfO G x t Φ1 := by
  obtain ⟨sp, h⟩ := h
  exact ⟨sp, (fset_fr h1 (by omega)).trans h⟩
theorem CfZ.fr {G : EnvG} {x t : Nat} {md : Nat → Prop} {Φ Φ1 : Hm} (h : CfZ G x t Φ) (hF : Fr x md Φ Φ1) (hm : ∀ j, md j → ∀ u, t ≤ u → u < 4 → ¬ j = 30 + 4 * u) : CfZ G x t Φ1 := fun u h1 h2 => (hF _ (fun j q hj => hm j hj u h1 h2 (by omega))).trans (h u h1 h2)
theorem CfZ.off {G : EnvG} {x t k : Nat} {e : va_E} {Φ Φ1 : Hm} (h : CfZ G x t Φ) (h1 : Φ1 = fset Φ (x + k) e) (hk : ∀ u, t ≤ u → u < 4 → ¬ k = 30 + 4 * u) : CfZ G x t Φ1 := fun u h2 h3 => (fset_fr h1 (by have := hk u h2 h3; omega)).trans (h u h2 h3)
theorem CfT.fr {G : EnvG} {x t m mm : Nat} {md : Nat → Prop} {Φ Φ1 : Hm} (h : CfT G x t m mm Φ) (hF : Fr x md Φ Φ1) (hm : ∀ j, md j → ¬ j = 30 + 4 * t) : CfT G x t m mm Φ1 := by
  obtain ⟨rb, h⟩ := h
  exact ⟨rb, (hF _ (fun j e hj => hm j hj (by omega))).trans h⟩
theorem CfT.off {G : EnvG} {x t m mm k : Nat} {e : va_E} {Φ Φ1 : Hm} (h : CfT G x t m mm Φ) (h1 : Φ1 = fset Φ (x + k) e) (hk : ¬ k = 30 + 4 * t) : CfT G x t m mm Φ1 := by
  obtain ⟨rb, h⟩ := h
  exact ⟨rb, (fset_fr h1 (by omega)).trans h⟩
theorem CfZ.up {G : EnvG} {x t : Nat} {Φ : Hm} (h : CfZ G x t Φ) : CfZ G x (t + 1) Φ := fun u h1 h2 => h u (by omega) h2
theorem CfZ.at {G : EnvG} {x t : Nat} {Φ : Hm} (h : CfZ G x t Φ) (ht : t < 4) : CfT G x t 0 0 Φ := ⟨0, h t (Nat.le_refl _) ht⟩
theorem leT_lo : ∀ w, w < 9 → (leT w).toInt = loS w := by decide
theorem moT_hi : ∀ w, w < 9 → (moT w).toInt = hiS w := by decide
theorem wd_nat {L : List (List Nat)} {k s e : Nat} {b : Nat → Int32} (h : ¬ wd L b k s e = -1) : ∃ j, j < L.length ∧ wd L b k s e = nI j := by
  by_cases hk : k = 2
  · obtain ⟨r, hr⟩ := WI_ex L b s (e - s)
    have e1 := wd_of hk hr
    rcases hr with ⟨j, h1, h2, -, -⟩ | ⟨h1, -⟩
    · exact ⟨j, h1, e1.trans h2⟩
    · exact absurd (e1.trans h1) h
  · exact absurd (wd_no hk) h
theorem wd_2 {L : List (List Nat)} {k s e : Nat} {b : Nat → Int32} (h : ¬ wd L b k s e = -1) : k = 2 := by
  by_cases hk : k = 2
  · exact hk
  · exact absurd (wd_no hk) h
theorem use_hi {t : Nat} (ht : t ≤ 4) : (nI t - 1).toInt = (nI t).toInt - 1 := by
  rcases (show t = 0 ∨ t = 1 ∨ t = 2 ∨ t = 3 ∨ t = 4 by omega) with rfl | rfl | rfl | rfl | rfl <;> decide
/-- the fields of a template, one by one -/
theorem tplF {b : Nat → Int32} {p m mm : Nat} {c : Cf} {X : RS} (h : X = tplA b (10 - m) p c m (nI mm)) (hm : m ≤ 9) : X = tplA b (9 - m + 1) p c m (nI mm) := by
  rw [show 9 - m + 1 = 10 - m by omega]
  exact h
theorem tplS {b : Nat → Int32} {p q s e m mm j : Nat} {c : Cf} {X : RS} (h : X = tplA b (10 - m) p c m (nI mm)) (hm : m ≤ 9) (hT : Tk b p q s e) (hn : ¬ (¬ m = 0 ∧ q = 4)) (hw : wd fdW b q s e = nI j) (hj : j < 9) (hb : ¬ (nI mm >>> (nI j &&& 31)) &&& 1 = 1) (hmm : mm < 512) : X = tplA b (10 - (m + 1)) e (upd c (15 + 9 * (c 10).toNatClampNeg + m) (nI j)) (m + 1) (nI (mm + 2 ^ j)) := by
  rw [tplF h hm, tplA_s hT hn hw (nI_nm1x (by omega)) hb, (mskC hmm hj hb).1, show 10 - (m + 1) = 9 - m by omega]
theorem clr_s {x i : Nat} {Φ Φ1 : Hm} {md : Nat → Prop} (h : ∀ u, u < i → Φ (x + (30 + 4 * u)) = some (o_ 12 [.ref (x + (30 + 4 * u + 1)), .int (nI 0), .int (nI 0), .int 0])) (hF : Fr x md Φ Φ1) (hm : ∀ j, md j → j = 28 + 2 + 4 * i) (h1 : Φ1 (x + (28 + 2 + 4 * i)) = some (o_ 12 [.ref (x + (28 + 2 + 4 * i + 1)), .int (nI 0), .int (nI 0), .int 0])) : ∀ u, u < i + 1 → Φ1 (x + (30 + 4 * u)) = some (o_ 12 [.ref (x + (30 + 4 * u + 1)), .int (nI 0), .int (nI 0), .int 0]) := by
  intro u hu
  by_cases e : u = i
  · subst e
    exact h1
  · exact (hF _ (fun j q hj => by have := hm j hj; omega)).trans (h u (by omega))
theorem clr_mv {x i : Nat} {Φ Φ1 : Hm} {md : Nat → Prop} (h : ∀ u, u < i → Φ (x + (30 + 4 * u)) = some (o_ 12 [.ref (x + (30 + 4 * u + 1)), .int (nI 0), .int (nI 0), .int 0])) (hF : Fr x md Φ Φ1) (hm : ∀ j, md j → ∀ u, u < i → ¬ j = 30 + 4 * u) : ∀ u, u < i → Φ1 (x + (30 + 4 * u)) = some (o_ 12 [.ref (x + (30 + 4 * u + 1)), .int (nI 0), .int (nI 0), .int 0]) := fun u hu => (hF _ (fun j q hj => hm j hj u hu (by omega))).trans (h u hu)

/-! templates, as sets: the fields of a row f one by one; those of them that a set s has -/
noncomputable def bitI (v s : Int32) : Prop := (s >>> (v &&& 31)) &&& 1 = 1
/-- the set, the number and the bytes of those of the first j fields that s has -/
noncomputable def fS (f : Nat → Int32) (s : Int32) : Nat → Int32
  | 0 => 0
  | j + 1 => @ite Int32 (bitI (f j) s) (Classical.propDecidable _) (fS f s j ||| ((1 : Int32) <<< (f j &&& 31))) (fS f s j)
noncomputable def fM (f : Nat → Int32) (s : Int32) : Nat → Nat
  | 0 => 0
  | j + 1 => @ite Nat (bitI (f j) s) (Classical.propDecidable _) (fM f s j + 1) (fM f s j)
noncomputable def fB_ (f : Nat → Int32) (s : Int32) : Nat → Int32
  | 0 => 0
  | j + 1 => @ite Int32 (bitI (f j) s) (Classical.propDecidable _) (fB_ f s j + fbT (f j).toNatClampNeg) (fB_ f s j)
theorem fS_y {f : Nat → Int32} {s : Int32} {j : Nat} (h : bitI (f j) s) : fS f s (j + 1) = fS f s j ||| ((1 : Int32) <<< (f j &&& 31)) := if_pos h
theorem fS_n {f : Nat → Int32} {s : Int32} {j : Nat} (h : ¬ bitI (f j) s) : fS f s (j + 1) = fS f s j := if_neg h
theorem fM_y {f : Nat → Int32} {s : Int32} {j : Nat} (h : bitI (f j) s) : fM f s (j + 1) = fM f s j + 1 := if_pos h
theorem fM_n {f : Nat → Int32} {s : Int32} {j : Nat} (h : ¬ bitI (f j) s) : fM f s (j + 1) = fM f s j := if_neg h
theorem fB_y {f : Nat → Int32} {s : Int32} {j : Nat} (h : bitI (f j) s) : fB_ f s (j + 1) = fB_ f s j + fbT (f j).toNatClampNeg := if_pos h
theorem fB_n {f : Nat → Int32} {s : Int32} {j : Nat} (h : ¬ bitI (f j) s) : fB_ f s (j + 1) = fB_ f s j := if_neg h
theorem fM_le (f : Nat → Int32) (s : Int32) : ∀ j, fM f s j ≤ j := by
  intro j
  induction j with
  | zero => exact Nat.le_refl _
  | succ j ih =>
    by_cases h : bitI (f j) s
    · rw [fM_y h]
      omega
    · rw [fM_n h]
      omega
/-- all different, and fields -/
noncomputable def dF (f : Nat → Int32) (m : Nat) : Prop := ∀ j, j < m → (∃ n, n ≤ 8 ∧ f j = nI n) ∧ ¬ bitI (f j) (fS f 511 j)
theorem fS_ext {f g : Nat → Int32} {s : Int32} : ∀ m, (∀ j, j < m → f j = g j) → fS f s m = fS g s m ∧ fM f s m = fM g s m ∧ fB_ f s m = fB_ g s m := by
  intro m
  induction m with
  | zero => intro _; exact ⟨rfl, rfl, rfl⟩
  | succ m ih =>
    intro h
    obtain ⟨h1, h2, h3⟩ := ih (fun j hj => h j (by omega))
    have h4 := h m (by omega)
    by_cases hb : bitI (f m) s
    · have hb2 : bitI (g m) s := h4 ▸ hb
      rw [fS_y hb, fS_y hb2, fM_y hb, fM_y hb2, fB_y hb, fB_y hb2, h1, h2, h3, h4]
      exact ⟨rfl, rfl, rfl⟩
    · have hb2 : ¬ bitI (g m) s := fun q => hb (h4 ▸ q)
      rw [fS_n hb, fS_n hb2, fM_n hb, fM_n hb2, fB_n hb, fB_n hb2]
      exact ⟨h1, h2, h3⟩
theorem bit_k : ∀ a, a < 512 → ∀ n, n < 9 → (bitI (nI n) (nI a) ↔ a / 2 ^ n % 2 = 1) := by
  unfold bitI
  decide +kernel
theorem bit_511 {v : Int32} (h : ∃ n, n ≤ 8 ∧ v = nI n) : bitI v 511 := by
  obtain ⟨n, hn, rfl⟩ := h
  have := (bit_k 511 (by decide) n (by omega)).mpr (by
    have : ∀ n, n < 9 → 511 / 2 ^ n % 2 = 1 := by decide
    exact this n (by omega))
  exact this
theorem or_k : ∀ a, a < 512 → ∀ n, n < 9 → a / 2 ^ n % 2 = 0 → nI a ||| ((1 : Int32) <<< (nI n &&& 31)) = nI (a + 2 ^ n) ∧ a + 2 ^ n < 512 := by decide +kernel
theorem and_k : ∀ a, a < 512 → ∀ b, b < 512 → nI a &&& nI b = nI (a &&& b) := by
  intro a ha b hb
  apply Int32.toBitVec_inj.mp
  rw [Int32.toBitVec_and]
  apply BitVec.eq_of_toNat_eq
  have e : ∀ w, w < 512 → (nI w).toBitVec.toNat = w := by
    intro w hw
    show (BitVec.ofNat 32 w).toNat = w
    rw [BitVec.toNat_ofNat]
    exact Nat.mod_eq_of_lt (by omega)
  have hab : a &&& b ≤ a := Nat.and_le_left
  rw [BitVec.toNat_and, e a ha, e b hb, e _ (by omega)]
/-- the set of the chosen ones is the whole set and the choice -/
theorem fS_and {f : Nat → Int32} {b : Nat} (hb : b < 512) : ∀ m, dF f m → ∃ a, a < 512 ∧ fS f 511 m = nI a ∧ fS f (nI b) m = nI (a &&& b) := by
  intro m
  induction m with
  | zero => intro _; exact ⟨0, by decide, rfl, by rw [Nat.zero_and]; rfl⟩
  | succ m ih =>
    intro h
    obtain ⟨a, h1, h2, h3⟩ := ih (fun j hj => h j (by omega))
    obtain ⟨⟨n, hn, e⟩, hd⟩ := h m (by omega)
    have h511 : bitI (f m) 511 := bit_511 ⟨n, hn, e⟩
    rw [h2, e, bit_k a h1 n (by omega)] at hd
    have h0 : a / 2 ^ n % 2 = 0 := by omega
    obtain ⟨g1, g2⟩ := or_k a h1 n (by omega) h0
    refine ⟨a + 2 ^ n, g2, by rw [fS_y h511, h2, e, g1], ?_⟩
    have key : ∀ a, a < 512 → ∀ n, n < 9 → a / 2 ^ n % 2 = 0 → ∀ b, b < 512 → (b / 2 ^ n % 2 = 1 → (a + 2 ^ n) &&& b = (a &&& b) + 2 ^ n ∧ (a &&& b) / 2 ^ n % 2 = 0) ∧ (b / 2 ^ n % 2 = 0 → (a + 2 ^ n) &&& b = a &&& b) := by
      intro a ha n hn h0 b hb
      have e1 : a + 2 ^ n = a ||| 2 ^ n := by
        have h9 : ∀ a, a < 512 → ∀ n, n < 9 → a / 2 ^ n % 2 = 0 → a + 2 ^ n = a ||| 2 ^ n := by decide +kernel
        exact h9 a ha n hn h0
      have e2 : (a ||| 2 ^ n) &&& b = (a &&& b) ||| (2 ^ n &&& b) := Nat.and_or_distrib_right ..
      have h8 : ∀ n, n < 9 → ∀ b, b < 512 → (b / 2 ^ n % 2 = 1 → 2 ^ n &&& b = 2 ^ n) ∧ (b / 2 ^ n % 2 = 0 → 2 ^ n &&& b = 0) := by decide +kernel
      have h7 : (a &&& b) / 2 ^ n % 2 = 0 := by
        have t1 : (a &&& b).testBit n = (a.testBit n && b.testBit n) := Nat.testBit_and ..
        have t2 : ∀ w : Nat, w.testBit n = decide (w / 2 ^ n % 2 = 1) := fun w => Nat.testBit_eq_decide_div_mod_eq
        rw [t2, t2, show decide (a / 2 ^ n % 2 = 1) = false from decide_eq_false (by omega), Bool.false_and] at t1
        have := of_decide_eq_false t1
        omega
      have hab : a &&& b < 512 := Nat.lt_of_le_of_lt Nat.and_le_left ha
      refine ⟨fun h => ?_, fun h => ?_⟩
      · rw [e1, e2, (h8 n hn b hb).1 h]
        have h9 : ∀ a, a < 512 → ∀ n, n < 9 → a / 2 ^ n % 2 = 0 → a + 2 ^ n = a ||| 2 ^ n := by decide +kernel
        exact ⟨(h9 _ hab n hn h7).symm, h7⟩
      · rw [e1, e2, (h8 n hn b hb).2 h, Nat.or_zero]
    by_cases hs : bitI (f m) (nI b)
    · rw [fS_y hs, h3, e]
      rw [e, bit_k b hb n (by omega)] at hs
      obtain ⟨k1, k2⟩ := (key a h1 n (by omega) h0 b hb).1 hs
      rw [k1]
      exact (or_k _ (Nat.lt_of_le_of_lt Nat.and_le_left h1) n (by omega) k2).1
    · rw [fS_n hs, h3]
      rw [e, bit_k b hb n (by omega)] at hs
      rw [(key a h1 n (by omega) h0 b hb).2 (by omega)]
/-- a chosen one isn't among those before it -/
theorem fS_new {f : Nat → Int32} {b m j : Nat} (hb : b < 512) (h : dF f m) (hj : j < m) : ¬ bitI (f j) (fS f (nI b) j) := by
  obtain ⟨a, h1, h2, h3⟩ := fS_and hb j (fun i hi => h i (by omega))
  obtain ⟨⟨n, hn, e⟩, hd⟩ := h j hj
  rw [h2, e, bit_k a h1 n (by omega)] at hd
  rw [h3, e, bit_k _ (Nat.lt_of_le_of_lt Nat.and_le_left h1) n (by omega)]
  have t1 : (a &&& b).testBit n = (a.testBit n && b.testBit n) := Nat.testBit_and ..
  have t2 : ∀ w : Nat, w.testBit n = decide (w / 2 ^ n % 2 = 1) := fun w => Nat.testBit_eq_decide_div_mod_eq
  rw [t2, t2, show decide (a / 2 ^ n % 2 = 1) = false from decide_eq_false hd, Bool.false_and] at t1
  exact of_decide_eq_false t1
/-- the bytes of the fields below k of a set -/
noncomputable def lenK (a : Nat) : Nat → Int32
  | 0 => 0
  | k + 1 => if a / 2 ^ k % 2 = 1 then lenK a k + fbT k else lenK a k
theorem lenK_add : ∀ a, a < 512 → ∀ n, n < 9 → a / 2 ^ n % 2 = 0 → lenK (a + 2 ^ n) 9 = lenK a 9 + fbT n := by decide +kernel
theorem fB_len {f : Nat → Int32} {b : Nat} (hb : b < 512) : ∀ m, dF f m → ∀ a, a < 512 → fS f (nI b) m = nI a → fB_ f (nI b) m = lenK a 9 := by
  intro m
  induction m with
  | zero =>
    intro _ a ha h
    have h1 : nI 0 = nI a := h
    have h2 := (nI_eq (a := 0) (b := a) (by decide) (by omega)).mp h1
    subst h2
    exact show (0 : Int32) = lenK 0 9 by decide
  | succ m ih =>
    intro h a ha hs
    have hd := fS_new hb h (Nat.lt_succ_self m)
    obtain ⟨c, -, -, h3⟩ := fS_and hb m (fun i hi => h i (by omega))
    obtain ⟨c0, hc0, hc1, hc2⟩ := fS_and hb m (fun i hi => h i (by omega))
    have hcl : c0 &&& b < 512 := Nat.lt_of_le_of_lt Nat.and_le_left hc0
    have ih2 := ih (fun i hi => h i (by omega)) (c0 &&& b) hcl hc2
    obtain ⟨⟨n, hn, e⟩, -⟩ := h m (Nat.lt_succ_self m)
    by_cases hb2 : bitI (f m) (nI b)
    · rw [hc2, e, bit_k _ hcl n (by omega)] at hd
      obtain ⟨g1, g2⟩ := or_k _ hcl n (by omega) (by omega)
      rw [fS_y hb2, hc2, e, g1] at hs
      have h5 := (nI_eq (a := (c0 &&& b) + 2 ^ n) (b := a) (by omega) (by omega)).mp hs
      subst h5
      rw [fB_y hb2, ih2, e, nI_clamp (by omega)]
      exact (lenK_add _ hcl n (by omega) (by omega)).symm
    · rw [fS_n hb2, hc2] at hs
      have h5 := (nI_eq (a := c0 &&& b) (b := a) (by omega) (by omega)).mp hs
      subst h5
      rw [fB_n hb2, ih2]
/-! what a number read lies between -/
theorem numAt_rg {b : Nat → Int32} {p : Nat} {lo hi : Int} (h : (numAt b p lo hi).1 = 0) : lo ≤ ((numAt b p lo hi).2.2 : Int) ∧ ((numAt b p lo hi).2.2 : Int) ≤ hi := by
  unfold numAt at h ⊢
  by_cases h1 : (tk b p).1 = 3
  · rw [if_pos h1] at h ⊢
    by_cases h2 : lo ≤ (nv b (tk b p).2.1 ((tk b p).2.2 - (tk b p).2.1) : Int) ∧ (nv b (tk b p).2.1 ((tk b p).2.2 - (tk b p).2.1) : Int) ≤ hi
    · rw [if_pos h2]
      exact h2
    · rw [if_neg h2] at h
      exact absurd (show (2 : Nat) = 0 from h) (by decide)
  · rw [if_neg h1] at h
    exact absurd (show (1 : Nat) = 0 from h) (by decide)
theorem numAt_255 {b : Nat → Int32} {p e v : Nat} (h : numAt b p (0 : Int32).toInt (255 : Int32).toInt = (0, e, v)) : v < 256 := by
  have h1 : (numAt b p (0 : Int32).toInt (255 : Int32).toInt).1 = 0 := by rw [h]
  have h2 := numAt_rg h1
  rw [h] at h2
  have h3 : (255 : Int32).toInt = 255 := by decide
  have h4 : (v : Int) ≤ (255 : Int32).toInt := h2.2
  omega

/-! a configuration c (the reference's layout) in the class's object at x + k: all templates but w are as c says, those from t on are empty -/
theorem ai_inj0 {G : EnvG} {n : Nat} {f g : Nat → Int32} (h : some (ai_ G n f) = some (ai_ G n g)) : f = g := by
  have h1 := Option.some.inj h
  have h2 := Sum.inl.inj h1
  have h3 := (Prod.mk.inj (Prod.mk.inj h2).2).2
  exact Sum.inl.inj h3
noncomputable def WT (G : EnvG) (x a t u : Nat) (c : Cf) (Φ : Hm) : Prop := ∃ (m : Nat) (f : Nat → Int32), (u < t → 1 ≤ m ∧ c (11 + u) = nI m ∧ ∀ j, j < m → f j = c (15 + 9 * u + j)) ∧ (t ≤ u → m = 0) ∧ m ≤ 9 ∧ dF f m ∧ Φ (x + a) = some (o_ 12 [.ref (x + (a + 1)), .int (nI m), .int (fS f 511 m), .int (fB_ f 511 m)]) ∧ Φ (x + (a + 1)) = some (ai_ G 9 f)
noncomputable def CfP (G : EnvG) (x k t w : Nat) (c : Cf) (Φ : Hm) : Prop := c 10 = nI t ∧ t ≤ 4 ∧ Φ (x + k) = some (o_ 3 [.ref (x + (k + 1)), .ref (x + (k + 2)), .ref (x + (k + 3)), .ref (x + (k + 4)), .int (nI t), .int (c 9)]) ∧ (∃ f, Φ (x + (k + 1)) = some (ai_ G 9 f) ∧ ∀ j, j < 9 → f j = c j) ∧ (∃ f, Φ (x + (k + 2)) = some (ai_ G 256 f) ∧ ∀ j, j < 256 → f j = c (51 + j)) ∧ (∀ u, u < 4 → ¬ u = w → WT G x (k + 5 + 4 * u) t u c Φ) ∧ ∃ s : Nat, s < 512 ∧ c 9 = nI s
/-- the template w that is being read: m fields of the row f -/
noncomputable def CfU (G : EnvG) (x k w m : Nat) (f : Nat → Int32) (Φ : Hm) : Prop := dF f m ∧ Φ (x + (k + 5 + 4 * w)) = some (o_ 12 [.ref (x + (k + 5 + 4 * w + 1)), .int (nI m), .int (fS f 511 m), .int (fB_ f 511 m)]) ∧ Φ (x + (k + 5 + 4 * w + 1)) = some (ai_ G 9 f)
theorem WT.eq {G : EnvG} {x a t u : Nat} {c : Cf} {Φ Φ1 : Hm} (h : WT G x a t u c Φ) (e1 : Φ1 (x + a) = Φ (x + a)) (e2 : Φ1 (x + (a + 1)) = Φ (x + (a + 1))) : WT G x a t u c Φ1 := by
  obtain ⟨m, f, h1, h2, h3, h4, h5, h6⟩ := h
  exact ⟨m, f, h1, h2, h3, h4, e1.trans h5, e2.trans h6⟩
theorem WT.cong {G : EnvG} {x a t u : Nat} {c c2 : Cf} {Φ : Hm} (h : WT G x a t u c Φ) (e1 : c2 (11 + u) = c (11 + u)) (e2 : ∀ j, j < 9 → c2 (15 + 9 * u + j) = c (15 + 9 * u + j)) : WT G x a t u c2 Φ := by
  obtain ⟨m, f, h1, h2, h3, h4, h5, h6⟩ := h
  refine ⟨m, f, fun hu => ?_, h2, h3, h4, h5, h6⟩
  obtain ⟨g1, g2, g3⟩ := h1 hu
  exact ⟨g1, e1.trans g2, fun j hj => (g3 j hj).trans (e2 j (by omega)).symm⟩
theorem CfP.mv {G : EnvG} {x k t w : Nat} {c : Cf} {Φ Φ1 : Hm} (h : CfP G x k t w c Φ) (e0 : Φ1 (x + k) = Φ (x + k)) (e1 : Φ1 (x + (k + 1)) = Φ (x + (k + 1))) (e2 : Φ1 (x + (k + 2)) = Φ (x + (k + 2))) (e3 : ∀ u, u < 4 → ¬ u = w → Φ1 (x + (k + 5 + 4 * u)) = Φ (x + (k + 5 + 4 * u)) ∧ Φ1 (x + (k + 5 + 4 * u + 1)) = Φ (x + (k + 5 + 4 * u + 1))) : CfP G x k t w c Φ1 := by
  obtain ⟨h1, h2, h3, ⟨f, h4, h5⟩, ⟨g, h6, h7⟩, h8, h9⟩ := h
  exact ⟨h1, h2, e0.trans h3, ⟨f, e1.trans h4, h5⟩, ⟨g, e2.trans h6, h7⟩, fun u hu hw => (h8 u hu hw).eq (e3 u hu hw).1 (e3 u hu hw).2, h9⟩
theorem CfP.fr {G : EnvG} {x k t w : Nat} {c : Cf} {md : Nat → Prop} {Φ Φ1 : Hm} (h : CfP G x k t w c Φ) (hF : Fr x md Φ Φ1) (hm : ∀ j, md j → ∀ u, (j = k ∨ j = k + 1 ∨ j = k + 2 ∨ (u < 4 ∧ ¬ u = w ∧ (j = k + 5 + 4 * u ∨ j = k + 5 + 4 * u + 1))) → False) : CfP G x k t w c Φ1 :=
  CfP.mv h (hF _ (fun j q hj => hm j hj 0 (by omega))) (hF _ (fun j q hj => hm j hj 0 (by omega))) (hF _ (fun j q hj => hm j hj 0 (by omega))) (fun u hu hw => ⟨hF _ (fun j q hj => hm j hj u (by omega)), hF _ (fun j q hj => hm j hj u (by omega))⟩)
theorem CfP.off {G : EnvG} {x t w k k0 : Nat} {c : Cf} {e : va_E} {Φ Φ1 : Hm} (h : CfP G x k0 t w c Φ) (h1 : Φ1 = fset Φ (x + k) e) (hk : ∀ u, (k = k0 ∨ k = k0 + 1 ∨ k = k0 + 2 ∨ (u < 4 ∧ ¬ u = w ∧ (k = k0 + 5 + 4 * u ∨ k = k0 + 5 + 4 * u + 1))) → False) : CfP G x k0 t w c Φ1 :=
  CfP.mv h (fset_fr h1 (fun q => hk 0 (by omega))) (fset_fr h1 (fun q => hk 0 (by omega))) (fset_fr h1 (fun q => hk 0 (by omega))) (fun u hu hw => ⟨fset_fr h1 (fun q => hk u (by omega)), fset_fr h1 (fun q => hk u (by omega))⟩)
theorem CfU.mv {G : EnvG} {x k w m : Nat} {f : Nat → Int32} {Φ Φ1 : Hm} (h : CfU G x k w m f Φ) (e1 : Φ1 (x + (k + 5 + 4 * w)) = Φ (x + (k + 5 + 4 * w))) (e2 : Φ1 (x + (k + 5 + 4 * w + 1)) = Φ (x + (k + 5 + 4 * w + 1))) : CfU G x k w m f Φ1 := ⟨h.1, e1.trans h.2.1, e2.trans h.2.2⟩
theorem CfU.fr {G : EnvG} {x k w m : Nat} {f : Nat → Int32} {md : Nat → Prop} {Φ Φ1 : Hm} (h : CfU G x k w m f Φ) (hF : Fr x md Φ Φ1) (hm : ∀ j, md j → ¬ (j = k + 5 + 4 * w ∨ j = k + 5 + 4 * w + 1)) : CfU G x k w m f Φ1 := CfU.mv h (hF _ (fun j q hj => hm j hj (by omega))) (hF _ (fun j q hj => hm j hj (by omega)))
theorem CfU.off {G : EnvG} {x w m k k0 : Nat} {f : Nat → Int32} {e : va_E} {Φ Φ1 : Hm} (h : CfU G x k0 w m f Φ) (h1 : Φ1 = fset Φ (x + k) e) (hk : ¬ (k = k0 + 5 + 4 * w ∨ k = k0 + 5 + 4 * w + 1)) : CfU G x k0 w m f Φ1 := CfU.mv h (fset_fr h1 (by omega)) (fset_fr h1 (by omega))
/-- the configuration's object -/
theorem CfP.obj {G : EnvG} {x k t w : Nat} {c : Cf} {Φ : Hm} (h : CfP G x k t w c Φ) : Φ (x + k) = some (o_ 3 [.ref (x + (k + 1)), .ref (x + (k + 2)), .ref (x + (k + 3)), .ref (x + (k + 4)), .int (nI t), .int (c 9)]) := h.2.2.1
/-- a template is begun: the empty one at t -/
theorem CfP.opn {G : EnvG} {x k t : Nat} {c : Cf} {Φ : Hm} (h : CfP G x k t 4 c Φ) (ht : t < 4) : CfP G x k t t c Φ ∧ ∃ f, CfU G x k t 0 f Φ := by
  obtain ⟨h1, h2, h3, h4, h5, h6, h7⟩ := h
  refine ⟨⟨h1, h2, h3, h4, h5, fun u hu hw => h6 u hu (by omega), h7⟩, ?_⟩
  obtain ⟨m, f, -, g2, -, g4, g5, g6⟩ := h6 t ht (by omega)
  have hm := g2 (Nat.le_refl t)
  subst hm
  exact ⟨f, g4, g5, g6⟩
/-- a field more of c -/
theorem CfP.fld {G : EnvG} {x k t m : Nat} {c : Cf} {v : Int32} {Φ : Hm} (h : CfP G x k t t c Φ) (ht : t < 4) (hm : m < 9) : CfP G x k t t (upd c (15 + 9 * (c 10).toNatClampNeg + m) v) Φ := by
  have e0 : (c 10).toNatClampNeg = t := by rw [h.1, nI_clamp (by omega)]
  rw [e0]
  obtain ⟨h1, h2, h3, ⟨f, h4, h5⟩, ⟨g, h6, h7⟩, h8, s, hs, h9⟩ := h
  refine ⟨(upd_ne (by omega)).trans h1, h2, ?_, ⟨f, h4, fun j hj => (h5 j hj).trans (upd_ne (by omega)).symm⟩, ⟨g, h6, fun j hj => (h7 j hj).trans (upd_ne (by omega)).symm⟩, fun u hu hw => (h8 u hu hw).cong (upd_ne (by omega)) (fun j hj => upd_ne (by omega)), s, hs, (upd_ne (by omega)).trans h9⟩
  rw [show upd c (15 + 9 * t + m) v 9 = c 9 from upd_ne (by omega)]
  exact h3
theorem fldf {c : Cf} {f : Nat → Int32} {t m : Nat} {v : Int32} (h10 : c 10 = nI t) (ht : t ≤ 4) (h : ∀ j, j < m → f j = c (15 + 9 * t + j)) : ∀ j, j < m + 1 → upd f m v j = upd c (15 + 9 * (c 10).toNatClampNeg + m) v (15 + 9 * t + j) := by
  have e0 : (c 10).toNatClampNeg = t := by rw [h10, nI_clamp (by omega)]
  rw [e0]
  intro j hj
  by_cases e : j = m
  · subst e
    rw [upd_at, upd_at]
  · rw [upd_ne e, upd_ne (by omega)]
    exact h j (by omega)
/-- a field more of the template -/
theorem CfU.add {G : EnvG} {x k w m mm j : Nat} {f : Nat → Int32} {Φ1 : Hm} (hd : dF f m) (hms : fS f 511 m = nI mm) (hmm : mm < 512) (hj : j < 9) (hb : ¬ (nI mm >>> (nI j &&& 31)) &&& 1 = 1) (h1 : Φ1 (x + (k + 5 + 4 * w)) = some (o_ 12 [.ref (x + (k + 5 + 4 * w + 1)), .int (nI (m + 1)), .int (nI mm ||| ((1 : Int32) <<< (nI j &&& 31))), .int (fB_ f 511 m + fbT j)])) (h2 : Φ1 (x + (k + 5 + 4 * w + 1)) = some (ai_ G 9 (upd f m (nI j)))) : CfU G x k w (m + 1) (upd f m (nI j)) Φ1 ∧ fS (upd f m (nI j)) 511 (m + 1) = nI (mm + 2 ^ j) := by
  obtain ⟨e1, -, e3⟩ := fS_ext (f := upd f m (nI j)) (g := f) (s := 511) m (fun i hi => upd_ne (by omega))
  have h5 : bitI (upd f m (nI j) m) 511 := by
    rw [upd_at]
    exact bit_511 ⟨j, by omega, rfl⟩
  have e4 : fS (upd f m (nI j)) 511 (m + 1) = nI mm ||| ((1 : Int32) <<< (nI j &&& 31)) := by rw [fS_y h5, e1, hms, upd_at]
  have e5 : fB_ (upd f m (nI j)) 511 (m + 1) = fB_ f 511 m + fbT j := by rw [fB_y h5, e3, upd_at, nI_clamp (by omega)]
  refine ⟨⟨fun i hi => ?_, ?_, h2⟩, e4.trans (mskC hmm hj hb).1⟩
  · by_cases hi2 : i = m
    · subst hi2
      rw [upd_at, e1, hms]
      exact ⟨⟨j, by omega, rfl⟩, hb⟩
    · obtain ⟨g1, -, -⟩ := fS_ext (f := upd f m (nI j)) (g := f) (s := 511) i (fun q hq => upd_ne (by omega))
      rw [upd_ne hi2, g1]
      exact hd i (by omega)
  · rw [e4, e5]
    exact h1
/-- the template is complete -/
theorem CfP.close {G : EnvG} {x k t m : Nat} {c : Cf} {f : Nat → Int32} {Φ Φ1 : Hm} (h : CfP G x k t t c Φ) (hT : CfU G x k t m f Φ) (ht : t < 4) (hm1 : 1 ≤ m) (hm : m ≤ 9) (hf : ∀ j, j < m → f j = c (15 + 9 * t + j)) (h1 : Φ1 = fset Φ (x + k) (o_ 3 [.ref (x + (k + 1)), .ref (x + (k + 2)), .ref (x + (k + 3)), .ref (x + (k + 4)), .int (nI (t + 1)), .int (c 9)])) : CfP G x k (t + 1) 4 (upd (upd c (11 + (c 10).toNatClampNeg) (nI m)) 10 (c 10 + 1)) Φ1 := by
  have e0 : (c 10).toNatClampNeg = t := by rw [h.1, nI_clamp (by omega)]
  have e7 : c 10 + 1 = nI (t + 1) := by rw [h.1]; exact nI_add t 1
  rw [e0, e7]
  obtain ⟨q1, q2, q3, ⟨g, q4, q5⟩, ⟨g2, q6, q7⟩, q8, s, hs, q9⟩ := h
  have e9 : upd (upd c (11 + t) (nI m)) 10 (nI (t + 1)) 9 = c 9 := (upd_ne (by decide)).trans (upd_ne (by omega))
  refine ⟨upd_at, by omega, ?_, ⟨g, (fset_fr h1 (by omega)).trans q4, fun j hj => (q5 j hj).trans ((upd_ne (by omega)).trans (upd_ne (by omega))).symm⟩, ⟨g2, (fset_fr h1 (by omega)).trans q6, fun j hj => (q7 j hj).trans ((upd_ne (by omega)).trans (upd_ne (by omega))).symm⟩, fun u hu _ => ?_, s, hs, e9.trans q9⟩
  · rw [e9]
    exact fset_at h1
  · by_cases hw : u = t
    · subst hw
      refine ⟨m, f, fun _ => ⟨hm1, (upd_ne (by omega)).trans upd_at, fun j hj => (hf j hj).trans ((upd_ne (by omega)).trans (upd_ne (by omega))).symm⟩, fun q => absurd q (by omega), hm, hT.1, (fset_fr h1 (by omega)).trans hT.2.1, (fset_fr h1 (by omega)).trans hT.2.2⟩
    · have h9 := (q8 u hu hw).eq (Φ1 := Φ1) (fset_fr h1 (by omega)) (fset_fr h1 (by omega))
      obtain ⟨m2, f2, r1, r2, r3, r4, r5, r6⟩ := h9
      refine ⟨m2, f2, fun q => ?_, fun q => r2 (by omega), r3, r4, r5, r6⟩
      obtain ⟨s1, s2, s3⟩ := r1 (by omega)
      exact ⟨s1, ((upd_ne (by omega)).trans (upd_ne (by omega))).trans s2, fun j hj => (s3 j hj).trans ((upd_ne (by omega)).trans (upd_ne (by omega))).symm⟩
/-- a setting -/
theorem CfP.set {G : EnvG} {x k t w i : Nat} {c : Cf} {f : Nat → Int32} {v : Int32} {Φ Φ1 : Hm} (h : CfP G x k t w c Φ) (hf : Φ (x + (k + 1)) = some (ai_ G 9 f)) (hi : i < 9) (h1 : Φ1 = fset Φ (x + (k + 1)) (ai_ G 9 (upd f i v))) : CfP G x k t w (upd c i v) Φ1 := by
  obtain ⟨q1, q2, q3, ⟨g, q4, q5⟩, ⟨g2, q6, q7⟩, q8, s, hs, q9⟩ := h
  have e := ai_inj0 (q4.symm.trans hf)
  subst e
  refine ⟨(upd_ne (by omega)).trans q1, q2, ?_, ⟨_, fset_at h1, fun j hj => ?_⟩, ⟨g2, (fset_fr h1 (by omega)).trans q6, fun j hj => (q7 j hj).trans (upd_ne (by omega)).symm⟩, fun u hu hw => ((q8 u hu hw).eq (fset_fr h1 (by omega)) (fset_fr h1 (by omega))).cong (upd_ne (by omega)) (fun j hj => upd_ne (by omega)), s, hs, (upd_ne (by omega)).trans q9⟩
  · rw [show upd c i v 9 = c 9 from upd_ne (by omega)]
    exact (fset_fr h1 (by omega)).trans q3
  · unfold upd
    by_cases hj2 : j = i
    · rw [if_pos hj2, if_pos hj2]
    · rw [if_neg hj2, if_neg hj2]
      exact q5 j hj
/-- which template a protocol has -/
theorem CfP.use {G : EnvG} {x k t w i : Nat} {c : Cf} {f : Nat → Int32} {v : Int32} {Φ Φ1 : Hm} (h : CfP G x k t w c Φ) (hf : Φ (x + (k + 2)) = some (ai_ G 256 f)) (hi : i < 256) (h1 : Φ1 = fset Φ (x + (k + 2)) (ai_ G 256 (upd f i v))) : CfP G x k t w (upd c (51 + i) v) Φ1 := by
  obtain ⟨q1, q2, q3, ⟨g, q4, q5⟩, ⟨g2, q6, q7⟩, q8, s, hs, q9⟩ := h
  have e := ai_inj0 (q6.symm.trans hf)
  subst e
  refine ⟨(upd_ne (by omega)).trans q1, q2, ?_, ⟨g, (fset_fr h1 (by omega)).trans q4, fun j hj => (q5 j hj).trans (upd_ne (by omega)).symm⟩, ⟨_, fset_at h1, fun j hj => ?_⟩, fun u hu hw => ((q8 u hu hw).eq (fset_fr h1 (by omega)) (fset_fr h1 (by omega))).cong (upd_ne (by omega)) (fun j hj => upd_ne (by omega)), s, hs, (upd_ne (by omega)).trans q9⟩
  · rw [show upd c (51 + i) v 9 = c 9 from upd_ne (by omega)]
    exact (fset_fr h1 (by omega)).trans q3
  · unfold upd
    by_cases hj2 : j = i
    · rw [if_pos hj2, if_pos (by omega)]
    · rw [if_neg hj2, if_neg (by omega)]
      exact q7 j hj
/-- what is supported -/
theorem CfP.sup {G : EnvG} {x k t w : Nat} {c : Cf} {v : Int32} {Φ Φ1 : Hm} (h : CfP G x k t w c Φ) (hv : ∃ s : Nat, s < 512 ∧ v = nI s) (h1 : Φ1 = fset Φ (x + k) (o_ 3 [.ref (x + (k + 1)), .ref (x + (k + 2)), .ref (x + (k + 3)), .ref (x + (k + 4)), .int (nI t), .int v])) : CfP G x k t w (upd c 9 v) Φ1 := by
  obtain ⟨q1, q2, q3, ⟨g, q4, q5⟩, ⟨g2, q6, q7⟩, q8, -⟩ := h
  refine ⟨(upd_ne (by decide)).trans q1, q2, ?_, ⟨g, (fset_fr h1 (by omega)).trans q4, fun j hj => (q5 j hj).trans (upd_ne (by omega)).symm⟩, ⟨g2, (fset_fr h1 (by omega)).trans q6, fun j hj => (q7 j hj).trans (upd_ne (by omega)).symm⟩, fun u hu hw => ((q8 u hu hw).eq (fset_fr h1 (by omega)) (fset_fr h1 (by omega))).cong (upd_ne (by omega)) (fun j hj => upd_ne (by omega)), ?_⟩
  · rw [show upd c 9 v 9 = v from upd_at]
    exact fset_at h1
  · rw [show upd c 9 v 9 = v from upd_at]
    exact hv
theorem drop_k : ∀ s, s < 512 → ∀ j, j < 9 → nI s &&& (((1 : Int32) <<< (nI j &&& 31)) ^^^ (-1)) = nI (s - s / 2 ^ j % 2 * 2 ^ j) := by decide +kernel
theorem drop_s {v r : Int32} (h : ∃ s : Nat, s < 512 ∧ v = nI s) (hr : ∃ j : Nat, j < 9 ∧ r = nI j) : ∃ s : Nat, s < 512 ∧ v &&& (((1 : Int32) <<< (r &&& 31)) ^^^ (-1)) = nI s := by
  obtain ⟨s, hs, rfl⟩ := h
  obtain ⟨j, hj, rfl⟩ := hr
  exact ⟨_, by omega, drop_k s hs j hj⟩

set_option maxHeartbeats 4000000 in
set_option maxRecDepth 100000 in
theorem s_X10_hasE (G : EnvG) (l : Launch) (Φ : Hm) (sz x ca : Nat) (m : Nat) (ms : Int32) (rb : Int32) (k : Nat) (j : Nat) (hx : G.2.2.2 ≤ x) (hI : In G x ca Φ) (hk_k : kd k = 8) (hc0 : Φ (x + (k)) = some (o_ 12 [.ref (x + (k + 1)), .int (nI m), .int ms, .int rb])) (hj : j < 9) : Ct G l yX10_has wsX10_has ({ frames := 0, cells := 0, slots := 0, locals := 0 }) 0 0 [.ref (x + (k)), .int (nI j)] Φ sz (fun v Φ1 sz1 => ((v = some (.int 1) ∧ (ms >>> (nI j &&& 31)) &&& 1 = 1) ∨ (v = some (.int 0) ∧ ¬ (ms >>> (nI j &&& 31)) &&& 1 = 1)) ∧ sz1 = sz ∧ In G x (ca) Φ1 ∧ Fr x (fun j9 => False) Φ Φ1) := by
  refine Ct.of (cc := cX10_has) (maxL := 2) (ret := (some .boolean)) (by decide) rfl (Nat.le_of_ble_eq_true rfl) ?_
  intro p9 e9 s9 m9 w9 t9 k9 B
  show Z p9 l e9 _ s9 m9 _ w9 t9 k9 _ G 2 0 [(0, .ref (x + (k))), (1, .int (nI j))] [] Φ sz 0 0
  refine z_iload_n B dX10_has_0 rfl 1 rfl ?_
  refine z_if_lt (tgt := 26) B dX10_has_1 rfl (fun c_1 => ?_) (fun c_1 => ?_)
  · have e_1 : j < 0 := (nI_ltI (a := j) (b := 0) (by omega) (by omega)).mp c_1
    refine z_iconst (v := 0) B dX10_has_26 rfl ?_
    exact z_ret_z B dX10_has_27 (by decide) ⟨((show False by omega).elim), rfl, hI, (fun b9 h9 => rfl)⟩
  · have e_2 : ¬ (j < 0) := fun h9 => c_1 ((nI_ltI (a := j) (b := 0) (by omega) (by omega)).mpr h9)
    refine z_iload_n B dX10_has_4 rfl 1 rfl ?_
    refine z_bipush (v := 9) B dX10_has_5 rfl ?_
    refine z_icmp_ge (tgt := 26) B dX10_has_7 rfl (fun c_2 => ?_) (fun c_2 => ?_)
    · have e_3 : 9 ≤ j := (nI_leI (a := 9) (b := j) (by omega) (by omega)).mp c_2
      refine z_iconst (v := 0) B dX10_has_26 rfl ?_
      exact z_ret_z B dX10_has_27 (by decide) ⟨((show False by omega).elim), rfl, hI, (fun b9 h9 => rfl)⟩
    · have e_4 : ¬ (9 ≤ j) := fun h9 => c_2 ((nI_leI (a := 9) (b := j) (by omega) (by omega)).mpr h9)
      refine z_aload_n B dX10_has_10 rfl 0 rfl ?_
      refine z_get (ref := "FlowExporter$Template") (C := RX10) (T := TX10) (N := 4) (ci := 12) (v := .int ms) B hu_X10_has_X10 rfl 2 (Nat.le_of_ble_eq_true rfl) hv_X10_has_19 rfl hc0 rfl dX10_has_11 ?_
      refine z_iload_n B dX10_has_14 rfl 1 rfl ?_
      refine z_ishr B dX10_has_15 ?_
      refine z_iconst (v := 1) B dX10_has_16 rfl ?_
      refine z_iand B dX10_has_17 ?_
      refine z_iconst (v := 1) B dX10_has_18 rfl ?_
      refine z_icmp_ne (tgt := 26) B dX10_has_19 rfl (fun c_3 => ?_) (fun c_3 => ?_)
      · refine z_iconst (v := 0) B dX10_has_26 rfl ?_
        exact z_ret_z B dX10_has_27 (by decide) ⟨(Or.inr ⟨rfl, c_3⟩), rfl, hI, (fun b9 h9 => rfl)⟩
      · refine z_iconst (v := 1) B dX10_has_22 rfl ?_
        refine z_goto (tgt := 27) B dX10_has_23 rfl ?_
        exact z_ret_z B dX10_has_27 (by decide) ⟨(Or.inl ⟨rfl, c_3⟩), rfl, hI, (fun b9 h9 => rfl)⟩

set_option maxHeartbeats 4000000 in
set_option maxRecDepth 100000 in
theorem s_X10_addFieldF (G : EnvG) (l : Launch) (Φ : Hm) (sz x ca : Nat) (m : Nat) (ms : Int32) (rb : Int32) (f : Nat → Int32) (k : Nat) (j : Nat) (hx : G.2.2.2 ≤ x) (hI : In G x ca Φ) (hk_k : kd k = 8) (hc0 : Φ (x + (k)) = some (o_ 12 [.ref (x + (k + 1)), .int (nI m), .int ms, .int rb])) (hc1 : Φ (x + (k + 1)) = some (ai_ G 9 f)) (hj : j < 9) (hm : m < 9) (hb : ¬ ((ms >>> (nI j &&& 31)) &&& 1 = 1)) : Ct G l yX10_addField wsX10_addField ({ frames := 0, cells := 0, slots := 0, locals := 0 }) 0 0 [.ref (x + (k)), .int (nI j)] Φ sz (fun v Φ1 sz1 => (v = none ∧ Φ1 (x + (k)) = some (o_ 12 [.ref (x + (k + 1)), .int (nI (m + 1)), .int (ms ||| ((1 : Int32) <<< (nI j &&& 31))), .int (rb + fbT j)]) ∧ Φ1 (x + (k + 1)) = some (ai_ G 9 (upd f m (nI j)))) ∧ sz1 = sz ∧ In G x (ca) Φ1 ∧ Fr x (fun j9 => j9 = k ∨ j9 = k + 1) Φ Φ1) := by
  refine Ct.of (cc := cX10_addField) (maxL := 2) (ret := none) (by decide) rfl (Nat.le_of_ble_eq_true rfl) ?_
  intro p9 e9 s9 m9 w9 t9 k9 B
  show Z p9 l e9 _ s9 m9 _ w9 t9 k9 _ G 2 0 [(0, .ref (x + (k))), (1, .int (nI j))] [] Φ sz 0 0
  refine z_iload_n B dX10_addField_0 rfl 1 rfl ?_
  refine z_if_lt (tgt := 76) B dX10_addField_1 rfl (fun c_1 => ?_) (fun c_1 => ?_)
  · have e_1 : j < 0 := (nI_ltI (a := j) (b := 0) (by omega) (by omega)).mp c_1
    exact z_ret_v B dX10_addField_76 ⟨((show False by omega).elim), rfl, hI, (fun b9 h9 => rfl)⟩
  · have e_2 : ¬ (j < 0) := fun h9 => c_1 ((nI_ltI (a := j) (b := 0) (by omega) (by omega)).mpr h9)
    refine z_iload_n B dX10_addField_4 rfl 1 rfl ?_
    refine z_bipush (v := 9) B dX10_addField_5 rfl ?_
    refine z_icmp_ge (tgt := 76) B dX10_addField_7 rfl (fun c_2 => ?_) (fun c_2 => ?_)
    · have e_3 : 9 ≤ j := (nI_leI (a := 9) (b := j) (by omega) (by omega)).mp c_2
      exact z_ret_v B dX10_addField_76 ⟨((show False by omega).elim), rfl, hI, (fun b9 h9 => rfl)⟩
    · have e_4 : ¬ (9 ≤ j) := fun h9 => c_2 ((nI_leI (a := 9) (b := j) (by omega) (by omega)).mpr h9)
      refine z_aload_n B dX10_addField_10 rfl 0 rfl ?_
      refine z_get (ref := "FlowExporter$Template") (C := RX10) (T := TX10) (N := 4) (ci := 12) (v := .int (nI m)) B hu_X10_addField_X10 rfl 1 (Nat.le_of_ble_eq_true rfl) hv_X10_addField_15 rfl hc0 rfl dX10_addField_11 ?_
      refine z_bipush (v := 9) B dX10_addField_14 rfl ?_
      refine z_icmp_ge (tgt := 76) B dX10_addField_16 rfl (fun c_3 => ?_) (fun c_3 => ?_)
      · have e_5 : 9 ≤ m := (nI_leI (a := 9) (b := m) (by omega) (by omega)).mp c_3
        exact z_ret_v B dX10_addField_76 ⟨((show False by omega).elim), rfl, hI, (fun b9 h9 => rfl)⟩
      · have e_6 : ¬ (9 ≤ m) := fun h9 => c_3 ((nI_leI (a := 9) (b := m) (by omega) (by omega)).mpr h9)
        refine z_aload_n B dX10_addField_19 rfl 0 rfl ?_
        refine z_get (ref := "FlowExporter$Template") (C := RX10) (T := TX10) (N := 4) (ci := 12) (v := .int ms) B hu_X10_addField_X10 rfl 2 (Nat.le_of_ble_eq_true rfl) hv_X10_addField_19 rfl hc0 rfl dX10_addField_20 ?_
        refine z_iload_n B dX10_addField_23 rfl 1 rfl ?_
        refine z_ishr B dX10_addField_24 ?_
        refine z_iconst (v := 1) B dX10_addField_25 rfl ?_
        refine z_iand B dX10_addField_26 ?_
        refine z_if_ne (tgt := 76) B dX10_addField_27 rfl (fun c_4 => ?_) (fun c_4 => ?_)
        · exact z_ret_v B dX10_addField_76 ⟨((and1C _).elim (fun h9 => absurd h9 c_4) (fun h9 => absurd h9 hb)), rfl, hI, (fun b9 h9 => rfl)⟩
        · refine z_aload_n B dX10_addField_30 rfl 0 rfl ?_
          refine z_get (ref := "FlowExporter$Template") (C := RX10) (T := TX10) (N := 4) (ci := 12) (v := .ref (x + (k + 1))) B hu_X10_addField_X10 rfl 0 (Nat.le_of_ble_eq_true rfl) hv_X10_addField_9 rfl hc0 rfl dX10_addField_31 ?_
          refine z_aload_n B dX10_addField_34 rfl 0 rfl ?_
          refine z_get (ref := "FlowExporter$Template") (C := RX10) (T := TX10) (N := 4) (ci := 12) (v := .int (nI m)) B hu_X10_addField_X10 rfl 1 (Nat.le_of_ble_eq_true rfl) hv_X10_addField_15 rfl hc0 rfl dX10_addField_35 ?_
          refine z_iload_n B dX10_addField_38 rfl 1 rfl ?_
          refine z_iast B hc1 (by omega) (vp_in_nI (by omega) (by omega)) dX10_addField_39 (fun Φ1 hΦ1 => ?_)
          have h_1 : Φ1 (x + (k + 1)) = some (ai_ G 9 (upd f (nI m).toNatClampNeg (nI j))) := fset_at hΦ1
          have hI1 : In G x (ca) Φ1 := In.put (k := k + 1) hI hΦ1 (ok9 (k := k + 1) (kd_t hk_k) ⟨_, rfl⟩)
          have h_2 : Φ1 (x + (k + 1)) = some (ai_ G 9 (upd f (nI m).toNatClampNeg (nI j))) := fset_at hΦ1
          refine z_aload_n B dX10_addField_40 rfl 0 rfl ?_
          refine z_dup B dX10_addField_41 rfl ?_
          have h_3 : Φ1 (x + (k)) = some (o_ 12 [.ref (x + (k + 1)), .int (nI m), .int ms, .int rb]) := ((fset_fr hΦ1 (by omega)).trans hc0)
          refine z_get (ref := "FlowExporter$Template") (C := RX10) (T := TX10) (N := 4) (ci := 12) (v := .int (nI m)) B hu_X10_addField_X10 rfl 1 (Nat.le_of_ble_eq_true rfl) hv_X10_addField_15 rfl h_3 rfl dX10_addField_42 ?_
          refine z_iconst (v := 1) B dX10_addField_45 rfl ?_
          refine z_iadd B dX10_addField_46 ?_
          refine z_top (st1 := [.int (nI (m + 1)), .ref (x + (k))]) (congrArg (fun w9 : Int32 => ([.int w9, .ref (x + (k))] : List Value)) (nI_add m 1)) ?_
          refine z_put (ref := "FlowExporter$Template") (C := RX10) (T := TX10) (N := 4) (ci := 12) (v := .int (nI (m + 1))) B hu_X10_addField_X10 tyX10 tyX10_ok nmX10 rfl 1 (Nat.le_of_ble_eq_true rfl) hv_X10_addField_15 rfl (Or.inl rfl) h_3 (by omega) rfl rfl (Nat.le_of_ble_eq_true rfl) dX10_addField_47 (fun Φ2 hΦ2 => ?_)
          have h_4 : Φ2 (x + (k)) = some (o_ 12 [.ref (x + (k + 1)), .int (nI (m + 1)), .int ms, .int rb]) := fset_at hΦ2
          have hI2 : In G x (ca) Φ2 := In.put (k := k) hI1 hΦ2 (ok8 (k := k) hk_k ⟨m + 1, ms, rb, rfl, (show m + 1 ≤ 9 by omega)⟩)
          refine z_aload_n B dX10_addField_50 rfl 0 rfl ?_
          refine z_dup B dX10_addField_51 rfl ?_
          refine z_get (ref := "FlowExporter$Template") (C := RX10) (T := TX10) (N := 4) (ci := 12) (v := .int ms) B hu_X10_addField_X10 rfl 2 (Nat.le_of_ble_eq_true rfl) hv_X10_addField_19 rfl h_4 rfl dX10_addField_52 ?_
          refine z_iconst (v := 1) B dX10_addField_55 rfl ?_
          refine z_iload_n B dX10_addField_56 rfl 1 rfl ?_
          refine z_ishl B dX10_addField_57 ?_
          refine z_ior B dX10_addField_58 ?_
          refine z_put (ref := "FlowExporter$Template") (C := RX10) (T := TX10) (N := 4) (ci := 12) (v := .int (ms ||| (1 <<< ((nI j) &&& 31)))) B hu_X10_addField_X10 tyX10 tyX10_ok nmX10 rfl 2 (Nat.le_of_ble_eq_true rfl) hv_X10_addField_19 rfl (Or.inl rfl) h_4 (by omega) rfl rfl (Nat.le_of_ble_eq_true rfl) dX10_addField_59 (fun Φ3 hΦ3 => ?_)
          have h_5 : Φ3 (x + (k)) = some (o_ 12 [.ref (x + (k + 1)), .int (nI (m + 1)), .int (ms ||| (1 <<< ((nI j) &&& 31))), .int rb]) := fset_at hΦ3
          have hI3 : In G x (ca) Φ3 := In.put (k := k) hI2 hΦ3 (ok8 (k := k) hk_k ⟨m + 1, ms ||| (1 <<< ((nI j) &&& 31)), rb, rfl, (show m + 1 ≤ 9 by omega)⟩)
          refine z_aload_n B dX10_addField_62 rfl 0 rfl ?_
          refine z_dup B dX10_addField_63 rfl ?_
          refine z_get (ref := "FlowExporter$Template") (C := RX10) (T := TX10) (N := 4) (ci := 12) (v := .int rb) B hu_X10_addField_X10 rfl 3 (Nat.le_of_ble_eq_true rfl) hv_X10_addField_22 rfl h_5 rfl dX10_addField_64 ?_
          refine z_staN (n := "FIELD_BYTES") B B.2.2.2.2.2.1.1.1 (by decide +kernel) dX10_addField_67 ?_
          refine z_iload_n B dX10_addField_70 rfl 1 rfl ?_
          refine z_sald B B.2.2.2.2.2.1.2.2.2.1.1 (B.2.2.2.2.2.1.2.2.2.2 0 (by decide)) (vp_in_nI (by omega) (by omega)) dX10_addField_71 ?_
          refine z_iadd B dX10_addField_72 ?_
          refine z_put (ref := "FlowExporter$Template") (C := RX10) (T := TX10) (N := 4) (ci := 12) (v := .int (rb + (fbT (nI j).toNatClampNeg))) B hu_X10_addField_X10 tyX10 tyX10_ok nmX10 rfl 3 (Nat.le_of_ble_eq_true rfl) hv_X10_addField_22 rfl (Or.inl rfl) h_5 (by omega) rfl rfl (Nat.le_of_ble_eq_true rfl) dX10_addField_73 (fun Φ4 hΦ4 => ?_)
          have h_6 : Φ4 (x + (k)) = some (o_ 12 [.ref (x + (k + 1)), .int (nI (m + 1)), .int (ms ||| (1 <<< ((nI j) &&& 31))), .int (rb + (fbT (nI j).toNatClampNeg))]) := fset_at hΦ4
          have hI4 : In G x (ca) Φ4 := In.put (k := k) hI3 hΦ4 (ok8 (k := k) hk_k ⟨m + 1, ms ||| (1 <<< ((nI j) &&& 31)), rb + (fbT (nI j).toNatClampNeg), rfl, (show m + 1 ≤ 9 by omega)⟩)
          have h_7 : Φ4 (x + (k + 1)) = some (ai_ G 9 (upd f (nI m).toNatClampNeg (nI j))) := ((fset_fr hΦ4 (by omega)).trans ((fset_fr hΦ3 (by omega)).trans ((fset_fr hΦ2 (by omega)).trans h_2)))
          exact z_ret_v B dX10_addField_76 ⟨⟨rfl, (h_6.trans (congrArg (fun w9 : Nat => some (o_ 12 [.ref (x + (k + 1)), .int (nI (m + 1)), .int (ms ||| ((1 : Int32) <<< (nI j &&& 31))), .int (rb + fbT w9)])) (nI_clamp (n := j) (by omega)))), (h_7.trans (congrArg (fun w9 : Nat => some (ai_ G 9 (upd f w9 (nI j)))) (nI_clamp (n := m) (by omega))))⟩, rfl, hI4, (fun b9 h9 => ((fset_fr hΦ4 (fun h8 => h9 (k) h8 (show k = k ∨ k = k + 1 by omega))).trans ((fset_fr hΦ3 (fun h8 => h9 (k) h8 (show k = k ∨ k = k + 1 by omega))).trans ((fset_fr hΦ2 (fun h8 => h9 (k) h8 (show k = k ∨ k = k + 1 by omega))).trans ((fset_fr hΦ1 (fun h8 => h9 (k + 1) h8 (show (k + 1) = k ∨ (k + 1) = k + 1 by omega))).trans rfl)))))⟩

set_option maxHeartbeats 4000000 in
set_option maxRecDepth 100000 in
theorem s_X1_templateE (G : EnvG) (l : Launch) (Φ : Hm) (sz x ca : Nat) (t : Nat) (hx : G.2.2.2 ≤ x) (hI : In G x ca Φ) (ht : t < 4) : Ct G l yX1_template wsX1_template ({ frames := 0, cells := 0, slots := 0, locals := 0 }) 0 0 [.ref (x + 25), .int (nI t)] Φ sz (fun v Φ1 sz1 => (v = some (.ref (x + (30 + 4 * t)))) ∧ sz1 = sz ∧ In G x (ca) Φ1 ∧ Fr x (fun j9 => False) Φ Φ1) := by
  refine Ct.of (cc := cX1_template) (maxL := 2) (ret := (some (.object "FlowExporter$Template"))) (by decide) rfl (Nat.le_of_ble_eq_true rfl) ?_
  intro p9 e9 s9 m9 w9 t9 k9 B
  show Z p9 l e9 _ s9 m9 _ w9 t9 k9 _ G 2 0 [(0, .ref (x + 25)), (1, .int (nI t))] [] Φ sz 0 0
  refine z_aload_n B dX1_template_0 rfl 0 rfl ?_
  obtain ⟨v_1, v_2, h_1⟩ := in3 (k := 25) hI rfl
  have h_2 : Φ (x + 25) = some (o_ 3 [.ref (x + 26), .ref (x + 27), .ref (x + 28), .ref (x + 29), .int v_1, .int v_2]) := h_1
  refine z_get (ref := "FlowExporter$Config") (C := RX1) (T := TX1) (N := 6) (ci := 3) (v := .ref (x + 28)) B hu_X1_template_X1 rfl 2 (Nat.le_of_ble_eq_true rfl) hv_X1_template_20 rfl h_2 rfl dX1_template_1 ?_
  refine z_iload_n B dX1_template_4 rfl 1 rfl ?_
  refine z_if_lt (tgt := 17) B dX1_template_5 rfl (fun c_1 => ?_) (fun c_1 => ?_)
  · have e_1 : t < 0 := (nI_ltI (a := t) (b := 0) (by omega) (by omega)).mp c_1
    refine z_iconst (v := 0) B dX1_template_17 rfl ?_
    obtain ⟨f_1, h_3, r_1⟩ := in6 (k := 28) hI rfl
    have h_4 : Φ (x + 28) = some (aq_ G 4 4 f_1) := h_3
    refine z_aald (b := x + 30) B rfl h_4 (vin rfl) ((r_1 0 (by omega))) dX1_template_18 ?_
    exact z_ret_a B dX1_template_19 ⟨((show False by omega).elim), rfl, hI, (fun b9 h9 => rfl)⟩
  · have e_2 : ¬ (t < 0) := fun h9 => c_1 ((nI_ltI (a := t) (b := 0) (by omega) (by omega)).mpr h9)
    refine z_iload_n B dX1_template_8 rfl 1 rfl ?_
    refine z_iconst (v := 4) B dX1_template_9 rfl ?_
    refine z_icmp_ge (tgt := 17) B dX1_template_10 rfl (fun c_2 => ?_) (fun c_2 => ?_)
    · have e_3 : 4 ≤ t := (nI_leI (a := 4) (b := t) (by omega) (by omega)).mp c_2
      refine z_iconst (v := 0) B dX1_template_17 rfl ?_
      obtain ⟨f_2, h_5, r_2⟩ := in6 (k := 28) hI rfl
      have h_6 : Φ (x + 28) = some (aq_ G 4 4 f_2) := h_5
      refine z_aald (b := x + 30) B rfl h_6 (vin rfl) ((r_2 0 (by omega))) dX1_template_18 ?_
      exact z_ret_a B dX1_template_19 ⟨((show False by omega).elim), rfl, hI, (fun b9 h9 => rfl)⟩
    · have e_4 : ¬ (4 ≤ t) := fun h9 => c_2 ((nI_leI (a := 4) (b := t) (by omega) (by omega)).mpr h9)
      refine z_iload_n B dX1_template_13 rfl 1 rfl ?_
      refine z_goto (tgt := 18) B dX1_template_14 rfl ?_
      obtain ⟨f_3, h_7, r_3⟩ := in6 (k := 28) hI rfl
      have h_8 : Φ (x + 28) = some (aq_ G 4 4 f_3) := h_7
      refine z_aald (b := x + (28 + 2 + 4 * t)) B rfl h_8 (vp_in_nI (by omega) (by omega)) ((congrArg f_3 (nI_clamp (by omega))).trans (r_3 t (by omega))) dX1_template_18 ?_
      exact z_ret_a B dX1_template_19 ⟨(congrArg (fun w9 : Nat => some (Value.ref (x + w9))) (show 28 + 2 + 4 * t = 30 + 4 * t by omega)), rfl, hI, (fun b9 h9 => rfl)⟩

set_option maxHeartbeats 4000000 in
set_option maxRecDepth 100000 in
theorem s_X1_setF (G : EnvG) (l : Launch) (Φ : Hm) (sz x ca : Nat) (t : Nat) (w : Nat) (c : Cf) (g : Nat → Int32) (i : Nat) (b : Nat) (hx : G.2.2.2 ≤ x) (hI : In G x ca Φ) (hc0 : Φ (x + 26) = some (ai_ G 9 g)) (hcf0 : CfP G x 25 t w c Φ) (hi : i < 9) (hb : b < 2 ^ 31) (hr : ∀ j9, ¬ g j9 < 0) : Ct G l yX1_set wsX1_set ({ frames := 0, cells := 0, slots := 0, locals := 0 }) 0 0 [.ref (x + 25), .int (nI i), .int (nI b)] Φ sz (fun v Φ1 sz1 => (v = none ∧ CfP G x 25 t w (upd c i (nI b)) Φ1) ∧ sz1 = sz ∧ In G x (ca) Φ1 ∧ Fr x (fun j9 => j9 = 26) Φ Φ1) := by
  refine Ct.of (cc := cX1_set) (maxL := 3) (ret := none) (by decide) rfl (Nat.le_of_ble_eq_true rfl) ?_
  intro p9 e9 s9 m9 w9 t9 k9 B
  show Z p9 l e9 _ s9 m9 _ w9 t9 k9 _ G 3 0 [(0, .ref (x + 25)), (1, .int (nI i)), (2, .int (nI b))] [] Φ sz 0 0
  refine z_iload_n B dX1_set_0 rfl 1 rfl ?_
  refine z_if_lt (tgt := 17) B dX1_set_1 rfl (fun c_1 => ?_) (fun c_1 => ?_)
  · have e_1 : i < 0 := (nI_ltI (a := i) (b := 0) (by omega) (by omega)).mp c_1
    exact z_ret_v B dX1_set_17 ⟨((show False by omega).elim), rfl, hI, (fun b9 h9 => rfl)⟩
  · have e_2 : ¬ (i < 0) := fun h9 => c_1 ((nI_ltI (a := i) (b := 0) (by omega) (by omega)).mpr h9)
    refine z_iload_n B dX1_set_4 rfl 1 rfl ?_
    refine z_bipush (v := 9) B dX1_set_5 rfl ?_
    refine z_icmp_ge (tgt := 17) B dX1_set_7 rfl (fun c_2 => ?_) (fun c_2 => ?_)
    · have e_3 : 9 ≤ i := (nI_leI (a := 9) (b := i) (by omega) (by omega)).mp c_2
      exact z_ret_v B dX1_set_17 ⟨((show False by omega).elim), rfl, hI, (fun b9 h9 => rfl)⟩
    · have e_4 : ¬ (9 ≤ i) := fun h9 => c_2 ((nI_leI (a := 9) (b := i) (by omega) (by omega)).mpr h9)
      refine z_aload_n B dX1_set_10 rfl 0 rfl ?_
      obtain ⟨v_1, v_2, h_1⟩ := in3 (k := 25) hI rfl
      have h_2 : Φ (x + 25) = some (o_ 3 [.ref (x + 26), .ref (x + 27), .ref (x + 28), .ref (x + 29), .int v_1, .int v_2]) := h_1
      refine z_get (ref := "FlowExporter$Config") (C := RX1) (T := TX1) (N := 6) (ci := 3) (v := .ref (x + 26)) B hu_X1_set_X1 rfl 0 (Nat.le_of_ble_eq_true rfl) hv_X1_set_9 rfl h_2 rfl dX1_set_11 ?_
      refine z_iload_n B dX1_set_14 rfl 1 rfl ?_
      refine z_iload_n B dX1_set_15 rfl 2 rfl ?_
      refine z_iast B hc0 (Nat.le_trans hx (Nat.le_add_right x 26)) (vp_in_nI (by omega) (by omega)) dX1_set_16 (fun Φ1 hΦ1 => ?_)
      have h_3 : Φ1 (x + 26) = some (ai_ G 9 (upd g (nI i).toNatClampNeg (nI b))) := fset_at hΦ1
      have hI1 : In G x (ca) Φ1 := In.put (k := 26) hI hΦ1 (ok4 (k := 26) rfl ⟨_, rfl, upd_nn hr (nI_pos hb)⟩)
      exact z_ret_v B dX1_set_17 ⟨⟨rfl, CfP.set (k := 25) hcf0 hc0 (by omega) ((hΦ1).trans (congrArg (fun w9 : Nat => fset Φ (x + 26) (ai_ G 9 (upd g w9 (nI b)))) (nI_clamp (by omega))))⟩, rfl, hI1, (fun b9 h9 => ((fset_fr hΦ1 (fun h8 => h9 (26) h8 (show 26 = 26 by decide))).trans rfl))⟩

set_option maxHeartbeats 4000000 in
set_option maxRecDepth 100000 in
theorem s_X1_useF (G : EnvG) (l : Launch) (Φ : Hm) (sz x ca : Nat) (t : Nat) (w : Nat) (c : Cf) (g : Nat → Int32) (i : Nat) (b : Int32) (hx : G.2.2.2 ≤ x) (hI : In G x ca Φ) (hc0 : Φ (x + 27) = some (ai_ G 256 g)) (hcf0 : CfP G x 25 t w c Φ) (hi : i < 256) : Ct G l yX1_use wsX1_use ({ frames := 0, cells := 0, slots := 0, locals := 0 }) 0 0 [.ref (x + 25), .int (nI i), .int b] Φ sz (fun v Φ1 sz1 => (v = none ∧ CfP G x 25 t w (upd c (51 + i) b) Φ1) ∧ sz1 = sz ∧ In G x (ca) Φ1 ∧ Fr x (fun j9 => j9 = 27) Φ Φ1) := by
  refine Ct.of (cc := cX1_use) (maxL := 3) (ret := none) (by decide) rfl (Nat.le_of_ble_eq_true rfl) ?_
  intro p9 e9 s9 m9 w9 t9 k9 B
  show Z p9 l e9 _ s9 m9 _ w9 t9 k9 _ G 3 0 [(0, .ref (x + 25)), (1, .int (nI i)), (2, .int b)] [] Φ sz 0 0
  refine z_iload_n B dX1_use_0 rfl 1 rfl ?_
  refine z_if_lt (tgt := 18) B dX1_use_1 rfl (fun c_1 => ?_) (fun c_1 => ?_)
  · have e_1 : i < 0 := (nI_ltI (a := i) (b := 0) (by omega) (by omega)).mp c_1
    exact z_ret_v B dX1_use_18 ⟨((show False by omega).elim), rfl, hI, (fun b9 h9 => rfl)⟩
  · have e_2 : ¬ (i < 0) := fun h9 => c_1 ((nI_ltI (a := i) (b := 0) (by omega) (by omega)).mpr h9)
    refine z_iload_n B dX1_use_4 rfl 1 rfl ?_
    refine z_sipush (v := 256) B dX1_use_5 rfl ?_
    refine z_icmp_ge (tgt := 18) B dX1_use_8 rfl (fun c_2 => ?_) (fun c_2 => ?_)
    · have e_3 : 256 ≤ i := (nI_leI (a := 256) (b := i) (by omega) (by omega)).mp c_2
      exact z_ret_v B dX1_use_18 ⟨((show False by omega).elim), rfl, hI, (fun b9 h9 => rfl)⟩
    · have e_4 : ¬ (256 ≤ i) := fun h9 => c_2 ((nI_leI (a := 256) (b := i) (by omega) (by omega)).mpr h9)
      refine z_aload_n B dX1_use_11 rfl 0 rfl ?_
      obtain ⟨v_1, v_2, h_1⟩ := in3 (k := 25) hI rfl
      have h_2 : Φ (x + 25) = some (o_ 3 [.ref (x + 26), .ref (x + 27), .ref (x + 28), .ref (x + 29), .int v_1, .int v_2]) := h_1
      refine z_get (ref := "FlowExporter$Config") (C := RX1) (T := TX1) (N := 6) (ci := 3) (v := .ref (x + 27)) B hu_X1_use_X1 rfl 1 (Nat.le_of_ble_eq_true rfl) hv_X1_use_15 rfl h_2 rfl dX1_use_12 ?_
      refine z_iload_n B dX1_use_15 rfl 1 rfl ?_
      refine z_iload_n B dX1_use_16 rfl 2 rfl ?_
      refine z_iast B hc0 (Nat.le_trans hx (Nat.le_add_right x 27)) (vp_in_nI (by omega) (by omega)) dX1_use_17 (fun Φ1 hΦ1 => ?_)
      have h_3 : Φ1 (x + 27) = some (ai_ G 256 (upd g (nI i).toNatClampNeg b)) := fset_at hΦ1
      have hI1 : In G x (ca) Φ1 := In.put (k := 27) hI hΦ1 (ok5 (k := 27) rfl ⟨_, rfl⟩)
      exact z_ret_v B dX1_use_18 ⟨⟨rfl, CfP.use (k := 25) hcf0 hc0 (by omega) ((hΦ1).trans (congrArg (fun w9 : Nat => fset Φ (x + 27) (ai_ G 256 (upd g w9 b))) (nI_clamp (by omega))))⟩, rfl, hI1, (fun b9 h9 => ((fset_fr hΦ1 (fun h8 => h9 (27) h8 (show 27 = 27 by decide))).trans rfl))⟩

theorem fq_565 : ∀ j9 : Nat, (j9 = 24) → (24 ≤ j9 ∧ j9 < 46) := by
  intro j9 h
  omega

theorem hu_X6_readSetting_X6 : ∀ w ∈ u_ws RX6 TX6 8, w ∈ wsX6_readSetting := fun _ h => List.mem_cons_of_mem _ (List.mem_append_left _ (List.mem_append_left _ (List.mem_append_left _ (List.mem_append_right _ (h)))))

theorem hv_X6_readSetting_12 : Cond.fieldLink RX6 12 "FlowExporter$Parser" (TX6 0).2.1 (TX6 0).2.2.1 ∈ wsX6_readSetting := List.mem_cons_of_mem _ (List.mem_append_left _ (List.mem_append_left _ (List.mem_append_left _ (List.mem_append_left _ (List.mem_append_left _ (List.mem_of_getElem? (i := 0) rfl))))))

theorem hv_X6_readSetting_34 : Cond.fieldLink RX6 34 "FlowExporter$Parser" (TX6 7).2.1 (TX6 7).2.2.1 ∈ wsX6_readSetting := List.mem_cons_of_mem _ (List.mem_append_left _ (List.mem_append_left _ (List.mem_append_left _ (List.mem_append_left _ (List.mem_append_left _ (List.mem_of_getElem? (i := 1) rfl))))))

theorem fq_569 {x : Nat} : ∀ j9 : Nat, x + 24 = x + j9 → (j9 = 26) → False := by
  intro j9 h1 h2
  omega

theorem fq_570 : ∀ j9 : Nat, (j9 = 26) → (24 ≤ j9 ∧ j9 < 46) := by
  intro j9 h
  omega

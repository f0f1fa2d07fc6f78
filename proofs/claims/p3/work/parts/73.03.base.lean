
/-! the law: both objects in shape, the rows that take an answer -/
def JM (G : EnvG) (y il : Nat) (Φ : Hm) : Prop := ∃ (rd : (Nat → Int32) → Prop) (fl le nx qu : Nat) (kn ec nu : Int32) (va : Int64), Im G y (rd, NN, fl, 0, le, nx, il, qu, kn, ec, nu, va) Φ
/-- n, n2: the input's length in the class and in the reference -/
def JK (G : EnvG) (x y o d ca n n2 : Nat) (Φ : Hm) : Prop := In G x ca Φ ∧ JM G y n2 Φ ∧ (∃ f : Nat → Int64, Φ o = some (al_ G 1 f)) ∧ (∃ f : Nat → UInt64, Φ d = some (ad_ G 1 f)) ∧ Φ (x + 1) = some (o_ 7 [.ref (x + 2), .int (nI n)])
def JJ (G : EnvG) (x y o d ca : Nat) (Φ : Hm) : Prop := ∃ n, JK G x y o d ca n n Φ
theorem Im.eq {G : EnvG} {y : Nat} {T : MT} {Φ Φ1 : Hm} (h : Im G y T Φ) (he : ∀ k, k < 26 → Φ1 (y + k) = Φ (y + k)) : Im G y T Φ1 := by
  refine ⟨?_, fun k h1 h2 => ?_⟩
  · rw [show Φ1 y = Φ y from he 0 (by decide)]
    exact h.1
  · rw [he k h2]
    exact h.2 k h1 h2
theorem JM.eq {G : EnvG} {y il : Nat} {Φ Φ1 : Hm} (h : JM G y il Φ) (he : ∀ k, k < 26 → Φ1 (y + k) = Φ (y + k)) : JM G y il Φ1 := by
  obtain ⟨rd, fl, le, nx, qu, kn, ec, nu, va, h⟩ := h
  exact ⟨rd, fl, le, nx, qu, kn, ec, nu, va, Im.eq h he⟩
theorem In.eq {G : EnvG} {x ca : Nat} {Φ Φ1 : Hm} (h : In G x ca Φ) (he : ∀ k, k < 149 → Φ1 (x + k) = Φ (x + k)) : In G x ca Φ1 := by
  intro k
  by_cases hk : k < 149
  · rw [he k hk]
    exact h k
  · have hkd : kd k = 99 := by
      unfold kd
      rw [List.getD_eq_getElem?_getD, List.getElem?_eq_none (show kdL.length ≤ k from Nat.not_lt.mp hk)]
      rfl
    unfold Ok
    rw [hkd]
    trivial
abbrev Ds (x y o d : Nat) : Prop := x + 149 ≤ y ∧ y + 26 ≤ o ∧ o < d
theorem JK.cls {G : EnvG} {x y o d ca cb n n2 : Nat} {Φ Φ1 : Hm} {md : Nat → Prop} (hD : Ds x y o d) (h : JK G x y o d ca n n2 Φ) (hI : In G x cb Φ1) (hF : Fr x md Φ Φ1) (hm : ∀ j, md j → 2 ≤ j ∧ j < 149) : JK G x y o d cb n n2 Φ1 := by
  obtain ⟨d1, d2, d3⟩ := hD
  have hf : ∀ b, (b = x + 1 ∨ x + 149 ≤ b) → Φ1 b = Φ b := fun b hb => hF b (fun j q hj => by have := hm j hj; omega)
  obtain ⟨-, h2, ⟨f, h3⟩, ⟨g, h4⟩, h5⟩ := h
  exact ⟨hI, JM.eq h2 (fun k hk => hf _ (by omega)), ⟨f, (hf o (by omega)).trans h3⟩, ⟨g, (hf d (by omega)).trans h4⟩, (hf _ (by omega)).trans h5⟩
theorem JK.cls1 {G : EnvG} {x y o d ca cb n n2 n1 : Nat} {Φ Φ1 : Hm} {md : Nat → Prop} (hD : Ds x y o d) (h : JK G x y o d ca n n2 Φ) (hI : In G x cb Φ1) (h1 : Φ1 (x + 1) = some (o_ 7 [.ref (x + 2), .int (nI n1)])) (hF : Fr x md Φ Φ1) (hm : ∀ j, md j → j < 149) : JK G x y o d cb n1 n2 Φ1 := by
  obtain ⟨d1, d2, d3⟩ := hD
  have hf : ∀ b, x + 149 ≤ b → Φ1 b = Φ b := fun b hb => hF b (fun j q hj => by have := hm j hj; omega)
  obtain ⟨-, h2, ⟨f, h3⟩, ⟨g, h4⟩, -⟩ := h
  exact ⟨hI, JM.eq h2 (fun k hk => hf _ (by omega)), ⟨f, (hf o (by omega)).trans h3⟩, ⟨g, (hf d (by omega)).trans h4⟩, h1⟩
theorem JK.wl {G : EnvG} {x y o d ca cb n n2 : Nat} {Φ Φ1 : Hm} (hD : Ds x y o d) (h : JK G x y o d ca n n2 Φ) (hW : WpL G x cb o Φ Φ1) : JK G x y o d cb n n2 Φ1 := by
  obtain ⟨d1, d2, d3⟩ := hD
  obtain ⟨hI, ho, hf⟩ := hW
  obtain ⟨-, h2, -, ⟨g, h4⟩, h5⟩ := h
  exact ⟨hI, JM.eq h2 (fun k hk => hf _ (fun j hj => by omega) (by omega)), ho, ⟨g, (hf d (fun j hj => by omega) (by omega)).trans h4⟩, (hf _ (fun j hj => by omega) (by omega)).trans h5⟩
theorem JK.wd {G : EnvG} {x y o d ca cb n n2 : Nat} {Φ Φ1 : Hm} (hD : Ds x y o d) (h : JK G x y o d ca n n2 Φ) (hW : WpD G x cb d Φ Φ1) : JK G x y o d cb n n2 Φ1 := by
  obtain ⟨d1, d2, d3⟩ := hD
  obtain ⟨hI, ho, hf⟩ := hW
  obtain ⟨-, h2, ⟨f, h3⟩, -, h5⟩ := h
  exact ⟨hI, JM.eq h2 (fun k hk => hf _ (fun j hj => by omega) (by omega)), ⟨f, (hf o (fun j hj => by omega) (by omega)).trans h3⟩, ho, (hf _ (fun j hj => by omega) (by omega)).trans h5⟩
theorem JK.ref {G : EnvG} {x y o d ca n n2 m2 : Nat} {Φ Φ1 : Hm} {md : Nat → Prop} (hD : Ds x y o d) (h : JK G x y o d ca n n2 Φ) (hM : JM G y m2 Φ1) (hF : Fr y md Φ Φ1) (hm : ∀ j, md j → j < 26) : JK G x y o d ca n m2 Φ1 := by
  obtain ⟨d1, d2, d3⟩ := hD
  have hf : ∀ b, (b < y ∨ y + 26 ≤ b) → Φ1 b = Φ b := fun b hb => hF b (fun j q hj => by have := hm j hj; omega)
  obtain ⟨h1, -, ⟨f, h3⟩, ⟨g, h4⟩, h5⟩ := h
  exact ⟨In.eq h1 (fun k hk => hf _ (by omega)), hM, ⟨f, (hf o (by omega)).trans h3⟩, ⟨g, (hf d (by omega)).trans h4⟩, (hf _ (by omega)).trans h5⟩
theorem JK.up {G : EnvG} {x y o d ca cb n n2 : Nat} {Φ : Hm} (h : JK G x y o d ca n n2 Φ) (hc : ca ≤ cb) : JK G x y o d cb n n2 Φ := ⟨In.mono h.1 hc, h.2⟩
theorem JJ.up {G : EnvG} {x y o d ca cb : Nat} {Φ : Hm} (h : JJ G x y o d ca Φ) (hc : ca ≤ cb) : JJ G x y o d cb Φ := by
  obtain ⟨n, h⟩ := h
  exact ⟨n, JK.up h hc⟩
theorem JK.il {G : EnvG} {x y o d ca n n2 : Nat} {Φ : Hm} (h : JK G x y o d ca n n2 Φ) : n2 ≤ 700 := by
  obtain ⟨rd, fl, le, nx, qu, kn, ec, nu, va, h2⟩ := h.2.1
  obtain ⟨_, _, _, _, _, _, _, _, _, _, _, _, _, _, _, _, _, _, _, h0, -, -, -, -, -, -, -, -, -, -, hb, -⟩ := h2.1
  exact hb
theorem nI_cl {n : Nat} (h : n < 2 ^ 31) : (nI n).toNatClampNeg = n := by
  show (nI n).toInt.toNat = n
  rw [nI_toInt h]
  omega
theorem vinL0 {i L : Nat} (h : i < L) (hL : L ≤ 3584) : vp_in (nI i) L := by
  refine vin ?_
  have h1 : ¬ nI i < 0 := by
    rw [Int32.lt_iff_toInt_lt, nI_toInt (by omega)]
    show ¬ (i : Int) < 0
    omega
  rw [nI_cl (by omega), decide_eq_false h1]
  show Nat.ble (i + 1) L = true
  exact Nat.ble_eq_true_of_le h
theorem vinL {i n L : Nat} {w : Int32} (hw : w = nI n) (h : i + n < L) (hL : L ≤ 3584) : vp_in (nI i + w) L := by
  subst hw
  rw [show nI i + nI n = nI (i + n) from (Int32.ofNat_add i n).symm]
  exact vinL0 h hL
theorem rmL {cells slots mc ms : Nat} (h1 : cells ≤ 9000) (h2 : slots ≤ 90000) (h3 : mc ≤ 8) (h4 : ms ≤ 64) : cells + mc ≤ room_1.cells ∧ slots + ms ≤ room_1.slots := by
  have e1 : room_1.cells = 603072 := rfl
  have e2 : room_1.slots = 7198826 := rfl
  omega
theorem apV_int {n n1 : Nat} {v : Option Value} (h : apV n v n1) : ∃ r : Int32, v = some (.int r) := by
  rcases h with ⟨-, rfl, -⟩ | ⟨-, rfl, -⟩ <;> exact ⟨_, rfl⟩
theorem apV_eq {n n1 n2 : Nat} {r q : Int32} (hn : n ≤ 700) (h : apV n (some (.int r)) n1) (h2 : apV n (some (.int q)) n2) : r = q ∧ n1 = n2 := by
  obtain ⟨h3, h4⟩ := apV_fun h h2
  injection h3 with h3
  injection h3 with h3
  exact ⟨h3, h4⟩
theorem trV_int {n n1 : Nat} {a : Int32} {v : Option Value} (h : trV n a v n1) : ∃ r : Int32, v = some (.int r) := by
  rcases h with ⟨j, -, -, rfl, -⟩ | ⟨-, rfl, -⟩ <;> exact ⟨_, rfl⟩
theorem trV_eq {n n1 n2 : Nat} {a r q : Int32} (hn : n ≤ 700) (h : trV n a (some (.int r)) n1) (h2 : trV n a (some (.int q)) n2) : r = q ∧ n1 = n2 := by
  obtain ⟨h3, h4⟩ := trV_fun hn h h2
  injection h3 with h3
  injection h3 with h3
  exact ⟨h3, h4⟩
theorem JK.same {G : EnvG} {x y o d ca n n2 : Nat} {Φ : Hm} (h : JK G x y o d ca n n2 Φ) (e : n = n2) : JK G x y o d ca n2 n2 Φ := by
  subst e
  exact h
theorem JM.obj {G : EnvG} {y il : Nat} {Φ : Hm} (h : JM G y il Φ) : ∃ fs : List Value, Φ y = some (o_ 14 fs) := by
  obtain ⟨rd, fl, le, nx, qu, kn, ec, nu, va, h⟩ := h
  obtain ⟨_, _, _, _, _, _, _, _, _, _, _, _, _, _, _, _, _, _, _, h0, -⟩ := h.1
  exact ⟨_, h0⟩
theorem sw_get (a : Int32) : ∃ k : Nat, k < 64 ∧ a &&& 63 = nI k := by
  refine ⟨(a &&& 63).toBitVec.toNat, ?_, ?_⟩
  · have : (a &&& 63).toBitVec = a.toBitVec &&& 63#32 := rfl
    rw [this, BitVec.toNat_and]
    exact Nat.lt_of_le_of_lt Nat.and_le_right (by decide)
  · apply Int32.toBitVec_inj.mp
    show _ = (Int32.ofNat _).toBitVec
    rw [Int32.toBitVec_ofNat']
    simp
theorem law_cmp {i L : Nat} (hL : L ≤ 3584) (hi : i ≤ 3591) (h : ¬ nI L - 7 < nI i) : i + 7 ≤ L := by
  by_cases h7 : 7 ≤ L
  · have e : nI L - 7 = nI (L - 7) := nI_sub (b := 7) h7
    rw [e, Int32.lt_iff_toInt_lt, nI_toInt (by omega), nI_toInt (by omega)] at h
    omega
  · exfalso
    have h8 : ∀ k, k < 7 → (nI k - 7).toInt < 0 := by decide
    have h9 := h8 L (by omega)
    rw [Int32.lt_iff_toInt_lt, nI_toInt (n := i) (by omega)] at h
    omega


/-! the law: both objects in shape, the rows that take an answer -/
noncomputable def JM (G : EnvG) (y il : Nat) (co po : Int32) (g : Nat → Int32) (Φ : Hm) : Prop := (∃ (rd : (Nat → Int32) → Prop) (fl le nx qu : Nat) (kn nu : Int32) (va : Int64) (st : Nat), Im G y (rd, NN, fl, 0, le, nx, il, qu, kn, co, nu, va, st, po) Φ) ∧ Φ (y + 25) = some (ab_ G 700 g)
/-- n, f, co, po: the input's length and bytes, code and position in the class; n2, g, co2, po2: in the reference -/
noncomputable def JK (G : EnvG) (x y o d ca n : Nat) (f : Nat → Int32) (co po : Int32) (n2 : Nat) (g : Nat → Int32) (co2 po2 : Int32) (Φ : Hm) : Prop := In G x ca Φ ∧ JM G y n2 co2 po2 g Φ ∧ (∃ f : Nat → Int64, Φ o = some (al_ G 1 f)) ∧ (∃ f : Nat → UInt64, Φ d = some (ad_ G 1 f)) ∧ Φ (x + 1) = some (o_ 7 [.ref (x + 2), .int (nI n)]) ∧ Φ (x + 2) = some (ab_ G 700 f) ∧ ∃ nx ki sa nu : Nat, Φ (x + 24) = some (o_ 8 [.ref (x + 25), .int co, .int po, .ref (x + 1), .int (nI nx), .int (nI ki), .int (nI sa), .int (nI nu)])
noncomputable def JJ (G : EnvG) (x y o d ca : Nat) (Φ : Hm) : Prop := ∃ (n : Nat) (f g : Nat → Int32) (co po : Int32), JK G x y o d ca n f co po n g co po Φ ∧ ∀ j, j < n → f j = g j
theorem Im.eq {G : EnvG} {y : Nat} {T : MT} {Φ Φ1 : Hm} (h : Im G y T Φ) (he : ∀ k, k < 26 → Φ1 (y + k) = Φ (y + k)) : Im G y T Φ1 := by
  refine ⟨?_, fun k h1 h2 => ?_⟩
  · rw [show Φ1 y = Φ y from he 0 (by decide)]
    exact h.1
  · rw [he k h2]
    exact h.2 k h1 h2
theorem JM.eq {G : EnvG} {y il : Nat} {co po : Int32} {g : Nat → Int32} {Φ Φ1 : Hm} (h : JM G y il co po g Φ) (he : ∀ k, k < 26 → Φ1 (y + k) = Φ (y + k)) : JM G y il co po g Φ1 := by
  obtain ⟨⟨rd, fl, le, nx, qu, kn, nu, va, st, h⟩, h2⟩ := h
  exact ⟨⟨rd, fl, le, nx, qu, kn, nu, va, st, Im.eq h he⟩, (he 25 (by decide)).trans h2⟩
theorem In.eq {G : EnvG} {x ca : Nat} {Φ Φ1 : Hm} (h : In G x ca Φ) (he : ∀ k, k < 149 → Φ1 (x + k) = Φ (x + k)) : In G x ca Φ1 := by
  intro k
  by_cases hk : k < 149
  · rw [he k hk]
    exact h k
  · have hkd : kd k = 99 := by
      unfold kd
      rw [List.getD_eq_getElem?_getD, List.getElem?_eq_none (show kdL.length ≤ k from Nat.not_lt.mp hk)]
      rfl
    unfold Ok
    rw [hkd]
    trivial
abbrev Ds (x y o d : Nat) : Prop := x + 149 ≤ y ∧ y + 26 ≤ o ∧ o < d
theorem JK.cls {G : EnvG} {x y o d ca cb n n2 : Nat} {f g : Nat → Int32} {co po co2 po2 : Int32} {Φ Φ1 : Hm} {md : Nat → Prop} (hD : Ds x y o d) (h : JK G x y o d ca n f co po n2 g co2 po2 Φ) (hI : In G x cb Φ1) (hF : Fr x md Φ Φ1) (hm : ∀ j, md j → 3 ≤ j ∧ ¬ j = 24 ∧ j < 149) : JK G x y o d cb n f co po n2 g co2 po2 Φ1 := by
  obtain ⟨d1, d2, d3⟩ := hD
  have hf : ∀ b, (b = x + 1 ∨ b = x + 2 ∨ b = x + 24 ∨ x + 149 ≤ b) → Φ1 b = Φ b := fun b hb => hF b (fun j q hj => by have := hm j hj; omega)
  obtain ⟨-, h2, ⟨u, h3⟩, ⟨w, h4⟩, h5, h6, nx, ki, sa, nu, h7⟩ := h
  exact ⟨hI, JM.eq h2 (fun k hk => hf _ (by omega)), ⟨u, (hf o (by omega)).trans h3⟩, ⟨w, (hf d (by omega)).trans h4⟩, (hf _ (by omega)).trans h5, (hf _ (by omega)).trans h6, nx, ki, sa, nu, (hf _ (by omega)).trans h7⟩
theorem JK.cls1 {G : EnvG} {x y o d ca cb n n2 : Nat} {f g : Nat → Int32} {co po co2 po2 : Int32} {Φ Φ1 : Hm} {n1 : Nat} {f1 : Nat → Int32} {co1 po1 : Int32} {md : Nat → Prop} (hD : Ds x y o d) (h : JK G x y o d ca n f co po n2 g co2 po2 Φ) (hI : In G x cb Φ1) (h1 : Φ1 (x + 1) = some (o_ 7 [.ref (x + 2), .int (nI n1)])) (h2 : Φ1 (x + 2) = some (ab_ G 700 f1)) (h7 : ∃ nx ki sa nu : Nat, Φ1 (x + 24) = some (o_ 8 [.ref (x + 25), .int co1, .int po1, .ref (x + 1), .int (nI nx), .int (nI ki), .int (nI sa), .int (nI nu)])) (hF : Fr x md Φ Φ1) (hm : ∀ j, md j → j < 149) : JK G x y o d cb n1 f1 co1 po1 n2 g co2 po2 Φ1 := by
  obtain ⟨d1, d2, d3⟩ := hD
  have hf : ∀ b, x + 149 ≤ b → Φ1 b = Φ b := fun b hb => hF b (fun j q hj => by have := hm j hj; omega)
  obtain ⟨-, h3, ⟨u, h4⟩, ⟨w, h5⟩, -⟩ := h
  exact ⟨hI, JM.eq h3 (fun k hk => hf _ (by omega)), ⟨u, (hf o (by omega)).trans h4⟩, ⟨w, (hf d (by omega)).trans h5⟩, h1, h2, h7⟩
theorem JK.p2 {G : EnvG} {x y o d ca n n2 : Nat} {f g : Nat → Int32} {co po co2 po2 : Int32} {Φ Φ1 : Hm} {md : Nat → Prop} (h : JK G x y o d ca n f co po n2 g co2 po2 Φ) (hF : Fr x md Φ Φ1) (hm : ∀ j, md j → ¬ j = 2) : Φ1 (x + 2) = some (ab_ G 700 f) := (hF _ (fun j q hj => hm j hj (by omega))).trans h.2.2.2.2.2.1
theorem JK.p24 {G : EnvG} {x y o d ca n n2 : Nat} {f g : Nat → Int32} {co po co2 po2 : Int32} {Φ Φ1 : Hm} {md : Nat → Prop} (h : JK G x y o d ca n f co po n2 g co2 po2 Φ) (hF : Fr x md Φ Φ1) (hm : ∀ j, md j → ¬ j = 24) : ∃ nx ki sa nu : Nat, Φ1 (x + 24) = some (o_ 8 [.ref (x + 25), .int co, .int po, .ref (x + 1), .int (nI nx), .int (nI ki), .int (nI sa), .int (nI nu)]) := by
  obtain ⟨nx, ki, sa, nu, h7⟩ := h.2.2.2.2.2.2
  exact ⟨nx, ki, sa, nu, (hF _ (fun j q hj => hm j hj (by omega))).trans h7⟩
theorem JK.wl {G : EnvG} {x y o d ca cb n n2 : Nat} {f g : Nat → Int32} {co po co2 po2 : Int32} {Φ Φ1 : Hm} (hD : Ds x y o d) (h : JK G x y o d ca n f co po n2 g co2 po2 Φ) (hW : WpL G x cb o Φ Φ1) : JK G x y o d cb n f co po n2 g co2 po2 Φ1 := by
  obtain ⟨d1, d2, d3⟩ := hD
  obtain ⟨hI, ho, hf⟩ := hW
  obtain ⟨-, h2, -, ⟨w, h4⟩, h5, h6, nx, ki, sa, nu, h7⟩ := h
  exact ⟨hI, JM.eq h2 (fun k hk => hf _ (fun j hj => by omega) (by omega)), ho, ⟨w, (hf d (fun j hj => by omega) (by omega)).trans h4⟩, (hf _ (fun j hj => by omega) (by omega)).trans h5, (hf _ (fun j hj => by omega) (by omega)).trans h6, nx, ki, sa, nu, (hf _ (fun j hj => by omega) (by omega)).trans h7⟩
theorem JK.wd {G : EnvG} {x y o d ca cb n n2 : Nat} {f g : Nat → Int32} {co po co2 po2 : Int32} {Φ Φ1 : Hm} (hD : Ds x y o d) (h : JK G x y o d ca n f co po n2 g co2 po2 Φ) (hW : WpD G x cb d Φ Φ1) : JK G x y o d cb n f co po n2 g co2 po2 Φ1 := by
  obtain ⟨d1, d2, d3⟩ := hD
  obtain ⟨hI, ho, hf⟩ := hW
  obtain ⟨-, h2, ⟨u, h3⟩, -, h5, h6, nx, ki, sa, nu, h7⟩ := h
  exact ⟨hI, JM.eq h2 (fun k hk => hf _ (fun j hj => by omega) (by omega)), ⟨u, (hf o (fun j hj => by omega) (by omega)).trans h3⟩, ho, (hf _ (fun j hj => by omega) (by omega)).trans h5, (hf _ (fun j hj => by omega) (by omega)).trans h6, nx, ki, sa, nu, (hf _ (fun j hj => by omega) (by omega)).trans h7⟩
theorem JK.ref {G : EnvG} {x y o d ca n n2 : Nat} {f g : Nat → Int32} {co po co2 po2 : Int32} {Φ Φ1 : Hm} {m2 : Nat} {g2 : Nat → Int32} {co3 po3 : Int32} {md : Nat → Prop} (hD : Ds x y o d) (h : JK G x y o d ca n f co po n2 g co2 po2 Φ) (hM : JM G y m2 co3 po3 g2 Φ1) (hF : Fr y md Φ Φ1) (hm : ∀ j, md j → j < 26) : JK G x y o d ca n f co po m2 g2 co3 po3 Φ1 := by
  obtain ⟨d1, d2, d3⟩ := hD
  have hf : ∀ b, (b < y ∨ y + 26 ≤ b) → Φ1 b = Φ b := fun b hb => hF b (fun j q hj => by have := hm j hj; omega)
  obtain ⟨h1, -, ⟨u, h3⟩, ⟨w, h4⟩, h5, h6, nx, ki, sa, nu, h7⟩ := h
  exact ⟨In.eq h1 (fun k hk => hf _ (by omega)), hM, ⟨u, (hf o (by omega)).trans h3⟩, ⟨w, (hf d (by omega)).trans h4⟩, (hf _ (by omega)).trans h5, (hf _ (by omega)).trans h6, nx, ki, sa, nu, (hf _ (by omega)).trans h7⟩
theorem JK.up {G : EnvG} {x y o d ca cb n n2 : Nat} {f g : Nat → Int32} {co po co2 po2 : Int32} {Φ : Hm} (h : JK G x y o d ca n f co po n2 g co2 po2 Φ) (hc : ca ≤ cb) : JK G x y o d cb n f co po n2 g co2 po2 Φ := ⟨In.mono h.1 hc, h.2⟩
theorem JJ.up {G : EnvG} {x y o d ca cb : Nat} {Φ : Hm} (h : JJ G x y o d ca Φ) (hc : ca ≤ cb) : JJ G x y o d cb Φ := by
  obtain ⟨n, f, g, co, po, h, he⟩ := h
  exact ⟨n, f, g, co, po, JK.up h hc, he⟩
theorem JK.il {G : EnvG} {x y o d ca n n2 : Nat} {f g : Nat → Int32} {co po co2 po2 : Int32} {Φ : Hm} (h : JK G x y o d ca n f co po n2 g co2 po2 Φ) : n2 ≤ 700 := by
  obtain ⟨rd, fl, le, nx, qu, kn, nu, va, st, h2⟩ := h.2.1.1
  obtain ⟨_, _, _, _, _, _, _, _, _, _, _, _, _, _, _, _, _, h0, -, -, -, -, -, -, -, -, -, -, hb, -⟩ := h2.1
  exact hb
theorem JK.fit {G : EnvG} {x y o d ca n n2 : Nat} {f g : Nat → Int32} {co po co2 po2 : Int32} {Φ : Hm} (h : JK G x y o d ca n f co po n2 g co2 po2 Φ) : ∀ j9, fits .byte (.int (f j9)) = true := by
  obtain ⟨f2, h2, h3⟩ := in2 (k := 2) h.1 rfl
  have e := h.2.2.2.2.2.1.symm.trans h2
  have e2 := ab_inj e
  subst e2
  exact h3
theorem nI_cl {n : Nat} (h : n < 2 ^ 31) : (nI n).toNatClampNeg = n := by
  show (nI n).toInt.toNat = n
  rw [nI_toInt h]
  omega
theorem vinL0 {i L : Nat} (h : i < L) (hL : L ≤ 3584) : vp_in (nI i) L := by
  refine vin ?_
  have h1 : ¬ nI i < 0 := by
    rw [Int32.lt_iff_toInt_lt, nI_toInt (by omega)]
    show ¬ (i : Int) < 0
    omega
  rw [nI_cl (by omega), decide_eq_false h1]
  show Nat.ble (i + 1) L = true
  exact Nat.ble_eq_true_of_le h
theorem vinL {i n L : Nat} {w : Int32} (hw : w = nI n) (h : i + n < L) (hL : L ≤ 3584) : vp_in (nI i + w) L := by
  subst hw
  rw [show nI i + nI n = nI (i + n) from (Int32.ofNat_add i n).symm]
  exact vinL0 h hL
theorem rmL {cells slots mc ms : Nat} (h1 : cells ≤ 9000) (h2 : slots ≤ 90000) (h3 : mc ≤ 8) (h4 : ms ≤ 64) : cells + mc ≤ room_1.cells ∧ slots + ms ≤ room_1.slots := by
  have e1 : room_1.cells = 603072 := rfl
  have e2 : room_1.slots = 7198826 := rfl
  omega
theorem apV_int {n n1 : Nat} {v : Option Value} (h : apV n v n1) : ∃ r : Int32, v = some (.int r) := by
  rcases h with ⟨-, rfl, -⟩ | ⟨-, rfl, -⟩ <;> exact ⟨_, rfl⟩
theorem trV_int {n n1 : Nat} {a : Int32} {v : Option Value} (h : trV n a v n1) : ∃ r : Int32, v = some (.int r) := by
  rcases h with ⟨j, -, -, rfl, -⟩ | ⟨-, rfl, -⟩ <;> exact ⟨_, rfl⟩
theorem LdV_int {b : Nat → Int32} {v : Option Value} {co po : Int32} (h : LdV b v co po) : ∃ r : Int32, v = some (.int r) := by
  rcases h with ⟨m, q, c, rfl, -⟩ | ⟨er, s, m, c, rfl, -⟩ <;> exact ⟨_, rfl⟩
theorem oi_eq {r q : Int32} (h : some (Value.int r) = some (Value.int q)) : r = q := by
  injection h with h
  injection h
theorem trV_le {n n1 : Nat} {a : Int32} {v : Option Value} (h : trV n a v n1) : n1 ≤ n := by
  rcases h with ⟨j, hj, -, -, rfl⟩ | ⟨-, -, rfl⟩ <;> omega
theorem bA_ext {f g : Nat → Int32} {n : Nat} (h : ∀ j, j < n → f j = g j) : bA f n = bA g n := by
  funext i
  unfold bA
  by_cases hi : i < n
  · rw [if_pos hi, if_pos hi, h i hi]
  · rw [if_neg hi, if_neg hi]
/-- appendInput in both -/
theorem fin_ap {n n1 n2 : Nat} {f g f1 g1 : Nat → Int32} {a b d p q r r2 : Int32} (hE : ∀ j, j < n → f j = g j) (h : apV n (some (.int r)) n1) (h2 : apV n (some (.int r2)) n2) (h3 : n1 = n → f1 = f) (h4 : n ≤ 680 → AppR (fun w k => bL w.toInt64 k) f n a b d p q f1) (k3 : n2 = n → g1 = g) (k4 : n ≤ 680 → AppR bI g n a b d p q g1) : r = r2 ∧ n1 = n2 ∧ ∀ j, j < n2 → f1 j = g1 j := by
  obtain ⟨e1, e2⟩ := apV_fun h h2
  refine ⟨oi_eq e1, e2, ?_⟩
  subst e2
  rcases h with ⟨c, -, e⟩ | ⟨c, -, e⟩
  · rw [h3 e, k3 e, e]
    exact hE
  · rw [e]
    exact AppR_eq (fun w k hk => bL_bI w k hk) (h4 c) (k4 c) hE
theorem fin_tr {n n1 n2 : Nat} {f g : Nat → Int32} {a r r2 : Int32} (hn : n ≤ 700) (hE : ∀ j, j < n → f j = g j) (h : trV n a (some (.int r)) n1) (h2 : trV n a (some (.int r2)) n2) : r = r2 ∧ n1 = n2 ∧ ∀ j, j < n2 → f j = g j := by
  obtain ⟨e1, e2⟩ := trV_fun hn h h2
  refine ⟨oi_eq e1, e2, fun j hj => hE j ?_⟩
  have := trV_le h2
  omega
theorem fin_ld {n : Nat} {f g : Nat → Int32} {r r2 co po co2 po2 : Int32} (hE : ∀ j, j < n → f j = g j) (h : LdV (bA f n) (some (.int r)) co po) (h2 : LdV (bA g n) (some (.int r2)) co2 po2) : r = r2 ∧ co = co2 ∧ po = po2 := by
  rw [← bA_ext hE] at h2
  obtain ⟨e1, e2, e3⟩ := LdV_fun h h2
  exact ⟨oi_eq e1, e2, e3⟩
theorem JJ.of {G : EnvG} {x y o d ca n n2 : Nat} {f g : Nat → Int32} {co po co2 po2 : Int32} {Φ : Hm} (h : JK G x y o d ca n f co po n2 g co2 po2 Φ) (e1 : n = n2) (e2 : co = co2) (e3 : po = po2) (hE : ∀ j, j < n2 → f j = g j) : JJ G x y o d ca Φ := by
  subst e1
  subst e2
  subst e3
  exact ⟨_, _, _, _, _, h, hE⟩
theorem JM.obj {G : EnvG} {y il : Nat} {co po : Int32} {g : Nat → Int32} {Φ : Hm} (h : JM G y il co po g Φ) : ∃ fs : List Value, Φ y = some (o_ 14 fs) := by
  obtain ⟨⟨rd, fl, le, nx, qu, kn, nu, va, st, h⟩, -⟩ := h
  obtain ⟨_, _, _, _, _, _, _, _, _, _, _, _, _, _, _, _, _, h0, -⟩ := h.1
  exact ⟨_, h0⟩
theorem sw_get (a : Int32) : ∃ k : Nat, k < 64 ∧ a &&& 63 = nI k := by
  refine ⟨(a &&& 63).toBitVec.toNat, ?_, ?_⟩
  · have : (a &&& 63).toBitVec = a.toBitVec &&& 63#32 := rfl
    rw [this, BitVec.toNat_and]
    exact Nat.lt_of_le_of_lt Nat.and_le_right (by decide)
  · apply Int32.toBitVec_inj.mp
    show _ = (Int32.ofNat _).toBitVec
    rw [Int32.toBitVec_ofNat']
    simp
theorem law_cmp {i L : Nat} (hL : L ≤ 3584) (hi : i ≤ 3591) (h : ¬ nI L - 7 < nI i) : i + 7 ≤ L := by
  by_cases h7 : 7 ≤ L
  · have e : nI L - 7 = nI (L - 7) := nI_sub (b := 7) h7
    rw [e, Int32.lt_iff_toInt_lt, nI_toInt (by omega), nI_toInt (by omega)] at h
    omega
  · exfalso
    have h8 : ∀ k, k < 7 → (nI k - 7).toInt < 0 := by decide
    have h9 := h8 L (by omega)
    rw [Int32.lt_iff_toInt_lt, nI_toInt (n := i) (by omega)] at h
    omega

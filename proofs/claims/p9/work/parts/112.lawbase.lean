
/-! the law: both objects in shape, what is told of them, the rows that take an answer -/
noncomputable def JM (G : EnvG) (y : Nat) (n2 : Nat) (g : Nat → Int32) (co2 : Int32) (po2 : Int32) (z2 : XZ) (c2 : Cf) (Φ : Hm) : Prop := (∃ (rd : (Nat → Int32) → Prop) (le nx qu : Nat) (kn nu : Int32) (va : Int64) (st : Nat) (th : Int32), Im G y (rd, (NNq c2), (CaQ (z2.2.2.2.2.2.2.2.2.1.1) (z2.2.2.2.2.2.2.2.2.1.2)), (TpQ (z2.2.2.2.2.2.2.2.2.2.1) (z2.2.2.2.2.2.2.2.2.2.2)), (TtQ (z2.2.2.2.2.2.2.2.2.2.1) (z2.2.2.2.2.2.2.2.2.2.2)), z2.2.2.2.2.2.2.2.2.1.1, 0, le, nx, n2, qu, kn, co2, nu, va, st, po2, nI (z2.1), z2.2.2.2.1, z2.2.2.2.2.2.1, nI (z2.2.2.1), z2.2.1, z2.2.2.2.2.1, z2.2.2.2.2.2.2.1, z2.2.2.2.2.2.2.2.1, z2.2.2.2.2.2.2.2.2.2.1, th) Φ) ∧ Φ (y + 25) = some (ab_ G 700 g)
noncomputable def C24 (G : EnvG) (x : Nat) (co po : Int32) (Φ : Hm) : Prop := ∃ nx ki sa nu : Nat, Φ (x + 24) = some (o_ 8 [.ref (x + 25), .int co, .int po, .ref (x + 1), .int (nI nx), .int (nI ki), .int (nI sa), .int (nI nu)])
theorem C24.eq {G : EnvG} {x : Nat} {co po : Int32} {Φ Φ1 : Hm} (h : C24 G x co po Φ) (e : Φ1 (x + 24) = Φ (x + 24)) : C24 G x co po Φ1 := by
  obtain ⟨nx, ki, sa, nu, h⟩ := h
  exact ⟨nx, ki, sa, nu, e.trans h⟩
/-- the configuration in force -/
noncomputable def CfC (G : EnvG) (x : Nat) (c : Cf) (Φ : Hm) : Prop := ∃ t s : Nat, CfA G x t s c Φ
theorem CfC.eq {G : EnvG} {x : Nat} {c : Cf} {Φ Φ1 : Hm} (h : CfC G x c Φ) (e : ∀ j, 3 ≤ j → j < 24 → Φ1 (x + j) = Φ (x + j)) : CfC G x c Φ1 := by
  obtain ⟨t, s, h⟩ := h
  exact ⟨t, s, h.mv e⟩
/-- the class's values, and the reference's -/
noncomputable def JK (G : EnvG) (x y o d ca : Nat) (n : Nat) (f : Nat → Int32) (co : Int32) (po : Int32) (z : XZ) (c : Cf) (n2 : Nat) (g : Nat → Int32) (co2 : Int32) (po2 : Int32) (z2 : XZ) (c2 : Cf) (Φ : Hm) : Prop := In G x ca Φ ∧ JM G y n2 g co2 po2 z2 c2 Φ ∧ (∃ f : Nat → Int64, Φ o = some (al_ G 1 f)) ∧ (∃ f : Nat → UInt64, Φ d = some (ad_ G 1 f)) ∧ Φ (x + 1) = some (o_ 7 [.ref (x + 2), .int (nI n)]) ∧ Φ (x + 2) = some (ab_ G 700 f) ∧ C24 G x co po Φ ∧ XC G x z Φ ∧ CfC G x c Φ
noncomputable def JJ (G : EnvG) (x y o d ca : Nat) (Φ : Hm) : Prop := ∃ (n : Nat) (f g : Nat → Int32) (co po : Int32) (z : XZ) (c : Cf), JK G x y o d ca n f co po z c n g co po z c Φ ∧ CfG c ∧ ∀ j, j < n → f j = g j
theorem Im.eq {G : EnvG} {y : Nat} {T : MT} {Φ Φ1 : Hm} (h : Im G y T Φ) (he : ∀ k, k < 26 → Φ1 (y + k) = Φ (y + k)) : Im G y T Φ1 := by
  refine ⟨?_, fun k h1 h2 => ?_⟩
  · rw [show Φ1 y = Φ y from he 0 (by decide)]
    exact h.1
  · rw [he k h2]
    exact h.2 k h1 h2
theorem JM.eq {G : EnvG} {y : Nat} {n2 : Nat} {g : Nat → Int32} {co2 : Int32} {po2 : Int32} {z2 : XZ} {c2 : Cf} {Φ Φ1 : Hm} (h : JM G y n2 g co2 po2 z2 c2 Φ) (he : ∀ k, k < 26 → Φ1 (y + k) = Φ (y + k)) : JM G y n2 g co2 po2 z2 c2 Φ1 := by
  obtain ⟨⟨rd, le, nx, qu, kn, nu, va, st, th, h⟩, h2⟩ := h
  exact ⟨⟨rd, le, nx, qu, kn, nu, va, st, th, Im.eq h he⟩, (he 25 (by decide)).trans h2⟩
theorem In.eq {G : EnvG} {x ca : Nat} {Φ Φ1 : Hm} (h : In G x ca Φ) (he : ∀ k, k < 149 → Φ1 (x + k) = Φ (x + k)) : In G x ca Φ1 := by
  intro k
  by_cases hk : k < 149
  · rw [he k hk]
    exact h k
  · have hkd : kd k = 99 := by
      unfold kd
      rw [List.getD_eq_getElem?_getD, List.getElem?_eq_none (show kdL.length ≤ k from Nat.not_lt.mp hk)]
      rfl
    unfold Ok
    rw [hkd]
    trivial
abbrev Ds (x y o d : Nat) : Prop := x + 149 ≤ y ∧ y + 26 ≤ o ∧ o < d
theorem JK.up {G : EnvG} {x y o d ca cb : Nat} {n : Nat} {f : Nat → Int32} {co : Int32} {po : Int32} {z : XZ} {c : Cf} {n2 : Nat} {g : Nat → Int32} {co2 : Int32} {po2 : Int32} {z2 : XZ} {c2 : Cf} {Φ : Hm} (h : JK G x y o d ca n f co po z c n2 g co2 po2 z2 c2 Φ) (hc : ca ≤ cb) : JK G x y o d cb n f co po z c n2 g co2 po2 z2 c2 Φ := ⟨In.mono h.1 hc, h.2⟩
theorem JJ.up {G : EnvG} {x y o d ca cb : Nat} {Φ : Hm} (h : JJ G x y o d ca Φ) (hc : ca ≤ cb) : JJ G x y o d cb Φ := by
  obtain ⟨n, f, g, co, po, z, c, h, he⟩ := h
  exact ⟨n, f, g, co, po, z, c, JK.up h hc, he⟩
theorem JK.il {G : EnvG} {x y o d ca : Nat} {n : Nat} {f : Nat → Int32} {co : Int32} {po : Int32} {z : XZ} {c : Cf} {n2 : Nat} {g : Nat → Int32} {co2 : Int32} {po2 : Int32} {z2 : XZ} {c2 : Cf} {Φ : Hm} (h : JK G x y o d ca n f co po z c n2 g co2 po2 z2 c2 Φ) : n2 ≤ 700 := by
  obtain ⟨rd, le, nx, qu, kn, nu, va, st, th, h2⟩ := h.2.1.1
  obtain ⟨_, _, _, _, _, _, _, h0, -, -, -, -, -, -, -, -, -, -, hb, -⟩ := h2.1
  exact hb
theorem JK.fit {G : EnvG} {x y o d ca : Nat} {n : Nat} {f : Nat → Int32} {co : Int32} {po : Int32} {z : XZ} {c : Cf} {n2 : Nat} {g : Nat → Int32} {co2 : Int32} {po2 : Int32} {z2 : XZ} {c2 : Cf} {Φ : Hm} (h : JK G x y o d ca n f co po z c n2 g co2 po2 z2 c2 Φ) : ∀ j9, fits .byte (.int (f j9)) = true := by
  obtain ⟨f2, h2, h3⟩ := in2 (k := 2) h.1 rfl
  have e := h.2.2.2.2.2.1.symm.trans h2
  have e2 := ab_inj e
  subst e2
  exact h3
theorem o4_aq {l m : List Value} (h : some (o_ 4 l) = some (o_ 4 m)) : l = m := (Prod.mk.inj (Sum.inr.inj (Option.some.inj h))).2
theorem JK.aq {G : EnvG} {x y o d ca : Nat} {n : Nat} {f : Nat → Int32} {co : Int32} {po : Int32} {z : XZ} {c : Cf} {n2 : Nat} {g : Nat → Int32} {co2 : Int32} {po2 : Int32} {z2 : XZ} {c2 : Cf} {Φ : Hm} (h : JK G x y o d ca n f co po z c n2 g co2 po2 z2 c2 Φ) : z.2.2.2.1 = 0 ∨ z.2.2.2.1 = 1 := by
  obtain ⟨a1, a2, a3, a4, a5, a6, a7, a8, a9, h2, h3⟩ := in16 (k := 80) h.1 rfl
  obtain ⟨xp, xb, pp, pt, -, h4, -⟩ := h.2.2.2.2.2.2.2.1
  have e := o4_aq (h4.symm.trans h2)
  have e7 : Value.int z.2.2.2.1 = Value.int a4 := congrArg (fun l : List Value => l.getD 7 .null) e
  have e8 : z.2.2.2.1 = a4 := by injection e7
  rw [e8]
  exact h3
/-- what is thrown -/
theorem Im.thr {G : EnvG} {y : Nat} {T : MT} {Φ : Hm} (h : Im G y T Φ) : ∃ l9 : List Value, Φ y = some (o_ 14 (.int T.2.2.2.2.2.2.2.2.2.2.2.2.2.2.2.2.2.2.2.2.2.2.2.2.2.2 :: l9)) := by
  obtain ⟨_, _, _, _, _, _, _, h0, -⟩ := h.1
  exact ⟨_, h0⟩
theorem nI_cl {n : Nat} (h : n < 2 ^ 31) : (nI n).toNatClampNeg = n := by
  show (nI n).toInt.toNat = n
  rw [nI_toInt h]
  omega
theorem vinL0 {i L : Nat} (h : i < L) (hL : L ≤ 3584) : vp_in (nI i) L := by
  refine vin ?_
  have h1 : ¬ nI i < 0 := by
    rw [Int32.lt_iff_toInt_lt, nI_toInt (by omega)]
    show ¬ (i : Int) < 0
    omega
  rw [nI_cl (by omega), decide_eq_false h1]
  show Nat.ble (i + 1) L = true
  exact Nat.ble_eq_true_of_le h
theorem vinL {i n L : Nat} {w : Int32} (hw : w = nI n) (h : i + n < L) (hL : L ≤ 3584) : vp_in (nI i + w) L := by
  subst hw
  rw [show nI i + nI n = nI (i + n) from (Int32.ofNat_add i n).symm]
  exact vinL0 h hL
theorem rmL {cells slots mc ms : Nat} (h1 : cells ≤ 9000) (h2 : slots ≤ 90000) (h3 : mc ≤ 8) (h4 : ms ≤ 64) : cells + mc ≤ room_1.cells ∧ slots + ms ≤ room_1.slots := by
  have e1 : room_1.cells = 603072 := rfl
  have e2 : room_1.slots = 7198826 := rfl
  omega
theorem apV_int {n n1 : Nat} {v : Option Value} (h : apV n v n1) : ∃ r : Int32, v = some (.int r) := by
  rcases h with ⟨-, rfl, -⟩ | ⟨-, rfl, -⟩ <;> exact ⟨_, rfl⟩
theorem trV_int {n n1 : Nat} {a : Int32} {v : Option Value} (h : trV n a v n1) : ∃ r : Int32, v = some (.int r) := by
  rcases h with ⟨j, -, -, rfl, -⟩ | ⟨-, rfl, -⟩ <;> exact ⟨_, rfl⟩
theorem LdV_int {b : Nat → Int32} {v : Option Value} {co po : Int32} (h : LdV b v co po) : ∃ r : Int32, v = some (.int r) := by
  rcases h with ⟨m, q, c, rfl, -⟩ | ⟨er, s, m, c, rfl, -⟩ <;> exact ⟨_, rfl⟩
theorem oi_eq {r q : Int32} (h : some (Value.int r) = some (Value.int q)) : r = q := by
  injection h with h
  injection h
theorem trV_le {n n1 : Nat} {a : Int32} {v : Option Value} (h : trV n a v n1) : n1 ≤ n := by
  rcases h with ⟨j, hj, -, -, rfl⟩ | ⟨-, -, rfl⟩ <;> omega
theorem bA_ext {f g : Nat → Int32} {n : Nat} (h : ∀ j, j < n → f j = g j) : bA f n = bA g n := by
  funext i
  unfold bA
  by_cases hi : i < n
  · rw [if_pos hi, if_pos hi, h i hi]
  · rw [if_neg hi, if_neg hi]
/-- appendInput in both -/
theorem fin_ap {n n1 n2 : Nat} {f g f1 g1 : Nat → Int32} {a b d p q r r2 : Int32} (hE : ∀ j, j < n → f j = g j) (h : apV n (some (.int r)) n1) (h2 : apV n (some (.int r2)) n2) (h3 : n1 = n → f1 = f) (h4 : n ≤ 680 → AppR (fun w k => bL w.toInt64 k) f n a b d p q f1) (k3 : n2 = n → g1 = g) (k4 : n ≤ 680 → AppR bI g n a b d p q g1) : r = r2 ∧ n1 = n2 ∧ ∀ j, j < n2 → f1 j = g1 j := by
  obtain ⟨e1, e2⟩ := apV_fun h h2
  refine ⟨oi_eq e1, e2, ?_⟩
  subst e2
  rcases h with ⟨c, -, e⟩ | ⟨c, -, e⟩
  · rw [h3 e, k3 e, e]
    exact hE
  · rw [e]
    exact AppR_eq (fun w k hk => bL_bI w k hk) (h4 c) (k4 c) hE
theorem fin_tr {n n1 n2 : Nat} {f g : Nat → Int32} {a r r2 : Int32} (hn : n ≤ 700) (hE : ∀ j, j < n → f j = g j) (h : trV n a (some (.int r)) n1) (h2 : trV n a (some (.int r2)) n2) : r = r2 ∧ n1 = n2 ∧ ∀ j, j < n2 → f j = g j := by
  obtain ⟨e1, e2⟩ := trV_fun hn h h2
  refine ⟨oi_eq e1, e2, fun j hj => hE j ?_⟩
  have := trV_le h2
  omega
theorem LdW_int {b : Nat → Int32} {v : Option Value} {co po nw aq nw8 aq8 : Int32} {ob ob8 : Int64} (h : LdW b v co po nw aq ob nw8 aq8 ob8) : ∃ r : Int32, v = some (.int r) := LdV_int (LdW_V h)
theorem fin_ld {n : Nat} {f g : Nat → Int32} {r r2 co po co2 po2 nw aq nw8 aq8 nw9 aq9 : Int32} {ob ob8 ob9 : Int64} (hE : ∀ j, j < n → f j = g j) (h : LdW (bA f n) (some (.int r)) co po nw aq ob nw8 aq8 ob8) (h2 : LdW (bA g n) (some (.int r2)) co2 po2 nw aq ob nw9 aq9 ob9) : r = r2 ∧ co = co2 ∧ po = po2 ∧ nw8 = nw9 ∧ aq8 = aq9 ∧ ob8 = ob9 := by
  rw [← bA_ext hE] at h2
  obtain ⟨e1, e2⟩ := LdW_fun h h2
  exact ⟨oi_eq e1, e2⟩
theorem JJ.of {G : EnvG} {x y o d ca : Nat} {n : Nat} {f : Nat → Int32} {co : Int32} {po : Int32} {z : XZ} {c : Cf} {n2 : Nat} {g : Nat → Int32} {co2 : Int32} {po2 : Int32} {z2 : XZ} {c2 : Cf} {Φ : Hm} (h : JK G x y o d ca n f co po z c n2 g co2 po2 z2 c2 Φ) (hG : CfG c) (e1 : n = n2) (e2 : co = co2) (e3 : po = po2) (e4 : z = z2) (e7 : c = c2) (hE : ∀ j, j < n2 → f j = g j) : JJ G x y o d ca Φ := by
  subst e1
  subst e2
  subst e3
  subst e4
  subst e7
  exact ⟨_, _, _, _, _, _, _, h, hG, hE⟩
theorem fin_ldc {n : Nat} {f g : Nat → Int32} {c c1 c2 : Cf} (hE : ∀ j, j < n → f j = g j) (h : CfL (bA f n) c c1) (h2 : CfL (bA g n) c c2) : c1 = c2 := by
  rw [← bA_ext hE] at h2
  exact CfL_fun h h2
theorem fin_su {c c1 : Cf} {a b r : Int32} {y : Nat} {Φ1 : Hm} (h : (¬ InF a ∧ some (Value.int r) = some (.int 0) ∧ c1 = c ∧ ∃ l9 : List Value, Φ1 y = some (o_ 14 (.int 1 :: l9))) ∨ (InF a ∧ some (Value.int r) = some (.int (suV c a)) ∧ c1 = suC c a b ∧ ∃ l9 : List Value, Φ1 y = some (o_ 14 (.int 0 :: l9)))) : ∃ (th : Int32) (l9 : List Value), Φ1 y = some (o_ 14 (.int th :: l9)) ∧ AnsR (InF a) True (suV c a).toInt64 th r.toInt64 ∧ (r = 0 ∨ r = 1) ∧ suW c a b = c1 := by
  rcases h with ⟨h1, h2, rfl, l, h3⟩ | ⟨h1, h2, rfl, l, h3⟩
  · exact ⟨1, l, h3, Or.inr (Or.inl ⟨h1, rfl⟩), Or.inl (oi_eq h2), suW_n h1⟩
  · have e := oi_eq h2
    subst e
    exact ⟨0, l, h3, Or.inl ⟨h1, trivial, rfl, rfl⟩, suV_01 c a, suW_y h1⟩
/-! the law at PX=4: what the reference tells, as a step of the state -/
/-- what the reference tells of packets, as a step of the state -/
theorem ObR_of {c : Cf} {a b d f g : Int32} {m : Nat} {tm r w n n1 w1 k1 d1 : Nat} {aq e e1 : Int32} {ob sm un ob1 sm1 u1 : Int64} {F F1 : Nat → Fl} {T T1 : Nat × (Nat → Fl)} (h1 : tkI c (kyN a b d f) g.toInt64 tm r ((n, F, un), w, 0, 0) m = ((n1, F1, u1), w1, k1, d1)) (h2 : rmS (kyN a b d f) g.toInt64 m tm T = T1) (he : e1 = e + nI d1) (hs : sm1 = sm + (nI k1).toInt64) (ho : ob1 = ob + (nI m).toInt64) : ObR c a b d f g m (tm, r, w, aq, e, ob, sm, un, (n, F), T) (tm, r, w1, aq, e1, ob1, sm1, u1, (n1, F1), T1) (nI k1) := ⟨k1, d1, rfl, h1, h2, rfl, rfl, rfl, he, ho, hs⟩
theorem AvR_of {c : Cf} {a : Int32} {tm r w n n1 r1 k1 : Nat} {aq e e1 : Int32} {ob sm un u1 : Int64} {F F1 : Nat → Fl} {T : Nat × (Nat → Fl)} (h1 : tiI c aq tm ((n, F, un), r, e, 0) a.toNatClampNeg = ((n1, F1, u1), r1, e1, k1)) : AvR c a (tm, r, w, aq, e, ob, sm, un, (n, F), T) (tm + a.toNatClampNeg, r1, w, aq, e1, ob, sm, u1, (n1, F1), T) (nI k1) := ⟨k1, rfl, h1, rfl, rfl, rfl, rfl, rfl, rfl⟩
theorem FlR_of {c : Cf} {tm r w n : Nat} {aq e : Int32} {ob sm un u1 : Int64} {F F1 : Nat → Fl} {T : Nat × (Nat → Fl)} (h1 : exI c (n, F, un) n = (0, F1, u1)) : FlR c (tm, r, w, aq, e, ob, sm, un, (n, F), T) (tm, r, w, aq, e + nI n, ob, sm, u1, (0, F1), T) := ⟨h1, rfl, rfl, rfl, rfl, rfl, rfl, rfl, rfl, rfl⟩
theorem SrR_of {c : Cf} {a v1 : Int32} {tm r w n n1 r1 k1 : Nat} {aq e e1 : Int32} {ob sm un u1 : Int64} {F F1 : Nat → Fl} {T : Nat × (Nat → Fl)} (h1 : srS c a (n, F, un) r = (v1, (n1, F1, u1), r1, k1)) (he : e1 = e + nI k1) : SrR c a (tm, r, w, aq, e, ob, sm, un, (n, F), T) (tm, r1, w, aq, e1, ob, sm, u1, (n1, F1), T) v1 := ⟨k1, h1, rfl, rfl, rfl, he, rfl, rfl, rfl⟩
/-- what the reference tells of observe, observeMany, advance, as the class does -/
theorem fin_ob {a b d f g : Int32} {tm r w n n1 w1 k1 d1 nT tk1 : Nat} {aq e e1 th r9 : Int32} {ob sm un ob1 sm1 u1 : Int64} {F F1 Ft G1 : Nat → Fl} {c : Cf} (h : (PkP a b d f g ∧ some (Value.int r9) = some (.int (nI k1)) ∧ tkI c (kyN a b d f) g.toInt64 tm r ((n, F, un), w, 0, 0) 1 = ((n1, F1, u1), w1, k1, d1) ∧ rmS (kyN a b d f) g.toInt64 1 tm (nT, Ft) = (tk1, G1) ∧ e1 = e + nI d1 ∧ sm1 = sm + (nI k1).toInt64 ∧ ob1 = ob + (nI 1).toInt64 ∧ th = 0) ∨ (¬ PkP a b d f g ∧ some (Value.int r9) = some (.int 0) ∧ n1 = n ∧ F1 = F ∧ u1 = un ∧ e1 = e ∧ sm1 = sm ∧ tk1 = nT ∧ G1 = Ft ∧ w1 = w ∧ ob1 = ob ∧ th = 1)) : AnsZ (PkP a b d f g) True (ObR c a b d f g 1 (tm, r, w, aq, e, ob, sm, un, (n, F), (nT, Ft))) (tm, r, w, aq, e, ob, sm, un, (n, F), (nT, Ft)) (tm, r, w1, aq, e1, ob1, sm1, u1, (n1, F1), (tk1, G1)) th r9.toInt64 := by
  rcases h with ⟨h1, h2, h3, h4, h5, h6, h7, rfl⟩ | ⟨h1, h2, rfl, rfl, rfl, rfl, rfl, rfl, rfl, rfl, rfl, rfl⟩
  · exact Or.inl ⟨h1, trivial, rfl, nI k1, ObR_of h3 h4 h5 h6 h7, congrArg Int32.toInt64 (oi_eq h2)⟩
  · exact Or.inr (Or.inl ⟨h1, rfl, rfl⟩)
theorem fin_obm {a b d f g h : Int32} {tm r w n n1 w1 k1 d1 nT tk1 : Nat} {aq e e1 th r9 : Int32} {ob sm un ob1 sm1 u1 : Int64} {F F1 Ft G1 : Nat → Fl} {c : Cf} (q : ((PkP a b d f g ∧ 1 ≤ h.toInt ∧ h.toInt ≤ 200) ∧ some (Value.int r9) = some (.int (nI k1)) ∧ tkI c (kyN a b d f) g.toInt64 tm r ((n, F, un), w, 0, 0) h.toNatClampNeg = ((n1, F1, u1), w1, k1, d1) ∧ rmS (kyN a b d f) g.toInt64 h.toNatClampNeg tm (nT, Ft) = (tk1, G1) ∧ e1 = e + nI d1 ∧ sm1 = sm + (nI k1).toInt64 ∧ ob1 = ob + h.toInt64 ∧ th = 0) ∨ (¬ (PkP a b d f g ∧ 1 ≤ h.toInt ∧ h.toInt ≤ 200) ∧ some (Value.int r9) = some (.int 0) ∧ n1 = n ∧ F1 = F ∧ u1 = un ∧ e1 = e ∧ sm1 = sm ∧ tk1 = nT ∧ G1 = Ft ∧ w1 = w ∧ ob1 = ob ∧ th = 1)) : AnsZ (PkP a b d f g ∧ 1 ≤ h.toInt ∧ h.toInt ≤ 200) True (ObR c a b d f g h.toNatClampNeg (tm, r, w, aq, e, ob, sm, un, (n, F), (nT, Ft))) (tm, r, w, aq, e, ob, sm, un, (n, F), (nT, Ft)) (tm, r, w1, aq, e1, ob1, sm1, u1, (n1, F1), (tk1, G1)) th r9.toInt64 := by
  rcases q with ⟨h1, h2, h3, h4, h5, h6, h7, rfl⟩ | ⟨h1, h2, rfl, rfl, rfl, rfl, rfl, rfl, rfl, rfl, rfl, rfl⟩
  · have e9 : nI h.toNatClampNeg = h := nI_cli (by have := h1.2.1; omega)
    refine Or.inl ⟨h1, trivial, rfl, nI k1, ObR_of h3 h4 h5 h6 ?_, congrArg Int32.toInt64 (oi_eq h2)⟩
    rw [e9]
    exact h7
  · exact Or.inr (Or.inl ⟨h1, rfl, rfl⟩)
theorem fin_av {a : Int32} {tm r w n n1 r1 k1 : Nat} {aq e e1 th ti1 r9 : Int32} {ob sm un u1 : Int64} {F F1 : Nat → Fl} {T : Nat × (Nat → Fl)} {c : Cf} (h : ((Av1 a ∧ Av2 tm a) ∧ some (Value.int r9) = some (.int (nI k1)) ∧ ti1 = nI (tm + a.toNatClampNeg) ∧ tiI c aq tm ((n, F, un), r, e, 0) a.toNatClampNeg = ((n1, F1, u1), r1, e1, k1) ∧ th = 0) ∨ (((¬ Av1 a ∧ th = 1) ∨ (Av1 a ∧ ¬ Av2 tm a ∧ th = 2)) ∧ some (Value.int r9) = some (.int 0) ∧ ti1 = nI tm ∧ n1 = n ∧ F1 = F ∧ u1 = un ∧ r1 = r ∧ e1 = e)) : ∃ tm1 : Nat, ti1 = nI tm1 ∧ AnsZ (Av1 a) (Av2 tm a) (AvR c a (tm, r, w, aq, e, ob, sm, un, (n, F), T)) (tm, r, w, aq, e, ob, sm, un, (n, F), T) (tm1, r1, w, aq, e1, ob, sm, u1, (n1, F1), T) th r9.toInt64 := by
  rcases h with ⟨h1, h2, h3, h4, rfl⟩ | ⟨h1, h2, h3, rfl, rfl, rfl, rfl, rfl⟩
  · exact ⟨_, h3, Or.inl ⟨h1.1, h1.2, rfl, nI k1, AvR_of h4, congrArg Int32.toInt64 (oi_eq h2)⟩⟩
  · refine ⟨_, h3, ?_⟩
    rcases h1 with ⟨q, rfl⟩ | ⟨q1, q2, rfl⟩
    · exact Or.inr (Or.inl ⟨q, rfl, rfl⟩)
    · exact Or.inr (Or.inr ⟨q1, q2, rfl, rfl⟩)
theorem fin_sr {a : Int32} {tm r w n n1 r1 k1 : Nat} {aq e e1 v1 r9 : Int32} {ob sm un u1 : Int64} {F F1 : Nat → Fl} {T : Nat × (Nat → Fl)} {c : Cf} (h : some (Value.int r9) = some (.int v1) ∧ srS c a (n, F, un) r = (v1, (n1, F1, u1), r1, k1) ∧ e1 = e + nI k1) : SrR c a (tm, r, w, aq, e, ob, sm, un, (n, F), T) (tm, r1, w, aq, e1, ob, sm, u1, (n1, F1), T) r9 := by
  have e9 := oi_eq h.1
  subst e9
  exact SrR_of h.2.1 h.2.2
/-- the state that load leaves -/
noncomputable def LdZ (b : Nat → Int32) (z : XZ) (c1 : Cf) (z1 : XZ) : Prop := (∃ (q m : Nat) (c : Cf), txA b 702 0 cB 0 = (0, q, m, c) ∧ z1 = (0, (c1 0).toNatClampNeg, 1, 0, 0, 0, 0, 0, (0, Fz), (0, Fz))) ∨ (∃ (er s m : Nat) (c : Cf), txA b 702 0 cB 0 = (er, s, m, c) ∧ ¬ er = 0 ∧ z1 = z)
theorem LdZ_fun {b : Nat → Int32} {z z1 z2 : XZ} {c1 : Cf} (h : LdZ b z c1 z1) (h2 : LdZ b z c1 z2) : z1 = z2 := by
  rcases h with ⟨q, m, c, e, rfl⟩ | ⟨er, s, m, c, e, he, rfl⟩ <;> rcases h2 with ⟨q2, m2, d, g, rfl⟩ | ⟨er2, s2, m2, d, g, hg, rfl⟩
  · rfl
  · have h3 := e.symm.trans g
    injection h3 with h4 h5
    exact absurd h4.symm hg
  · have h3 := e.symm.trans g
    injection h3 with h4 h5
    exact absurd h4 he
  · rfl
theorem fin_ldz {n : Nat} {f g : Nat → Int32} {z z1 z2 : XZ} {c1 c2 : Cf} (hE : ∀ j, j < n → f j = g j) (h : LdZ (bA f n) z c1 z1) (hc : c1 = c2) (h2 : LdZ (bA g n) z c2 z2) : z1 = z2 := by
  subst hc
  rw [← bA_ext hE] at h2
  exact LdZ_fun h h2
theorem XC_ld {G : EnvG} {x tm r w n nT n8 m8 : Nat} {b : Nat → Int32} {v : Option Value} {co po aq e xp xb nw8 rt8 dw8 aq8 xp8 xb8 : Int32} {ob sm un ob8 sm8 un8 : Int64} {F Ft F8 G8 : Nat → Fl} {p8 q8 : Nat → Nat} {c8 : Cf} {Φ1 : Hm} (he : xp - xb = e) (hb : zB (tm, r, w, aq, e, ob, sm, un, (n, F), (nT, Ft))) (hG : CfG c8) (h80 : Φ1 (x + 80) = some (e80 x nw8 rt8 dw8 aq8 xp8 xb8 ob8 sm8 un8)) (h81 : Φ1 (x + 81) = some (e81 x n8)) (h95 : Φ1 (x + 95) = some (e95 x m8)) (hC : TbC G x n8 99 F8 p8 Φ1) (hT : TbT G x m8 99 G8 q8 Φ1) (h1 : LdW b v co po (nI tm) aq ob nw8 aq8 ob8) (h2 : LdX b ((n, F), (nT, Ft), nI r, nI w, xp - xb, sm, un) c8 ((n8, F8), (m8, G8), rt8, dw8, xp8 - xb8, sm8, un8)) : ∃ z1 : XZ, XC G x z1 Φ1 ∧ LdZ b (tm, r, w, aq, e, ob, sm, un, (n, F), (nT, Ft)) c8 z1 := by
  rcases h1 with ⟨m, q, c, -, g1, -, -, rfl, rfl, rfl⟩ | ⟨er, s, m, c, -, g1, ge, -, -, rfl, rfl, rfl⟩ <;> rcases h2 with ⟨q2, m2, d, k1, k2⟩ | ⟨er2, s2, m2, d, k1, ke, k2⟩
  · injection k2 with a1 a2
    injection a2 with a2 a3
    injection a3 with a3 a4
    injection a4 with a4 a5
    injection a5 with a5 a6
    injection a6 with a6 a7
    injection a1 with a1 b1
    injection a2 with a2 b2
    subst a1 b1 a2 b2 a3 a4 a6 a7
    obtain ⟨rr, r1, r2, r3⟩ := hG.2.2.1
    have r4 : (c8 0).toNatClampNeg = rr := by
      rw [r3]
      exact nI_clamp (by omega)
    refine ⟨(0, (c8 0).toNatClampNeg, 1, 0, 0, 0, 0, 0, (0, Fz), (0, Fz)), ⟨xp8, xb8, p8, q8, a5, ?_, h81, h95, hC, hT, by show (0 : Nat) ≤ 1000000 ∧ 1 ≤ (c8 0).toNatClampNeg ∧ (c8 0).toNatClampNeg ≤ 1024 ∧ 1 < 2147483648; omega⟩, Or.inl ⟨_, _, _, g1, rfl⟩⟩
    have r5 : nI (c8 0).toNatClampNeg = c8 0 := by rw [r4, r3]
    show Φ1 (x + 80) = some (e80 x (nI 0) (nI (c8 0).toNatClampNeg) (nI 1) 0 xp8 xb8 0 0 0)
    rw [r5]
    exact h80
  · have h3 := g1.symm.trans k1
    injection h3 with h4 h5
    exact absurd h4.symm ke
  · have h3 := g1.symm.trans k1
    injection h3 with h4 h5
    exact absurd h4 ge
  · injection k2 with a1 a2
    injection a2 with a2 a3
    injection a3 with a3 a4
    injection a4 with a4 a5
    injection a5 with a5 a6
    injection a6 with a6 a7
    injection a1 with a1 b1
    injection a2 with a2 b2
    subst a1 b1 a2 b2 a3 a4 a6 a7
    exact ⟨_, ⟨xp8, xb8, p8, q8, a5.trans he, h80, h81, h95, hC, hT, hb⟩, Or.inr ⟨_, _, _, _, g1, ge, rfl⟩⟩
theorem fin_ld4 {b : Nat → Int32} {tm r w n nT n8 m8 r8 : Nat} {v : Option Value} {co po aq e ti1 ad1 ra1 e8 : Int32} {ob sm un ob8 sm8 un8 : Int64} {F Ft F8 G8 : Nat → Fl} {c8 : Cf} (hr : 1 ≤ r8 ∧ r8 ≤ 1024) (hb : r ≤ 1024) (h1 : LdW b v co po (nI tm) aq ob ti1 ad1 ob8) (h2 : LdX b ((n, F), (nT, Ft), nI r, nI w, e, sm, un) c8 ((n8, F8), (m8, G8), nI r8, ra1, e8, sm8, un8)) : ∃ tm1 w1 : Nat, ti1 = nI tm1 ∧ ra1 = nI w1 ∧ LdZ b (tm, r, w, aq, e, ob, sm, un, (n, F), (nT, Ft)) c8 (tm1, r8, w1, ad1, e8, ob8, sm8, un8, (n8, F8), (m8, G8)) := by
  rcases h1 with ⟨m, q, c, -, g1, -, -, rfl, rfl, rfl⟩ | ⟨er, s, m, c, -, g1, ge, -, -, rfl, rfl, rfl⟩ <;> rcases h2 with ⟨q2, m2, d, k1, k2⟩ | ⟨er2, s2, m2, d, k1, ke, k2⟩
  · injection k2 with a1 a2
    injection a2 with a2 a3
    injection a3 with a3 a4
    injection a4 with a4 a5
    injection a5 with a5 a6
    injection a6 with a6 a7
    injection a1 with a1 b1
    injection a2 with a2 b2
    subst a1 b1 a2 b2 a4 a5 a6 a7
    have r4 : (c8 0).toNatClampNeg = r8 := by
      rw [← a3]
      exact nI_clamp (by omega)
    refine ⟨0, 1, rfl, rfl, Or.inl ⟨_, _, _, g1, ?_⟩⟩
    rw [r4]
  · have h3 := g1.symm.trans k1
    injection h3 with h4 h5
    exact absurd h4.symm ke
  · have h3 := g1.symm.trans k1
    injection h3 with h4 h5
    exact absurd h4 ge
  · injection k2 with a1 a2
    injection a2 with a2 a3
    injection a3 with a3 a4
    injection a4 with a4 a5
    injection a5 with a5 a6
    injection a6 with a6 a7
    injection a1 with a1 b1
    injection a2 with a2 b2
    have a3' : r8 = r := (nI_eq (a := r8) (b := r) (by omega) (by omega)).mp a3
    subst a1 b1 a2 b2 a3' a4 a5 a6 a7
    exact ⟨tm, w, rfl, rfl, Or.inr ⟨_, _, _, _, g1, ge, rfl⟩⟩
theorem suW_G {c : Cf} {a b : Int32} (h : CfG c) : CfG (suW c a b) := by
  by_cases q : InF a
  · rw [suW_y q]
    exact suC_G h
  · rw [suW_n q]
    exact h
theorem XC_sd {G : EnvG} {x tm r w w1 : Nat} {aq e xp xb : Int32} {ob sm un : Int64} {C T : Nat × (Nat → Fl)} {pp pt : Nat → Nat} {Φ1 : Hm} (he : xp - xb = e) (hb : zB (tm, r, w, aq, e, ob, sm, un, C, T)) (hw : w1 < 2147483648) (h80 : Φ1 (x + 80) = some (e80 x (nI tm) (nI r) (nI w1) aq xp xb ob sm un)) (h81 : Φ1 (x + 81) = some (e81 x C.1)) (h95 : Φ1 (x + 95) = some (e95 x T.1)) (hC : TbC G x C.1 99 C.2 pp Φ1) (hT : TbT G x T.1 99 T.2 pt Φ1) : XC G x (tm, r, w1, aq, e, ob, sm, un, C, T) Φ1 := ⟨xp, xb, pp, pt, he, h80, h81, h95, hC, hT, hb.1, hb.2.1, hb.2.2.1, hw⟩
theorem XC_aq {G : EnvG} {x tm r w : Nat} {aq a e xp xb : Int32} {ob sm un : Int64} {C T : Nat × (Nat → Fl)} {pp pt : Nat → Nat} {Φ1 : Hm} (he : xp - xb = e) (hb : zB (tm, r, w, aq, e, ob, sm, un, C, T)) (h80 : Φ1 (x + 80) = some (e80 x (nI tm) (nI r) (nI w) a xp xb ob sm un)) (h81 : Φ1 (x + 81) = some (e81 x C.1)) (h95 : Φ1 (x + 95) = some (e95 x T.1)) (hC : TbC G x C.1 99 C.2 pp Φ1) (hT : TbT G x T.1 99 T.2 pt Φ1) : XC G x (tm, r, w, a, e, ob, sm, un, C, T) Φ1 := ⟨xp, xb, pp, pt, he, h80, h81, h95, hC, hT, hb⟩
theorem XC_re {G : EnvG} {x tm r w n : Nat} {aq e xp xb : Int32} {ob sm un : Int64} {F : Nat → Fl} {T : Nat × (Nat → Fl)} {pp pt : Nat → Nat} {Φ1 : Hm} (he : xp - xb = e) (hb : zB (tm, r, w, aq, e, ob, sm, un, (n, F), T)) (h80 : Φ1 (x + 80) = some (e80 x (nI tm) (nI r) (nI w) aq xp xb ob sm un)) (h81 : Φ1 (x + 81) = some (e81 x 0)) (h95 : Φ1 (x + 95) = some (e95 x T.1)) (hC : TbC G x 0 99 F pp Φ1) (hT : TbT G x T.1 99 T.2 pt Φ1) : XC G x (tm, r, w, aq, e, ob, sm, un, (0, F), T) Φ1 := ⟨xp, xb, pp, pt, he, h80, h81, h95, hC, hT, hb⟩
theorem r_thrownT (G : EnvG) (l : Launch) (Φ : Hm) (sz x : Nat) (th : Int32) {l9 : List Value} (h : Φ x = some (o_ 14 (.int th :: l9))) (P : Option Value → Hm → Nat → Prop) (hp : P (some (.int th)) Φ sz) : Ct G l yX12_thrown wsX12_thrown ({ frames := 0, cells := 0, slots := 0, locals := 0 }) 0 0 [.ref x] Φ sz P := by
  refine Ct.of (cc := cX12_thrown) (maxL := 1) (ret := (some .int)) (by decide) rfl (Nat.le_of_ble_eq_true rfl) ?_
  intro p9 e9 s9 m9 w9 t9 k9 B
  show Z p9 l e9 _ s9 m9 _ w9 t9 k9 _ G 1 0 [(0, .ref x)] [] Φ sz 0 0
  refine z_aload_n B dX12_thrown_0 rfl 0 rfl ?_
  refine z_get (ref := "FlowExporterModel") (C := RX12) (T := TX12) (N := 54) (ci := 14) (v := .int th) B (by decide +kernel) rfl 0 (by decide) (by decide +kernel) rfl h rfl dX12_thrown_1 ?_
  exact z_ret_i B dX12_thrown_4 hp
theorem JM.obj {G : EnvG} {y : Nat} {n2 : Nat} {g : Nat → Int32} {co2 : Int32} {po2 : Int32} {z2 : XZ} {c2 : Cf} {Φ : Hm} (h : JM G y n2 g co2 po2 z2 c2 Φ) : ∃ fs : List Value, Φ y = some (o_ 14 fs) := by
  obtain ⟨⟨rd, le, nx, qu, kn, nu, va, st, th, h⟩, -⟩ := h
  obtain ⟨_, _, _, _, _, _, _, h0, -⟩ := h.1
  exact ⟨_, h0⟩
theorem sw_get (a : Int32) : ∃ k : Nat, k < 64 ∧ a &&& 63 = nI k := by
  refine ⟨(a &&& 63).toBitVec.toNat, ?_, ?_⟩
  · have : (a &&& 63).toBitVec = a.toBitVec &&& 63#32 := rfl
    rw [this, BitVec.toNat_and]
    exact Nat.lt_of_le_of_lt Nat.and_le_right (by decide)
  · apply Int32.toBitVec_inj.mp
    show _ = (Int32.ofNat _).toBitVec
    rw [Int32.toBitVec_ofNat']
    simp
theorem law_cmp {i L : Nat} (hL : L ≤ 3584) (hi : i ≤ 3591) (h : ¬ nI L - 7 < nI i) : i + 7 ≤ L := by
  by_cases h7 : 7 ≤ L
  · have e : nI L - 7 = nI (L - 7) := nI_sub (b := 7) h7
    rw [e, Int32.lt_iff_toInt_lt, nI_toInt (by omega), nI_toInt (by omega)] at h
    omega
  · exfalso
    have h8 : ∀ k, k < 7 → (nI k - 7).toInt < 0 := by decide
    have h9 := h8 L (by omega)
    rw [Int32.lt_iff_toInt_lt, nI_toInt (n := i) (by omega)] at h
    omega

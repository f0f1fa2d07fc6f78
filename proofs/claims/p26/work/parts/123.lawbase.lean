
/-! the law: both objects in shape, what is told of them, the rows that take an answer -/
noncomputable def JM (G : EnvG) (y : Nat) (n2 : Nat) (g : Nat → Int32) (co2 : Int32) (po2 : Int32) (z2 : XZ) (sn2 : SN) (q2 : QN) (c2 : Cf) (Φ : Hm) : Prop := (∃ (rd : (Nat → Int32) → Prop) (le nx : Nat) (kn nu : Int32) (va : Int64) (st : Nat) (th : Int32), Im G y (rd, (NNq c2), (CaQ (z2.2.2.2.2.2.2.2.2.1.1) (z2.2.2.2.2.2.2.2.2.1.2)), (TpQ (z2.2.2.2.2.2.2.2.2.2.1) (z2.2.2.2.2.2.2.2.2.2.2)), (TtQ (z2.2.2.2.2.2.2.2.2.2.1) (z2.2.2.2.2.2.2.2.2.2.2)), (SiQ sn2.1), (AtQ sn2.2.1), (PtQ 0 (fun _ => 0)), (QlQ q2.1 q2.2.1), z2.2.2.2.2.2.2.2.2.1.1, 0, le, nx, n2, q2.1, kn, co2, nu, va, st, po2, nI (z2.1), z2.2.2.2.1, z2.2.2.2.2.2.1, nI (z2.2.2.1), z2.2.1, z2.2.2.2.2.1, z2.2.2.2.2.2.2.1, z2.2.2.2.2.2.2.2.1, z2.2.2.2.2.2.2.2.2.2.1, th, sn2.2.2.1, q2.2.2, (sn2.2.2.2.2.toInt64 &&& 4294967295), sn2.2.2.2.1) Φ) ∧ Φ (y + 25) = some (ab_ G 700 g)
noncomputable def C24 (G : EnvG) (x : Nat) (co po : Int32) (Φ : Hm) : Prop := ∃ nx ki sa nu : Nat, Φ (x + 24) = some (o_ 8 [.ref (x + 25), .int co, .int po, .ref (x + 1), .int (nI nx), .int (nI ki), .int (nI sa), .int (nI nu)])
theorem C24.eq {G : EnvG} {x : Nat} {co po : Int32} {Φ Φ1 : Hm} (h : C24 G x co po Φ) (e : Φ1 (x + 24) = Φ (x + 24)) : C24 G x co po Φ1 := by
  obtain ⟨nx, ki, sa, nu, h⟩ := h
  exact ⟨nx, ki, sa, nu, e.trans h⟩
/-- the configuration in force -/
noncomputable def CfC (G : EnvG) (x : Nat) (c : Cf) (Φ : Hm) : Prop := ∃ t s : Nat, CfA G x t s c Φ
theorem CfC.eq {G : EnvG} {x : Nat} {c : Cf} {Φ Φ1 : Hm} (h : CfC G x c Φ) (e : ∀ j, 3 ≤ j → j < 24 → Φ1 (x + j) = Φ (x + j)) : CfC G x c Φ1 := by
  obtain ⟨t, s, h⟩ := h
  exact ⟨t, s, h.mv e⟩
/-- the class's values, and the reference's -/
noncomputable def JK (G : EnvG) (x y o d ca : Nat) (n : Nat) (f : Nat → Int32) (co : Int32) (po : Int32) (z : XZ) (sn : SN) (q : QN) (c : Cf) (n2 : Nat) (g : Nat → Int32) (co2 : Int32) (po2 : Int32) (z2 : XZ) (sn2 : SN) (q2 : QN) (c2 : Cf) (Φ : Hm) : Prop := In G x ca Φ ∧ JM G y n2 g co2 po2 z2 sn2 q2 c2 Φ ∧ (∃ f : Nat → Int64, Φ o = some (al_ G 1 f)) ∧ (∃ f : Nat → UInt64, Φ d = some (ad_ G 1 f)) ∧ Φ (x + 1) = some (o_ 7 [.ref (x + 2), .int (nI n)]) ∧ Φ (x + 2) = some (ab_ G 700 f) ∧ C24 G x co po Φ ∧ XC G x z Φ ∧ SQ G x c sn q Φ ∧ CfC G x c Φ
noncomputable def JJ (G : EnvG) (x y o d ca : Nat) (Φ : Hm) : Prop := ∃ (n : Nat) (f g : Nat → Int32) (co po : Int32) (z : XZ) (sn : SN) (q : QN) (c : Cf), JK G x y o d ca n f co po z sn q c n g co po z sn q c Φ ∧ CfG c ∧ ∀ j, j < n → f j = g j
theorem Im.eq {G : EnvG} {y : Nat} {T : MT} {Φ Φ1 : Hm} (h : Im G y T Φ) (he : ∀ k, k < 26 → Φ1 (y + k) = Φ (y + k)) : Im G y T Φ1 := by
  refine ⟨?_, fun k h1 h2 => ?_⟩
  · rw [show Φ1 y = Φ y from he 0 (by decide)]
    exact h.1
  · rw [he k h2]
    exact h.2 k h1 h2
theorem JM.eq {G : EnvG} {y : Nat} {n2 : Nat} {g : Nat → Int32} {co2 : Int32} {po2 : Int32} {z2 : XZ} {sn2 : SN} {q2 : QN} {c2 : Cf} {Φ Φ1 : Hm} (h : JM G y n2 g co2 po2 z2 sn2 q2 c2 Φ) (he : ∀ k, k < 26 → Φ1 (y + k) = Φ (y + k)) : JM G y n2 g co2 po2 z2 sn2 q2 c2 Φ1 := by
  obtain ⟨⟨rd, le, nx, kn, nu, va, st, th, h⟩, h2⟩ := h
  exact ⟨⟨rd, le, nx, kn, nu, va, st, th, Im.eq h he⟩, (he 25 (by decide)).trans h2⟩
theorem In.eq {G : EnvG} {x ca : Nat} {Φ Φ1 : Hm} (h : In G x ca Φ) (he : ∀ k, k < 149 → Φ1 (x + k) = Φ (x + k)) : In G x ca Φ1 := by
  intro k
  by_cases hk : k < 149
  · rw [he k hk]
    exact h k
  · have hkd : kd k = 99 := by
      unfold kd
      rw [List.getD_eq_getElem?_getD, List.getElem?_eq_none (show kdL.length ≤ k from Nat.not_lt.mp hk)]
      rfl
    unfold Ok
    rw [hkd]
    trivial
abbrev Ds (x y o d : Nat) : Prop := x + 149 ≤ y ∧ y + 26 ≤ o ∧ o < d
theorem JK.up {G : EnvG} {x y o d ca cb : Nat} {n : Nat} {f : Nat → Int32} {co : Int32} {po : Int32} {z : XZ} {sn : SN} {q : QN} {c : Cf} {n2 : Nat} {g : Nat → Int32} {co2 : Int32} {po2 : Int32} {z2 : XZ} {sn2 : SN} {q2 : QN} {c2 : Cf} {Φ : Hm} (h : JK G x y o d ca n f co po z sn q c n2 g co2 po2 z2 sn2 q2 c2 Φ) (hc : ca ≤ cb) : JK G x y o d cb n f co po z sn q c n2 g co2 po2 z2 sn2 q2 c2 Φ := ⟨In.mono h.1 hc, h.2⟩
theorem JJ.up {G : EnvG} {x y o d ca cb : Nat} {Φ : Hm} (h : JJ G x y o d ca Φ) (hc : ca ≤ cb) : JJ G x y o d cb Φ := by
  obtain ⟨n, f, g, co, po, z, sn, q, c, h, he⟩ := h
  exact ⟨n, f, g, co, po, z, sn, q, c, JK.up h hc, he⟩
theorem JK.il {G : EnvG} {x y o d ca : Nat} {n : Nat} {f : Nat → Int32} {co : Int32} {po : Int32} {z : XZ} {sn : SN} {q : QN} {c : Cf} {n2 : Nat} {g : Nat → Int32} {co2 : Int32} {po2 : Int32} {z2 : XZ} {sn2 : SN} {q2 : QN} {c2 : Cf} {Φ : Hm} (h : JK G x y o d ca n f co po z sn q c n2 g co2 po2 z2 sn2 q2 c2 Φ) : n2 ≤ 700 := by
  obtain ⟨rd, le, nx, kn, nu, va, st, th, h2⟩ := h.2.1.1
  obtain ⟨_, _, _, h0, -, -, -, -, -, -, -, -, -, -, hb, -⟩ := h2.1
  exact hb
theorem JK.fit {G : EnvG} {x y o d ca : Nat} {n : Nat} {f : Nat → Int32} {co : Int32} {po : Int32} {z : XZ} {sn : SN} {q : QN} {c : Cf} {n2 : Nat} {g : Nat → Int32} {co2 : Int32} {po2 : Int32} {z2 : XZ} {sn2 : SN} {q2 : QN} {c2 : Cf} {Φ : Hm} (h : JK G x y o d ca n f co po z sn q c n2 g co2 po2 z2 sn2 q2 c2 Φ) : ∀ j9, fits .byte (.int (f j9)) = true := by
  obtain ⟨f2, h2, h3⟩ := in2 (k := 2) h.1 rfl
  have e := h.2.2.2.2.2.1.symm.trans h2
  have e2 := ab_inj e
  subst e2
  exact h3
theorem o4_aq {l m : List Value} (h : some (o_ 4 l) = some (o_ 4 m)) : l = m := (Prod.mk.inj (Sum.inr.inj (Option.some.inj h))).2
theorem JK.aq {G : EnvG} {x y o d ca : Nat} {n : Nat} {f : Nat → Int32} {co : Int32} {po : Int32} {z : XZ} {sn : SN} {q : QN} {c : Cf} {n2 : Nat} {g : Nat → Int32} {co2 : Int32} {po2 : Int32} {z2 : XZ} {sn2 : SN} {q2 : QN} {c2 : Cf} {Φ : Hm} (h : JK G x y o d ca n f co po z sn q c n2 g co2 po2 z2 sn2 q2 c2 Φ) : z.2.2.2.1 = 0 ∨ z.2.2.2.1 = 1 := by
  obtain ⟨a1, a2, a3, a4, a5, a6, a7, a8, a9, h2, h3⟩ := in16 (k := 80) h.1 rfl
  obtain ⟨xp, xb, pp, pt, -, h4, -⟩ := h.2.2.2.2.2.2.2.1
  have e := o4_aq (h4.symm.trans h2)
  have e7 : Value.int z.2.2.2.1 = Value.int a4 := congrArg (fun l : List Value => l.getD 7 .null) e
  have e8 : z.2.2.2.1 = a4 := by injection e7
  rw [e8]
  exact h3
/-- what is thrown -/
theorem Im.thr {G : EnvG} {y : Nat} {T : MT} {Φ : Hm} (h : Im G y T Φ) : ∃ l9 : List Value, Φ y = some (o_ 14 (.int T.2.2.2.2.2.2.2.2.2.2.2.2.2.2.2.2.2.2.2.2.2.2.2.2.2.2.2.2.2.2.2.2.2.2 :: l9)) := by
  obtain ⟨_, _, _, h0, -⟩ := h.1
  exact ⟨_, h0⟩
theorem nI_cl {n : Nat} (h : n < 2 ^ 31) : (nI n).toNatClampNeg = n := by
  show (nI n).toInt.toNat = n
  rw [nI_toInt h]
  omega
theorem vinL0 {i L : Nat} (h : i < L) (hL : L ≤ 3584) : vp_in (nI i) L := by
  refine vin ?_
  have h1 : ¬ nI i < 0 := by
    rw [Int32.lt_iff_toInt_lt, nI_toInt (by omega)]
    show ¬ (i : Int) < 0
    omega
  rw [nI_cl (by omega), decide_eq_false h1]
  show Nat.ble (i + 1) L = true
  exact Nat.ble_eq_true_of_le h
theorem vinL {i n L : Nat} {w : Int32} (hw : w = nI n) (h : i + n < L) (hL : L ≤ 3584) : vp_in (nI i + w) L := by
  subst hw
  rw [show nI i + nI n = nI (i + n) from (Int32.ofNat_add i n).symm]
  exact vinL0 h hL
theorem rmL {cells slots mc ms : Nat} (h1 : cells ≤ 9000) (h2 : slots ≤ 90000) (h3 : mc ≤ 8) (h4 : ms ≤ 64) : cells + mc ≤ room_1.cells ∧ slots + ms ≤ room_1.slots := by
  have e1 : room_1.cells = 603072 := rfl
  have e2 : room_1.slots = 7198826 := rfl
  omega
theorem apV_int {n n1 : Nat} {v : Option Value} (h : apV n v n1) : ∃ r : Int32, v = some (.int r) := by
  rcases h with ⟨-, rfl, -⟩ | ⟨-, rfl, -⟩ <;> exact ⟨_, rfl⟩
theorem trV_int {n n1 : Nat} {a : Int32} {v : Option Value} (h : trV n a v n1) : ∃ r : Int32, v = some (.int r) := by
  rcases h with ⟨j, -, -, rfl, -⟩ | ⟨-, rfl, -⟩ <;> exact ⟨_, rfl⟩
theorem LdV_int {b : Nat → Int32} {v : Option Value} {co po : Int32} (h : LdV b v co po) : ∃ r : Int32, v = some (.int r) := by
  rcases h with ⟨m, q, c, rfl, -⟩ | ⟨er, s, m, c, rfl, -⟩ <;> exact ⟨_, rfl⟩
theorem oi_eq {r q : Int32} (h : some (Value.int r) = some (Value.int q)) : r = q := by
  injection h with h
  injection h
theorem trV_le {n n1 : Nat} {a : Int32} {v : Option Value} (h : trV n a v n1) : n1 ≤ n := by
  rcases h with ⟨j, hj, -, -, rfl⟩ | ⟨-, -, rfl⟩ <;> omega
theorem bA_ext {f g : Nat → Int32} {n : Nat} (h : ∀ j, j < n → f j = g j) : bA f n = bA g n := by
  funext i
  unfold bA
  by_cases hi : i < n
  · rw [if_pos hi, if_pos hi, h i hi]
  · rw [if_neg hi, if_neg hi]
/-- appendInput in both -/
theorem fin_ap {n n1 n2 : Nat} {f g f1 g1 : Nat → Int32} {a b d p q r r2 : Int32} (hE : ∀ j, j < n → f j = g j) (h : apV n (some (.int r)) n1) (h2 : apV n (some (.int r2)) n2) (h3 : n1 = n → f1 = f) (h4 : n ≤ 680 → AppR (fun w k => bL w.toInt64 k) f n a b d p q f1) (k3 : n2 = n → g1 = g) (k4 : n ≤ 680 → AppR bI g n a b d p q g1) : r = r2 ∧ n1 = n2 ∧ ∀ j, j < n2 → f1 j = g1 j := by
  obtain ⟨e1, e2⟩ := apV_fun h h2
  refine ⟨oi_eq e1, e2, ?_⟩
  subst e2
  rcases h with ⟨c, -, e⟩ | ⟨c, -, e⟩
  · rw [h3 e, k3 e, e]
    exact hE
  · rw [e]
    exact AppR_eq (fun w k hk => bL_bI w k hk) (h4 c) (k4 c) hE
theorem fin_tr {n n1 n2 : Nat} {f g : Nat → Int32} {a r r2 : Int32} (hn : n ≤ 700) (hE : ∀ j, j < n → f j = g j) (h : trV n a (some (.int r)) n1) (h2 : trV n a (some (.int r2)) n2) : r = r2 ∧ n1 = n2 ∧ ∀ j, j < n2 → f j = g j := by
  obtain ⟨e1, e2⟩ := trV_fun hn h h2
  refine ⟨oi_eq e1, e2, fun j hj => hE j ?_⟩
  have := trV_le h2
  omega
theorem LdW_int {b : Nat → Int32} {v : Option Value} {co po nw aq nw8 aq8 : Int32} {ob ob8 : Int64} (h : LdW b v co po nw aq ob nw8 aq8 ob8) : ∃ r : Int32, v = some (.int r) := LdV_int (LdW_V h)
theorem fin_ld {n : Nat} {f g : Nat → Int32} {r r2 co po co2 po2 nw aq nw8 aq8 nw9 aq9 : Int32} {ob ob8 ob9 : Int64} (hE : ∀ j, j < n → f j = g j) (h : LdW (bA f n) (some (.int r)) co po nw aq ob nw8 aq8 ob8) (h2 : LdW (bA g n) (some (.int r2)) co2 po2 nw aq ob nw9 aq9 ob9) : r = r2 ∧ co = co2 ∧ po = po2 ∧ nw8 = nw9 ∧ aq8 = aq9 ∧ ob8 = ob9 := by
  rw [← bA_ext hE] at h2
  obtain ⟨e1, e2⟩ := LdW_fun h h2
  exact ⟨oi_eq e1, e2⟩
theorem JJ.of {G : EnvG} {x y o d ca : Nat} {n : Nat} {f : Nat → Int32} {co : Int32} {po : Int32} {z : XZ} {sn : SN} {q : QN} {c : Cf} {n2 : Nat} {g : Nat → Int32} {co2 : Int32} {po2 : Int32} {z2 : XZ} {sn2 : SN} {q2 : QN} {c2 : Cf} {Φ : Hm} (h : JK G x y o d ca n f co po z sn q c n2 g co2 po2 z2 sn2 q2 c2 Φ) (hG : CfG c) (e1 : n = n2) (e2 : co = co2) (e3 : po = po2) (e4 : z = z2) (e5 : sn = sn2) (e6 : q = q2) (e7 : c = c2) (hE : ∀ j, j < n2 → f j = g j) : JJ G x y o d ca Φ := by
  subst e1
  subst e2
  subst e3
  subst e4
  subst e5
  subst e6
  subst e7
  exact ⟨_, _, _, _, _, _, _, _, _, h, hG, hE⟩
theorem fin_ldc {n : Nat} {f g : Nat → Int32} {c c1 c2 : Cf} (hE : ∀ j, j < n → f j = g j) (h : CfL (bA f n) c c1) (h2 : CfL (bA g n) c c2) : c1 = c2 := by
  rw [← bA_ext hE] at h2
  exact CfL_fun h h2
theorem fin_su {c c1 : Cf} {a b r : Int32} {y : Nat} {Φ1 : Hm} (h : (¬ InF a ∧ some (Value.int r) = some (.int 0) ∧ c1 = c ∧ ∃ l9 : List Value, Φ1 y = some (o_ 14 (.int 1 :: l9))) ∨ (InF a ∧ some (Value.int r) = some (.int (suV c a)) ∧ c1 = suC c a b ∧ ∃ l9 : List Value, Φ1 y = some (o_ 14 (.int 0 :: l9)))) : ∃ (th : Int32) (l9 : List Value), Φ1 y = some (o_ 14 (.int th :: l9)) ∧ AnsR (InF a) True (suV c a).toInt64 th r.toInt64 ∧ (r = 0 ∨ r = 1) ∧ suW c a b = c1 := by
  rcases h with ⟨h1, h2, rfl, l, h3⟩ | ⟨h1, h2, rfl, l, h3⟩
  · exact ⟨1, l, h3, Or.inr (Or.inl ⟨h1, rfl⟩), Or.inl (oi_eq h2), suW_n h1⟩
  · have e := oi_eq h2
    subst e
    exact ⟨0, l, h3, Or.inl ⟨h1, trivial, rfl, rfl⟩, suV_01 c a, suW_y h1⟩
/-! the law at PX=5: what the reference tells, as a step of the state -/
theorem ObY_of {c : Cf} {a b d f g : Int32} {m : Nat} {tm r w n n1 w1 k1 d1 : Nat} {aq e e1 : Int32} {ob sm un ob1 sm1 : Int64} {u1 : UN} {F F1 : Nat → Fl} {T T1 : Nat × (Nat → Fl)} {s s1 : SN} {q q1 : QN} (h1 : tkI c (kyN a b d f) g.toInt64 tm r ((n, F, un, 0, fun _ => 0), w, 0, 0) m = ((n1, F1, u1), w1, k1, d1)) (h2 : rmS (kyN a b d f) g.toInt64 m tm T = T1) (he : e1 = e + nI d1) (hs : sm1 = sm + (nI k1).toInt64) (ho : ob1 = ob + (nI m).toInt64) (h3 : spS c (nI tm) u1.2.2 u1.2.1 s q = (s1, q1)) : ObY c a b d f g m ((tm, r, w, aq, e, ob, sm, un, (n, F), T), s, q) ((tm, r, w1, aq, e1, ob1, sm1, u1.1, (n1, F1), T1), s1, q1) (nI k1) := ⟨k1, d1, u1, rfl, h1, rfl, h2, rfl, rfl, rfl, he, ho, hs, h3⟩
theorem AvY_of {c : Cf} {a : Int32} {tm r w n n1 r1 k1 : Nat} {aq e e1 : Int32} {ob sm un u1 : Int64} {F F1 : Nat → Fl} {T : Nat × (Nat → Fl)} {s s1 : SN} {q q1 : QN} (h1 : txI c aq tm (((n, F, un, 0, fun _ => 0), r, e, 0), s, q) a.toNatClampNeg = (((n1, F1, u1, 0, fun _ => 0), r1, e1, k1), s1, q1)) : AvY c a ((tm, r, w, aq, e, ob, sm, un, (n, F), T), s, q) ((tm + a.toNatClampNeg, r1, w, aq, e1, ob, sm, u1, (n1, F1), T), s1, q1) (nI k1) := ⟨k1, rfl, h1, rfl, rfl, rfl, rfl, rfl, rfl⟩
theorem FlY_of {c : Cf} {tm r w n : Nat} {aq e : Int32} {ob sm un : Int64} {u1 : UN} {F F1 : Nat → Fl} {T : Nat × (Nat → Fl)} {s s1 : SN} {q q1 : QN} (h1 : exI c (n, F, un, 0, fun _ => 0) n = (0, F1, u1)) (h3 : spS c (nI tm) u1.2.2 u1.2.1 s q = (s1, q1)) : FlY c ((tm, r, w, aq, e, ob, sm, un, (n, F), T), s, q) ((tm, r, w, aq, e + nI n, ob, sm, u1.1, (0, F1), T), s1, q1) := ⟨u1, h1, rfl, rfl, rfl, rfl, rfl, rfl, rfl, rfl, rfl, rfl, h3⟩
theorem SrY_of {c : Cf} {a v1 : Int32} {tm r w n n1 r1 k1 : Nat} {aq e e1 : Int32} {ob sm un : Int64} {u1 : UN} {F F1 : Nat → Fl} {T : Nat × (Nat → Fl)} {s s1 : SN} {q q1 : QN} (h1 : srS c a (n, F, un, 0, fun _ => 0) r = (v1, (n1, F1, u1), r1, k1)) (he : e1 = e + nI k1) (h3 : spS c (nI tm) u1.2.2 u1.2.1 s q = (s1, q1)) : SrY c a ((tm, r, w, aq, e, ob, sm, un, (n, F), T), s, q) ((tm, r1, w, aq, e1, ob, sm, u1.1, (n1, F1), T), s1, q1) v1 := ⟨k1, u1, h1, rfl, rfl, rfl, rfl, he, rfl, rfl, rfl, h3⟩
/-- what the reference tells of observe, observeMany, advance, as the class does -/
theorem sp_same {c : Cf} {now : Int32} {P : Nat → Nat} {s s1 : SN} {q q1 : QN} (h : spS c now P 0 s q = (s1, q1)) : s1 = s ∧ q1 = q := by
  obtain ⟨e1, e2⟩ := Prod.mk.inj ((spS_0 rfl).symm.trans h)
  exact ⟨e1.symm, e2.symm⟩
theorem fin_ob {a b d f g : Int32} {tm r w n n1 w1 k1 d1 nT tk1 : Nat} {aq e e1 th r9 : Int32} {ob sm un ob1 sm1 : Int64} {u1 : UN} {F F1 Ft G1 : Nat → Fl} {c : Cf} {s s1 : SN} {q q1 : QN} (h : (PkP a b d f g ∧ some (Value.int r9) = some (.int (nI k1)) ∧ tkI c (kyN a b d f) g.toInt64 tm r ((n, F, un, 0, fun _ => 0), w, 0, 0) 1 = ((n1, F1, u1), w1, k1, d1) ∧ rmS (kyN a b d f) g.toInt64 1 tm (nT, Ft) = (tk1, G1) ∧ e1 = e + nI d1 ∧ sm1 = sm + (nI k1).toInt64 ∧ ob1 = ob + (nI 1).toInt64 ∧ th = 0) ∨ (¬ PkP a b d f g ∧ some (Value.int r9) = some (.int 0) ∧ n1 = n ∧ F1 = F ∧ u1 = (un, 0, fun _ => 0) ∧ e1 = e ∧ sm1 = sm ∧ tk1 = nT ∧ G1 = Ft ∧ w1 = w ∧ ob1 = ob ∧ th = 1)) (h3 : spS c (nI tm) u1.2.2 u1.2.1 s q = (s1, q1)) : AnsZ (PkP a b d f g) True (ObY c a b d f g 1 ((tm, r, w, aq, e, ob, sm, un, (n, F), (nT, Ft)), s, q)) ((tm, r, w, aq, e, ob, sm, un, (n, F), (nT, Ft)), s, q) ((tm, r, w1, aq, e1, ob1, sm1, u1.1, (n1, F1), (tk1, G1)), s1, q1) th r9.toInt64 := by
  rcases h with ⟨h1, h2, g3, h4, h5, h6, h7, rfl⟩ | ⟨h1, h2, rfl, rfl, rfl, rfl, rfl, rfl, rfl, rfl, rfl, rfl⟩
  · exact Or.inl ⟨h1, trivial, rfl, nI k1, ObY_of g3 h4 h5 h6 h7 h3, congrArg Int32.toInt64 (oi_eq h2)⟩
  · obtain ⟨rfl, rfl⟩ := sp_same h3
    exact Or.inr (Or.inl ⟨h1, rfl, rfl⟩)
theorem fin_obm {a b d f g h : Int32} {tm r w n n1 w1 k1 d1 nT tk1 : Nat} {aq e e1 th r9 : Int32} {ob sm un ob1 sm1 : Int64} {u1 : UN} {F F1 Ft G1 : Nat → Fl} {c : Cf} {s s1 : SN} {Q Q1 : QN} (q : ((PkP a b d f g ∧ 1 ≤ h.toInt ∧ h.toInt ≤ 200) ∧ some (Value.int r9) = some (.int (nI k1)) ∧ tkI c (kyN a b d f) g.toInt64 tm r ((n, F, un, 0, fun _ => 0), w, 0, 0) h.toNatClampNeg = ((n1, F1, u1), w1, k1, d1) ∧ rmS (kyN a b d f) g.toInt64 h.toNatClampNeg tm (nT, Ft) = (tk1, G1) ∧ e1 = e + nI d1 ∧ sm1 = sm + (nI k1).toInt64 ∧ ob1 = ob + h.toInt64 ∧ th = 0) ∨ (¬ (PkP a b d f g ∧ 1 ≤ h.toInt ∧ h.toInt ≤ 200) ∧ some (Value.int r9) = some (.int 0) ∧ n1 = n ∧ F1 = F ∧ u1 = (un, 0, fun _ => 0) ∧ e1 = e ∧ sm1 = sm ∧ tk1 = nT ∧ G1 = Ft ∧ w1 = w ∧ ob1 = ob ∧ th = 1)) (h3 : spS c (nI tm) u1.2.2 u1.2.1 s Q = (s1, Q1)) : AnsZ (PkP a b d f g ∧ 1 ≤ h.toInt ∧ h.toInt ≤ 200) True (ObY c a b d f g h.toNatClampNeg ((tm, r, w, aq, e, ob, sm, un, (n, F), (nT, Ft)), s, Q)) ((tm, r, w, aq, e, ob, sm, un, (n, F), (nT, Ft)), s, Q) ((tm, r, w1, aq, e1, ob1, sm1, u1.1, (n1, F1), (tk1, G1)), s1, Q1) th r9.toInt64 := by
  rcases q with ⟨h1, h2, g3, h4, h5, h6, h7, rfl⟩ | ⟨h1, h2, rfl, rfl, rfl, rfl, rfl, rfl, rfl, rfl, rfl, rfl⟩
  · have e9 : nI h.toNatClampNeg = h := nI_cli (by have := h1.2.1; omega)
    refine Or.inl ⟨h1, trivial, rfl, nI k1, ObY_of g3 h4 h5 h6 ?_ h3, congrArg Int32.toInt64 (oi_eq h2)⟩
    rw [e9]
    exact h7
  · obtain ⟨rfl, rfl⟩ := sp_same h3
    exact Or.inr (Or.inl ⟨h1, rfl, rfl⟩)
theorem fin_av {a : Int32} {tm r w n n1 r1 k1 : Nat} {aq e e1 th ti1 r9 : Int32} {ob sm un u1 : Int64} {F F1 : Nat → Fl} {T : Nat × (Nat → Fl)} {c : Cf} {s s1 : SN} {q q1 : QN} (h : ((Av1 a ∧ Av2 tm a) ∧ some (Value.int r9) = some (.int (nI k1)) ∧ ti1 = nI (tm + a.toNatClampNeg) ∧ txI c aq tm (((n, F, un, 0, fun _ => 0), r, e, 0), s, q) a.toNatClampNeg = (((n1, F1, u1, 0, fun _ => 0), r1, e1, k1), s1, q1) ∧ th = 0) ∨ (((¬ Av1 a ∧ th = 1) ∨ (Av1 a ∧ ¬ Av2 tm a ∧ th = 2)) ∧ some (Value.int r9) = some (.int 0) ∧ ti1 = nI tm ∧ n1 = n ∧ F1 = F ∧ u1 = un ∧ r1 = r ∧ e1 = e ∧ (s1, q1) = (s, q))) : ∃ tm1 : Nat, ti1 = nI tm1 ∧ AnsZ (Av1 a) (Av2 tm a) (AvY c a ((tm, r, w, aq, e, ob, sm, un, (n, F), T), s, q)) ((tm, r, w, aq, e, ob, sm, un, (n, F), T), s, q) ((tm1, r1, w, aq, e1, ob, sm, u1, (n1, F1), T), s1, q1) th r9.toInt64 := by
  rcases h with ⟨h1, h2, h3, h4, rfl⟩ | ⟨h1, h2, h3, rfl, rfl, rfl, rfl, rfl, h4⟩
  · exact ⟨_, h3, Or.inl ⟨h1.1, h1.2, rfl, nI k1, AvY_of h4, congrArg Int32.toInt64 (oi_eq h2)⟩⟩
  · obtain ⟨rfl, rfl⟩ := Prod.mk.inj h4
    refine ⟨_, h3, ?_⟩
    rcases h1 with ⟨g1, rfl⟩ | ⟨g1, g2, rfl⟩
    · exact Or.inr (Or.inl ⟨g1, rfl, rfl⟩)
    · exact Or.inr (Or.inr ⟨g1, g2, rfl, rfl⟩)
theorem fin_sr {a : Int32} {tm r w n n1 r1 k1 : Nat} {aq e e1 v1 r9 : Int32} {ob sm un : Int64} {u1 : UN} {F F1 : Nat → Fl} {T : Nat × (Nat → Fl)} {c : Cf} {s s1 : SN} {q q1 : QN} (h : some (Value.int r9) = some (.int v1) ∧ srS c a (n, F, un, 0, fun _ => 0) r = (v1, (n1, F1, u1), r1, k1) ∧ e1 = e + nI k1) (h3 : spS c (nI tm) u1.2.2 u1.2.1 s q = (s1, q1)) : SrY c a ((tm, r, w, aq, e, ob, sm, un, (n, F), T), s, q) ((tm, r1, w, aq, e1, ob, sm, u1.1, (n1, F1), T), s1, q1) r9 := by
  have e9 := oi_eq h.1
  subst e9
  exact SrY_of h.2.1 h.2.2 h3
theorem fin_ld5 {n : Nat} {f g : Nat → Int32} {s s1 s2 : SN × QN} (hE : ∀ j, j < n → f j = g j) (h : Ld5 (bA f n) s s1) (h2 : Ld5 (bA g n) s s2) : s1 = s2 := by
  rw [← bA_ext hE] at h2
  exact Ld5_fun h h2
theorem LoR_of {a d : Int32} {n n1 : Nat} {L L1 : Nat → Nat} (h : (¬ InQ n a ∧ (n1, L1) = (n, L)) ∨ (∃ u9 : Nat, u9 < n ∧ a = nI u9 ∧ (n1, L1) = (n - 1, rmL L u9))) : LoR a (n, L, d) (n1, L1, d) := by
  rcases h with ⟨h1, h2⟩ | ⟨u, h1, h2, h3⟩
  · obtain ⟨rfl, rfl⟩ := Prod.mk.inj h2
    exact Or.inl ⟨h1, rfl⟩
  · obtain ⟨rfl, rfl⟩ := Prod.mk.inj h3
    exact Or.inr ⟨u, h1, h2, rfl⟩
theorem DuR_of {a d : Int32} {n n1 : Nat} {L L1 : Nat → Nat} (h : (¬ InQ n a ∧ (n1, L1) = (n, L)) ∨ (∃ u9 : Nat, u9 < n ∧ a = nI u9 ∧ (n1, L1) = duQ n L u9)) : DuR a (n, L, d) (n1, L1, d) := by
  rcases h with ⟨h1, h2⟩ | ⟨u, h1, h2, h3⟩
  · obtain ⟨rfl, rfl⟩ := Prod.mk.inj h2
    exact Or.inl ⟨h1, rfl⟩
  · refine Or.inr ⟨u, h1, h2, ?_⟩
    show (n1, L1, d) = ((duQ n L u).1, (duQ n L u).2, d)
    rw [← h3]
theorem ExR_of {a b d : Int32} {n : Nat} {L L1 : Nat → Nat} (h : (¬ (InQ n a ∧ InQ n b) ∧ L1 = L) ∨ (∃ u9 w9 : Nat, u9 < n ∧ w9 < n ∧ a = nI u9 ∧ b = nI w9 ∧ L1 = exQ n L u9 w9)) : ExR a b (n, L, d) (n, L1, d) := by
  rcases h with ⟨h1, rfl⟩ | ⟨u, v, h1, h2, h3, h4, rfl⟩
  · exact Or.inl ⟨h1, rfl⟩
  · exact Or.inr ⟨u, v, h1, h2, h3, h4, rfl⟩
theorem su_ch {c : Cf} {a b : Int32} {f fa1 a8 : Nat → Int32} (h : (¬ InF a ∧ fa1 = f) ∨ (InF a ∧ fa1 = suS c a b f)) (h2 : ∀ j, j < 4 → a8 j = suX c a b f j) : ∀ g, SiQ fa1 g → SiQ a8 g := by
  intro g h3 j hj
  rw [h3 j hj, h2 j hj]
  rcases h with ⟨h1, rfl⟩ | ⟨h1, rfl⟩
  · rw [suX_n h1]
  · rw [suX_y h1]
theorem SQ.mq {G : EnvG} {x : Nat} {c : Cf} {sn s1 : SN} {q : QN} {Φ Φ1 : Hm} (hS : SdP G x c s1 uZ0 Φ1) (h : SQ G x c sn q Φ) (e : ∀ j, 46 ≤ j → j < 74 → Φ1 (x + j) = Φ (x + j)) : SQ G x c s1 q Φ1 := by
  obtain ⟨-, p, h2⟩ := h
  have hn := h2.le
  refine ⟨hS, p, h2.mv (e 46 (by decide) (by decide)) (e 47 (by decide) (by decide)) (fun j hj => ?_)⟩
  have hp := h2.lt (j := j) (by omega)
  exact e _ (by omega) (by omega)
theorem SQ.ms {G : EnvG} {x : Nat} {c : Cf} {sn : SN} {q q1 : QN} {p : Nat → Nat} {Φ Φ1 : Hm} (hQ : QbR G x q1.1 q1.2.1 q1.2.2 p Φ1) (h : SQ G x c sn q Φ) (e : ∀ j, 74 ≤ j → j < 80 → Φ1 (x + j) = Φ (x + j)) : SQ G x c sn q1 Φ1 := ⟨h.1.mv (fun j hj => e j (by omega) (by omega)), p, hQ⟩
/-- the state that load leaves -/
noncomputable def LdZ (b : Nat → Int32) (z : XZ) (c1 : Cf) (z1 : XZ) : Prop := (∃ (q m : Nat) (c : Cf), txA b 702 0 cB 0 = (0, q, m, c) ∧ z1 = (0, (c1 0).toNatClampNeg, 1, 0, 0, 0, 0, 0, (0, Fz), (0, Fz))) ∨ (∃ (er s m : Nat) (c : Cf), txA b 702 0 cB 0 = (er, s, m, c) ∧ ¬ er = 0 ∧ z1 = z)
theorem LdZ_fun {b : Nat → Int32} {z z1 z2 : XZ} {c1 : Cf} (h : LdZ b z c1 z1) (h2 : LdZ b z c1 z2) : z1 = z2 := by
  rcases h with ⟨q, m, c, e, rfl⟩ | ⟨er, s, m, c, e, he, rfl⟩ <;> rcases h2 with ⟨q2, m2, d, g, rfl⟩ | ⟨er2, s2, m2, d, g, hg, rfl⟩
  · rfl
  · have h3 := e.symm.trans g
    injection h3 with h4 h5
    exact absurd h4.symm hg
  · have h3 := e.symm.trans g
    injection h3 with h4 h5
    exact absurd h4 he
  · rfl
theorem fin_ldz {n : Nat} {f g : Nat → Int32} {z z1 z2 : XZ} {c1 c2 : Cf} (hE : ∀ j, j < n → f j = g j) (h : LdZ (bA f n) z c1 z1) (hc : c1 = c2) (h2 : LdZ (bA g n) z c2 z2) : z1 = z2 := by
  subst hc
  rw [← bA_ext hE] at h2
  exact LdZ_fun h h2
theorem XC_ld {G : EnvG} {x tm r w n nT n8 m8 : Nat} {b : Nat → Int32} {v : Option Value} {co po aq e xp xb nw8 rt8 dw8 aq8 xp8 xb8 : Int32} {ob sm un ob8 sm8 un8 : Int64} {F Ft F8 G8 : Nat → Fl} {p8 q8 : Nat → Nat} {c8 : Cf} {Φ1 : Hm} (he : xp - xb = e) (hb : zB (tm, r, w, aq, e, ob, sm, un, (n, F), (nT, Ft))) (hG : CfG c8) (h80 : Φ1 (x + 80) = some (e80 x nw8 rt8 dw8 aq8 xp8 xb8 ob8 sm8 un8)) (h81 : Φ1 (x + 81) = some (e81 x n8)) (h95 : Φ1 (x + 95) = some (e95 x m8)) (hC : TbC G x n8 99 F8 p8 Φ1) (hT : TbT G x m8 99 G8 q8 Φ1) (h1 : LdW b v co po (nI tm) aq ob nw8 aq8 ob8) (h2 : LdX b ((n, F), (nT, Ft), nI r, nI w, xp - xb, sm, un) c8 ((n8, F8), (m8, G8), rt8, dw8, xp8 - xb8, sm8, un8)) : ∃ z1 : XZ, XC G x z1 Φ1 ∧ LdZ b (tm, r, w, aq, e, ob, sm, un, (n, F), (nT, Ft)) c8 z1 := by
  rcases h1 with ⟨m, q, c, -, g1, -, -, rfl, rfl, rfl⟩ | ⟨er, s, m, c, -, g1, ge, -, -, rfl, rfl, rfl⟩ <;> rcases h2 with ⟨q2, m2, d, k1, k2⟩ | ⟨er2, s2, m2, d, k1, ke, k2⟩
  · injection k2 with a1 a2
    injection a2 with a2 a3
    injection a3 with a3 a4
    injection a4 with a4 a5
    injection a5 with a5 a6
    injection a6 with a6 a7
    injection a1 with a1 b1
    injection a2 with a2 b2
    subst a1 b1 a2 b2 a3 a4 a6 a7
    obtain ⟨rr, r1, r2, r3⟩ := hG.2.2.1
    have r4 : (c8 0).toNatClampNeg = rr := by
      rw [r3]
      exact nI_clamp (by omega)
    refine ⟨(0, (c8 0).toNatClampNeg, 1, 0, 0, 0, 0, 0, (0, Fz), (0, Fz)), ⟨xp8, xb8, p8, q8, a5, ?_, h81, h95, hC, hT, by show (0 : Nat) ≤ 1000000 ∧ 1 ≤ (c8 0).toNatClampNeg ∧ (c8 0).toNatClampNeg ≤ 1024 ∧ 1 < 2147483648; omega⟩, Or.inl ⟨_, _, _, g1, rfl⟩⟩
    have r5 : nI (c8 0).toNatClampNeg = c8 0 := by rw [r4, r3]
    show Φ1 (x + 80) = some (e80 x (nI 0) (nI (c8 0).toNatClampNeg) (nI 1) 0 xp8 xb8 0 0 0)
    rw [r5]
    exact h80
  · have h3 := g1.symm.trans k1
    injection h3 with h4 h5
    exact absurd h4.symm ke
  · have h3 := g1.symm.trans k1
    injection h3 with h4 h5
    exact absurd h4 ge
  · injection k2 with a1 a2
    injection a2 with a2 a3
    injection a3 with a3 a4
    injection a4 with a4 a5
    injection a5 with a5 a6
    injection a6 with a6 a7
    injection a1 with a1 b1
    injection a2 with a2 b2
    subst a1 b1 a2 b2 a3 a4 a6 a7
    exact ⟨_, ⟨xp8, xb8, p8, q8, a5.trans he, h80, h81, h95, hC, hT, hb⟩, Or.inr ⟨_, _, _, _, g1, ge, rfl⟩⟩
theorem fin_ld4 {b : Nat → Int32} {tm r w n nT n8 m8 r8 : Nat} {v : Option Value} {co po aq e ti1 ad1 ra1 e8 : Int32} {ob sm un ob8 sm8 un8 : Int64} {F Ft F8 G8 : Nat → Fl} {c8 : Cf} (hr : 1 ≤ r8 ∧ r8 ≤ 1024) (hb : r ≤ 1024) (h1 : LdW b v co po (nI tm) aq ob ti1 ad1 ob8) (h2 : LdX b ((n, F), (nT, Ft), nI r, nI w, e, sm, un) c8 ((n8, F8), (m8, G8), nI r8, ra1, e8, sm8, un8)) : ∃ tm1 w1 : Nat, ti1 = nI tm1 ∧ ra1 = nI w1 ∧ LdZ b (tm, r, w, aq, e, ob, sm, un, (n, F), (nT, Ft)) c8 (tm1, r8, w1, ad1, e8, ob8, sm8, un8, (n8, F8), (m8, G8)) := by
  rcases h1 with ⟨m, q, c, -, g1, -, -, rfl, rfl, rfl⟩ | ⟨er, s, m, c, -, g1, ge, -, -, rfl, rfl, rfl⟩ <;> rcases h2 with ⟨q2, m2, d, k1, k2⟩ | ⟨er2, s2, m2, d, k1, ke, k2⟩
  · injection k2 with a1 a2
    injection a2 with a2 a3
    injection a3 with a3 a4
    injection a4 with a4 a5
    injection a5 with a5 a6
    injection a6 with a6 a7
    injection a1 with a1 b1
    injection a2 with a2 b2
    subst a1 b1 a2 b2 a4 a5 a6 a7
    have r4 : (c8 0).toNatClampNeg = r8 := by
      rw [← a3]
      exact nI_clamp (by omega)
    refine ⟨0, 1, rfl, rfl, Or.inl ⟨_, _, _, g1, ?_⟩⟩
    rw [r4]
  · have h3 := g1.symm.trans k1
    injection h3 with h4 h5
    exact absurd h4.symm ke
  · have h3 := g1.symm.trans k1
    injection h3 with h4 h5
    exact absurd h4 ge
  · injection k2 with a1 a2
    injection a2 with a2 a3
    injection a3 with a3 a4
    injection a4 with a4 a5
    injection a5 with a5 a6
    injection a6 with a6 a7
    injection a1 with a1 b1
    injection a2 with a2 b2
    have a3' : r8 = r := (nI_eq (a := r8) (b := r) (by omega) (by omega)).mp a3
    subst a1 b1 a2 b2 a3' a4 a5 a6 a7
    exact ⟨tm, w, rfl, rfl, Or.inr ⟨_, _, _, _, g1, ge, rfl⟩⟩
theorem suW_G {c : Cf} {a b : Int32} (h : CfG c) : CfG (suW c a b) := by
  by_cases q : InF a
  · rw [suW_y q]
    exact suC_G h
  · rw [suW_n q]
    exact h
theorem XC_sd {G : EnvG} {x tm r w w1 : Nat} {aq e xp xb : Int32} {ob sm un : Int64} {C T : Nat × (Nat → Fl)} {pp pt : Nat → Nat} {Φ1 : Hm} (he : xp - xb = e) (hb : zB (tm, r, w, aq, e, ob, sm, un, C, T)) (hw : w1 < 2147483648) (h80 : Φ1 (x + 80) = some (e80 x (nI tm) (nI r) (nI w1) aq xp xb ob sm un)) (h81 : Φ1 (x + 81) = some (e81 x C.1)) (h95 : Φ1 (x + 95) = some (e95 x T.1)) (hC : TbC G x C.1 99 C.2 pp Φ1) (hT : TbT G x T.1 99 T.2 pt Φ1) : XC G x (tm, r, w1, aq, e, ob, sm, un, C, T) Φ1 := ⟨xp, xb, pp, pt, he, h80, h81, h95, hC, hT, hb.1, hb.2.1, hb.2.2.1, hw⟩
theorem XC_aq {G : EnvG} {x tm r w : Nat} {aq a e xp xb : Int32} {ob sm un : Int64} {C T : Nat × (Nat → Fl)} {pp pt : Nat → Nat} {Φ1 : Hm} (he : xp - xb = e) (hb : zB (tm, r, w, aq, e, ob, sm, un, C, T)) (h80 : Φ1 (x + 80) = some (e80 x (nI tm) (nI r) (nI w) a xp xb ob sm un)) (h81 : Φ1 (x + 81) = some (e81 x C.1)) (h95 : Φ1 (x + 95) = some (e95 x T.1)) (hC : TbC G x C.1 99 C.2 pp Φ1) (hT : TbT G x T.1 99 T.2 pt Φ1) : XC G x (tm, r, w, a, e, ob, sm, un, C, T) Φ1 := ⟨xp, xb, pp, pt, he, h80, h81, h95, hC, hT, hb⟩
theorem XC_re {G : EnvG} {x tm r w n : Nat} {aq e xp xb : Int32} {ob sm un : Int64} {F : Nat → Fl} {T : Nat × (Nat → Fl)} {pp pt : Nat → Nat} {Φ1 : Hm} (he : xp - xb = e) (hb : zB (tm, r, w, aq, e, ob, sm, un, (n, F), T)) (h80 : Φ1 (x + 80) = some (e80 x (nI tm) (nI r) (nI w) aq xp xb ob sm un)) (h81 : Φ1 (x + 81) = some (e81 x 0)) (h95 : Φ1 (x + 95) = some (e95 x T.1)) (hC : TbC G x 0 99 F pp Φ1) (hT : TbT G x T.1 99 T.2 pt Φ1) : XC G x (tm, r, w, aq, e, ob, sm, un, (0, F), T) Φ1 := ⟨xp, xb, pp, pt, he, h80, h81, h95, hC, hT, hb⟩
theorem r_thrownT (G : EnvG) (l : Launch) (Φ : Hm) (sz x : Nat) (th : Int32) {l9 : List Value} (h : Φ x = some (o_ 14 (.int th :: l9))) (P : Option Value → Hm → Nat → Prop) (hp : P (some (.int th)) Φ sz) : Ct G l yX12_thrown wsX12_thrown ({ frames := 0, cells := 0, slots := 0, locals := 0 }) 0 0 [.ref x] Φ sz P := by
  refine Ct.of (cc := cX12_thrown) (maxL := 1) (ret := (some .int)) (by decide) rfl (Nat.le_of_ble_eq_true rfl) ?_
  intro p9 e9 s9 m9 w9 t9 k9 B
  show Z p9 l e9 _ s9 m9 _ w9 t9 k9 _ G 1 0 [(0, .ref x)] [] Φ sz 0 0
  refine z_aload_n B dX12_thrown_0 rfl 0 rfl ?_
  refine z_get (ref := "FlowExporterModel") (C := RX12) (T := TX12) (N := 54) (ci := 14) (v := .int th) B (by decide +kernel) rfl 0 (by decide) (by decide +kernel) rfl h rfl dX12_thrown_1 ?_
  exact z_ret_i B dX12_thrown_4 hp
theorem JM.obj {G : EnvG} {y : Nat} {n2 : Nat} {g : Nat → Int32} {co2 : Int32} {po2 : Int32} {z2 : XZ} {sn2 : SN} {q2 : QN} {c2 : Cf} {Φ : Hm} (h : JM G y n2 g co2 po2 z2 sn2 q2 c2 Φ) : ∃ fs : List Value, Φ y = some (o_ 14 fs) := by
  obtain ⟨⟨rd, le, nx, kn, nu, va, st, th, h⟩, -⟩ := h
  obtain ⟨_, _, _, h0, -⟩ := h.1
  exact ⟨_, h0⟩
theorem sw_get (a : Int32) : ∃ k : Nat, k < 64 ∧ a &&& 63 = nI k := by
  refine ⟨(a &&& 63).toBitVec.toNat, ?_, ?_⟩
  · have : (a &&& 63).toBitVec = a.toBitVec &&& 63#32 := rfl
    rw [this, BitVec.toNat_and]
    exact Nat.lt_of_le_of_lt Nat.and_le_right (by decide)
  · apply Int32.toBitVec_inj.mp
    show _ = (Int32.ofNat _).toBitVec
    rw [Int32.toBitVec_ofNat']
    simp
theorem law_cmp {i L : Nat} (hL : L ≤ 3584) (hi : i ≤ 3591) (h : ¬ nI L - 7 < nI i) : i + 7 ≤ L := by
  by_cases h7 : 7 ≤ L
  · have e : nI L - 7 = nI (L - 7) := nI_sub (b := 7) h7
    rw [e, Int32.lt_iff_toInt_lt, nI_toInt (by omega), nI_toInt (by omega)] at h
    omega
  · exfalso
    have h8 : ∀ k, k < 7 → (nI k - 7).toInt < 0 := by decide
    have h9 := h8 L (by omega)
    rw [Int32.lt_iff_toInt_lt, nI_toInt (n := i) (by omega)] at h
    omega

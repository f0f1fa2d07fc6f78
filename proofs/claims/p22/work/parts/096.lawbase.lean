
/-! the law: both objects in shape, what is told of them, the rows that take an answer -/
noncomputable def JM (G : EnvG) (y : Nat) (n2 : Nat) (g : Nat → Int32) (co2 : Int32) (po2 : Int32) (ti : Int32) (ad : Int32) (ob2 : Int64) (c2 : Cf) (Φ : Hm) : Prop := (∃ (rd : (Nat → Int32) → Prop) (fl le nx qu : Nat) (kn nu : Int32) (va : Int64) (st : Nat), Im G y (rd, (NNq c2), fl, 0, le, nx, n2, qu, kn, co2, nu, va, st, po2, ti, ad, ob2) Φ) ∧ Φ (y + 25) = some (ab_ G 700 g)
noncomputable def C24 (G : EnvG) (x : Nat) (co po : Int32) (Φ : Hm) : Prop := ∃ nx ki sa nu : Nat, Φ (x + 24) = some (o_ 8 [.ref (x + 25), .int co, .int po, .ref (x + 1), .int (nI nx), .int (nI ki), .int (nI sa), .int (nI nu)])
noncomputable def C80 (G : EnvG) (x : Nat) (nw aq : Int32) (ob : Int64) (Φ : Hm) : Prop := ∃ (rt dw xp xb : Int32) (sm un : Int64), Φ (x + 80) = some (o_ 4 [.ref (x + 3), .ref (x + 74), .ref (x + 81), .ref (x + 95), .int nw, .int rt, .int dw, .int aq, .int xp, .int xb, .long ob, .long sm, .long un])
theorem C24.eq {G : EnvG} {x : Nat} {co po : Int32} {Φ Φ1 : Hm} (h : C24 G x co po Φ) (e : Φ1 (x + 24) = Φ (x + 24)) : C24 G x co po Φ1 := by
  obtain ⟨nx, ki, sa, nu, h⟩ := h
  exact ⟨nx, ki, sa, nu, e.trans h⟩
theorem C80.eq {G : EnvG} {x : Nat} {nw aq : Int32} {ob : Int64} {Φ Φ1 : Hm} (h : C80 G x nw aq ob Φ) (e : Φ1 (x + 80) = Φ (x + 80)) : C80 G x nw aq ob Φ1 := by
  obtain ⟨rt, dw, xp, xb, sm, un, h⟩ := h
  exact ⟨rt, dw, xp, xb, sm, un, e.trans h⟩
/-- the configuration in force -/
noncomputable def CfC (G : EnvG) (x : Nat) (c : Cf) (Φ : Hm) : Prop := ∃ t s : Nat, CfA G x t s c Φ
theorem CfC.eq {G : EnvG} {x : Nat} {c : Cf} {Φ Φ1 : Hm} (h : CfC G x c Φ) (e : ∀ j, 3 ≤ j → j < 24 → Φ1 (x + j) = Φ (x + j)) : CfC G x c Φ1 := by
  obtain ⟨t, s, h⟩ := h
  exact ⟨t, s, h.mv e⟩
/-- the class's values, and the reference's -/
noncomputable def JK (G : EnvG) (x y o d ca : Nat) (n : Nat) (f : Nat → Int32) (co : Int32) (po : Int32) (nw : Int32) (aq : Int32) (ob : Int64) (c : Cf) (n2 : Nat) (g : Nat → Int32) (co2 : Int32) (po2 : Int32) (ti : Int32) (ad : Int32) (ob2 : Int64) (c2 : Cf) (Φ : Hm) : Prop := In G x ca Φ ∧ JM G y n2 g co2 po2 ti ad ob2 c2 Φ ∧ (∃ f : Nat → Int64, Φ o = some (al_ G 1 f)) ∧ (∃ f : Nat → UInt64, Φ d = some (ad_ G 1 f)) ∧ Φ (x + 1) = some (o_ 7 [.ref (x + 2), .int (nI n)]) ∧ Φ (x + 2) = some (ab_ G 700 f) ∧ C24 G x co po Φ ∧ C80 G x nw aq ob Φ ∧ CfC G x c Φ
noncomputable def JJ (G : EnvG) (x y o d ca : Nat) (Φ : Hm) : Prop := ∃ (n : Nat) (f g : Nat → Int32) (co po nw aq : Int32) (ob : Int64) (c : Cf), JK G x y o d ca n f co po nw aq ob c n g co po nw aq ob c Φ ∧ ∀ j, j < n → f j = g j
theorem Im.eq {G : EnvG} {y : Nat} {T : MT} {Φ Φ1 : Hm} (h : Im G y T Φ) (he : ∀ k, k < 26 → Φ1 (y + k) = Φ (y + k)) : Im G y T Φ1 := by
  refine ⟨?_, fun k h1 h2 => ?_⟩
  · rw [show Φ1 y = Φ y from he 0 (by decide)]
    exact h.1
  · rw [he k h2]
    exact h.2 k h1 h2
theorem JM.eq {G : EnvG} {y : Nat} {n2 : Nat} {g : Nat → Int32} {co2 : Int32} {po2 : Int32} {ti : Int32} {ad : Int32} {ob2 : Int64} {c2 : Cf} {Φ Φ1 : Hm} (h : JM G y n2 g co2 po2 ti ad ob2 c2 Φ) (he : ∀ k, k < 26 → Φ1 (y + k) = Φ (y + k)) : JM G y n2 g co2 po2 ti ad ob2 c2 Φ1 := by
  obtain ⟨⟨rd, fl, le, nx, qu, kn, nu, va, st, h⟩, h2⟩ := h
  exact ⟨⟨rd, fl, le, nx, qu, kn, nu, va, st, Im.eq h he⟩, (he 25 (by decide)).trans h2⟩
theorem In.eq {G : EnvG} {x ca : Nat} {Φ Φ1 : Hm} (h : In G x ca Φ) (he : ∀ k, k < 149 → Φ1 (x + k) = Φ (x + k)) : In G x ca Φ1 := by
  intro k
  by_cases hk : k < 149
  · rw [he k hk]
    exact h k
  · have hkd : kd k = 99 := by
      unfold kd
      rw [List.getD_eq_getElem?_getD, List.getElem?_eq_none (show kdL.length ≤ k from Nat.not_lt.mp hk)]
      rfl
    unfold Ok
    rw [hkd]
    trivial
abbrev Ds (x y o d : Nat) : Prop := x + 149 ≤ y ∧ y + 26 ≤ o ∧ o < d
theorem JK.up {G : EnvG} {x y o d ca cb : Nat} {n : Nat} {f : Nat → Int32} {co : Int32} {po : Int32} {nw : Int32} {aq : Int32} {ob : Int64} {c : Cf} {n2 : Nat} {g : Nat → Int32} {co2 : Int32} {po2 : Int32} {ti : Int32} {ad : Int32} {ob2 : Int64} {c2 : Cf} {Φ : Hm} (h : JK G x y o d ca n f co po nw aq ob c n2 g co2 po2 ti ad ob2 c2 Φ) (hc : ca ≤ cb) : JK G x y o d cb n f co po nw aq ob c n2 g co2 po2 ti ad ob2 c2 Φ := ⟨In.mono h.1 hc, h.2⟩
theorem JJ.up {G : EnvG} {x y o d ca cb : Nat} {Φ : Hm} (h : JJ G x y o d ca Φ) (hc : ca ≤ cb) : JJ G x y o d cb Φ := by
  obtain ⟨n, f, g, co, po, nw, aq, ob, c, h, he⟩ := h
  exact ⟨n, f, g, co, po, nw, aq, ob, c, JK.up h hc, he⟩
theorem JK.il {G : EnvG} {x y o d ca : Nat} {n : Nat} {f : Nat → Int32} {co : Int32} {po : Int32} {nw : Int32} {aq : Int32} {ob : Int64} {c : Cf} {n2 : Nat} {g : Nat → Int32} {co2 : Int32} {po2 : Int32} {ti : Int32} {ad : Int32} {ob2 : Int64} {c2 : Cf} {Φ : Hm} (h : JK G x y o d ca n f co po nw aq ob c n2 g co2 po2 ti ad ob2 c2 Φ) : n2 ≤ 700 := by
  obtain ⟨rd, fl, le, nx, qu, kn, nu, va, st, h2⟩ := h.2.1.1
  obtain ⟨_, _, _, _, _, _, _, _, _, _, _, _, _, _, h0, -, -, -, -, -, -, -, -, -, -, hb, -⟩ := h2.1
  exact hb
theorem JK.fit {G : EnvG} {x y o d ca : Nat} {n : Nat} {f : Nat → Int32} {co : Int32} {po : Int32} {nw : Int32} {aq : Int32} {ob : Int64} {c : Cf} {n2 : Nat} {g : Nat → Int32} {co2 : Int32} {po2 : Int32} {ti : Int32} {ad : Int32} {ob2 : Int64} {c2 : Cf} {Φ : Hm} (h : JK G x y o d ca n f co po nw aq ob c n2 g co2 po2 ti ad ob2 c2 Φ) : ∀ j9, fits .byte (.int (f j9)) = true := by
  obtain ⟨f2, h2, h3⟩ := in2 (k := 2) h.1 rfl
  have e := h.2.2.2.2.2.1.symm.trans h2
  have e2 := ab_inj e
  subst e2
  exact h3
theorem o4_aq {l m : List Value} (h : some (o_ 4 l) = some (o_ 4 m)) : l = m := (Prod.mk.inj (Sum.inr.inj (Option.some.inj h))).2
theorem JK.aq {G : EnvG} {x y o d ca : Nat} {n : Nat} {f : Nat → Int32} {co : Int32} {po : Int32} {nw : Int32} {aq : Int32} {ob : Int64} {c : Cf} {n2 : Nat} {g : Nat → Int32} {co2 : Int32} {po2 : Int32} {ti : Int32} {ad : Int32} {ob2 : Int64} {c2 : Cf} {Φ : Hm} (h : JK G x y o d ca n f co po nw aq ob c n2 g co2 po2 ti ad ob2 c2 Φ) : aq = 0 ∨ aq = 1 := by
  obtain ⟨a1, a2, a3, a4, a5, a6, a7, a8, a9, h2, h3⟩ := in16 (k := 80) h.1 rfl
  obtain ⟨rt, dw, xp, xb, sm, un, h4⟩ := h.2.2.2.2.2.2.2.1
  have e := o4_aq (h4.symm.trans h2)
  have e7 : Value.int aq = Value.int a4 := congrArg (fun l : List Value => l.getD 7 .null) e
  have e8 : aq = a4 := by injection e7
  rw [e8]
  exact h3
theorem nI_cl {n : Nat} (h : n < 2 ^ 31) : (nI n).toNatClampNeg = n := by
  show (nI n).toInt.toNat = n
  rw [nI_toInt h]
  omega
theorem vinL0 {i L : Nat} (h : i < L) (hL : L ≤ 3584) : vp_in (nI i) L := by
  refine vin ?_
  have h1 : ¬ nI i < 0 := by
    rw [Int32.lt_iff_toInt_lt, nI_toInt (by omega)]
    show ¬ (i : Int) < 0
    omega
  rw [nI_cl (by omega), decide_eq_false h1]
  show Nat.ble (i + 1) L = true
  exact Nat.ble_eq_true_of_le h
theorem vinL {i n L : Nat} {w : Int32} (hw : w = nI n) (h : i + n < L) (hL : L ≤ 3584) : vp_in (nI i + w) L := by
  subst hw
  rw [show nI i + nI n = nI (i + n) from (Int32.ofNat_add i n).symm]
  exact vinL0 h hL
theorem rmL {cells slots mc ms : Nat} (h1 : cells ≤ 9000) (h2 : slots ≤ 90000) (h3 : mc ≤ 8) (h4 : ms ≤ 64) : cells + mc ≤ room_1.cells ∧ slots + ms ≤ room_1.slots := by
  have e1 : room_1.cells = 603072 := rfl
  have e2 : room_1.slots = 7198826 := rfl
  omega
theorem apV_int {n n1 : Nat} {v : Option Value} (h : apV n v n1) : ∃ r : Int32, v = some (.int r) := by
  rcases h with ⟨-, rfl, -⟩ | ⟨-, rfl, -⟩ <;> exact ⟨_, rfl⟩
theorem trV_int {n n1 : Nat} {a : Int32} {v : Option Value} (h : trV n a v n1) : ∃ r : Int32, v = some (.int r) := by
  rcases h with ⟨j, -, -, rfl, -⟩ | ⟨-, rfl, -⟩ <;> exact ⟨_, rfl⟩
theorem LdV_int {b : Nat → Int32} {v : Option Value} {co po : Int32} (h : LdV b v co po) : ∃ r : Int32, v = some (.int r) := by
  rcases h with ⟨m, q, c, rfl, -⟩ | ⟨er, s, m, c, rfl, -⟩ <;> exact ⟨_, rfl⟩
theorem oi_eq {r q : Int32} (h : some (Value.int r) = some (Value.int q)) : r = q := by
  injection h with h
  injection h
theorem trV_le {n n1 : Nat} {a : Int32} {v : Option Value} (h : trV n a v n1) : n1 ≤ n := by
  rcases h with ⟨j, hj, -, -, rfl⟩ | ⟨-, -, rfl⟩ <;> omega
theorem bA_ext {f g : Nat → Int32} {n : Nat} (h : ∀ j, j < n → f j = g j) : bA f n = bA g n := by
  funext i
  unfold bA
  by_cases hi : i < n
  · rw [if_pos hi, if_pos hi, h i hi]
  · rw [if_neg hi, if_neg hi]
/-- appendInput in both -/
theorem fin_ap {n n1 n2 : Nat} {f g f1 g1 : Nat → Int32} {a b d p q r r2 : Int32} (hE : ∀ j, j < n → f j = g j) (h : apV n (some (.int r)) n1) (h2 : apV n (some (.int r2)) n2) (h3 : n1 = n → f1 = f) (h4 : n ≤ 680 → AppR (fun w k => bL w.toInt64 k) f n a b d p q f1) (k3 : n2 = n → g1 = g) (k4 : n ≤ 680 → AppR bI g n a b d p q g1) : r = r2 ∧ n1 = n2 ∧ ∀ j, j < n2 → f1 j = g1 j := by
  obtain ⟨e1, e2⟩ := apV_fun h h2
  refine ⟨oi_eq e1, e2, ?_⟩
  subst e2
  rcases h with ⟨c, -, e⟩ | ⟨c, -, e⟩
  · rw [h3 e, k3 e, e]
    exact hE
  · rw [e]
    exact AppR_eq (fun w k hk => bL_bI w k hk) (h4 c) (k4 c) hE
theorem fin_tr {n n1 n2 : Nat} {f g : Nat → Int32} {a r r2 : Int32} (hn : n ≤ 700) (hE : ∀ j, j < n → f j = g j) (h : trV n a (some (.int r)) n1) (h2 : trV n a (some (.int r2)) n2) : r = r2 ∧ n1 = n2 ∧ ∀ j, j < n2 → f j = g j := by
  obtain ⟨e1, e2⟩ := trV_fun hn h h2
  refine ⟨oi_eq e1, e2, fun j hj => hE j ?_⟩
  have := trV_le h2
  omega
theorem LdW_int {b : Nat → Int32} {v : Option Value} {co po nw aq nw8 aq8 : Int32} {ob ob8 : Int64} (h : LdW b v co po nw aq ob nw8 aq8 ob8) : ∃ r : Int32, v = some (.int r) := LdV_int (LdW_V h)
theorem fin_ld {n : Nat} {f g : Nat → Int32} {r r2 co po co2 po2 nw aq nw8 aq8 nw9 aq9 : Int32} {ob ob8 ob9 : Int64} (hE : ∀ j, j < n → f j = g j) (h : LdW (bA f n) (some (.int r)) co po nw aq ob nw8 aq8 ob8) (h2 : LdW (bA g n) (some (.int r2)) co2 po2 nw aq ob nw9 aq9 ob9) : r = r2 ∧ co = co2 ∧ po = po2 ∧ nw8 = nw9 ∧ aq8 = aq9 ∧ ob8 = ob9 := by
  rw [← bA_ext hE] at h2
  obtain ⟨e1, e2⟩ := LdW_fun h h2
  exact ⟨oi_eq e1, e2⟩
theorem JJ.of {G : EnvG} {x y o d ca : Nat} {n : Nat} {f : Nat → Int32} {co : Int32} {po : Int32} {nw : Int32} {aq : Int32} {ob : Int64} {c : Cf} {n2 : Nat} {g : Nat → Int32} {co2 : Int32} {po2 : Int32} {ti : Int32} {ad : Int32} {ob2 : Int64} {c2 : Cf} {Φ : Hm} (h : JK G x y o d ca n f co po nw aq ob c n2 g co2 po2 ti ad ob2 c2 Φ) (e1 : n = n2) (e2 : co = co2) (e3 : po = po2) (e4 : nw = ti) (e5 : aq = ad) (e6 : ob = ob2) (e7 : c = c2) (hE : ∀ j, j < n2 → f j = g j) : JJ G x y o d ca Φ := by
  subst e1
  subst e2
  subst e3
  subst e4
  subst e5
  subst e6
  subst e7
  exact ⟨_, _, _, _, _, _, _, _, _, h, hE⟩
theorem fin_ldc {n : Nat} {f g : Nat → Int32} {c c1 c2 : Cf} (hE : ∀ j, j < n → f j = g j) (h : CfL (bA f n) c c1) (h2 : CfL (bA g n) c c2) : c1 = c2 := by
  rw [← bA_ext hE] at h2
  exact CfL_fun h h2
theorem fin_su {c c1 : Cf} {a b r : Int32} {y : Nat} {Φ1 : Hm} (h : (¬ InF a ∧ some (Value.int r) = some (.int 0) ∧ c1 = c ∧ ∃ l9 : List Value, Φ1 y = some (o_ 14 (.int 1 :: l9))) ∨ (InF a ∧ some (Value.int r) = some (.int (suV c a)) ∧ c1 = suC c a b ∧ ∃ l9 : List Value, Φ1 y = some (o_ 14 (.int 0 :: l9)))) : ∃ (th : Int32) (l9 : List Value), Φ1 y = some (o_ 14 (.int th :: l9)) ∧ AnsR (InF a) True (suV c a).toInt64 th r.toInt64 ∧ (r = 0 ∨ r = 1) ∧ suW c a b = c1 := by
  rcases h with ⟨h1, h2, rfl, l, h3⟩ | ⟨h1, h2, rfl, l, h3⟩
  · exact ⟨1, l, h3, Or.inr (Or.inl ⟨h1, rfl⟩), Or.inl (oi_eq h2), suW_n h1⟩
  · have e := oi_eq h2
    subst e
    exact ⟨0, l, h3, Or.inl ⟨h1, trivial, rfl, rfl⟩, suV_01 c a, suW_y h1⟩
/-- observe, observeMany, advance: why they throw is the same in both -/
theorem fin_obm {a b d f g h : Int32} {ob o1 o2 : Int64} (h1 : (¬ RqP (keyF a b d f) g h ∧ o1 = ob + h.toInt64) ∨ (RqP (keyF a b d f) g h ∧ o1 = ob)) (h2 : ((PkP a b d f g ∧ 1 ≤ h.toInt ∧ h.toInt ≤ 200) ∧ o2 = ob + h.toInt64) ∨ (¬ (PkP a b d f g ∧ 1 ≤ h.toInt ∧ h.toInt ≤ 200) ∧ o2 = ob)) : o1 = o2 := by
  rcases h1 with ⟨p, rfl⟩ | ⟨p, rfl⟩ <;> rcases h2 with ⟨q, rfl⟩ | ⟨q, rfl⟩
  · rfl
  · exact absurd (RqP_iff.mpr q) p
  · exact absurd q (RqP_iff.mp p)
  · rfl
theorem fin_ob {a b d f g : Int32} {ob o1 o2 : Int64} (h1 : (¬ RqP (keyF a b d f) g 1 ∧ o1 = ob + (nI 1).toInt64) ∨ (RqP (keyF a b d f) g 1 ∧ o1 = ob)) (h2 : (PkP a b d f g ∧ o2 = ob + 1) ∨ (¬ PkP a b d f g ∧ o2 = ob)) : o1 = o2 := by
  have e : (nI 1).toInt64 = 1 := by decide
  have k1 : (1 : Int32).toInt = 1 := by decide
  refine fin_obm (h := 1) (a := a) (b := b) (d := d) (f := f) (g := g) (ob := ob) h1 ?_
  rcases h2 with ⟨q, r⟩ | ⟨q, r⟩
  · exact Or.inl ⟨⟨q, by omega, by omega⟩, r⟩
  · exact Or.inr ⟨fun z => q z.1, r⟩
theorem fin_nw {a nw n1 n2 : Int32} {p : Prop} (h1 : (p ∧ n1 = nw + a) ∨ (¬ p ∧ n1 = nw)) (h2 : (p ∧ n2 = nw + a) ∨ (¬ p ∧ n2 = nw)) : n1 = n2 := by
  rcases h1 with ⟨p, rfl⟩ | ⟨p, rfl⟩ <;> rcases h2 with ⟨q, rfl⟩ | ⟨q, rfl⟩
  · rfl
  · exact absurd p q
  · exact absurd q p
  · rfl
theorem r_thrownT (G : EnvG) (l : Launch) (Φ : Hm) (sz x : Nat) (th : Int32) {l9 : List Value} (h : Φ x = some (o_ 14 (.int th :: l9))) (P : Option Value → Hm → Nat → Prop) (hp : P (some (.int th)) Φ sz) : Ct G l yX12_thrown wsX12_thrown ({ frames := 0, cells := 0, slots := 0, locals := 0 }) 0 0 [.ref x] Φ sz P := by
  refine Ct.of (cc := cX12_thrown) (maxL := 1) (ret := (some .int)) (by decide) rfl (Nat.le_of_ble_eq_true rfl) ?_
  intro p9 e9 s9 m9 w9 t9 k9 B
  show Z p9 l e9 _ s9 m9 _ w9 t9 k9 _ G 1 0 [(0, .ref x)] [] Φ sz 0 0
  refine z_aload_n B dX12_thrown_0 rfl 0 rfl ?_
  refine z_get (ref := "FlowExporterModel") (C := RX12) (T := TX12) (N := 54) (ci := 14) (v := .int th) B (by decide +kernel) rfl 0 (by decide) (by decide +kernel) rfl h rfl dX12_thrown_1 ?_
  exact z_ret_i B dX12_thrown_4 hp
theorem xq_observe {G : EnvG} {x : Nat} {nw : Int32} {rt : Int32} {dw : Int32} {aq : Int32} {xp : Int32} {xb : Int32} {ob : Int64} {sm : Int64} {un : Int64} {a : Int32} {b : Int32} {d : Int32} {f : Int32} {g : Int32} {Φ1 : Hm} (hxq : ((¬ (RqP (keyF a b d f) g 1)) ∧ ∃ dw8 : Int32, ∃ xp8 : Int32, ∃ sm8 : Int64, ∃ un8 : Int64, Φ1 (x + 80) = some (o_ 4 [.ref (x + 3), .ref (x + 74), .ref (x + 81), .ref (x + 95), .int nw, .int rt, .int dw8, .int aq, .int xp8, .int xb, .long (ob + (nI 1).toInt64), .long sm8, .long un8])) ∨ ((RqP (keyF a b d f) g 1) ∧ Φ1 (x + 80) = some (o_ 4 [.ref (x + 3), .ref (x + 74), .ref (x + 81), .ref (x + 95), .int nw, .int rt, .int dw, .int aq, .int xp, .int xb, .long ob, .long sm, .long un]))) : ∃ o9 : Int64, C80 G x nw aq o9 Φ1 ∧ ((¬ (RqP (keyF a b d f) g 1) ∧ o9 = ob + (nI 1).toInt64) ∨ (RqP (keyF a b d f) g 1 ∧ o9 = ob)) := by
  rcases hxq with ⟨hc, dw8, xp8, sm8, un8, hy⟩ | ⟨hc, hy⟩
  · exact ⟨_, ⟨rt, dw8, xp8, xb, sm8, un8, hy⟩, Or.inl ⟨hc, rfl⟩⟩
  · exact ⟨_, ⟨rt, dw, xp, xb, sm, un, hy⟩, Or.inr ⟨hc, rfl⟩⟩
theorem xq_observeMany {G : EnvG} {x : Nat} {nw : Int32} {rt : Int32} {dw : Int32} {aq : Int32} {xp : Int32} {xb : Int32} {ob : Int64} {sm : Int64} {un : Int64} {a : Int32} {b : Int32} {d : Int32} {f : Int32} {g : Int32} {h : Int32} {Φ1 : Hm} (hxq : ((¬ (RqP (keyF a b d f) g h)) ∧ ∃ dw8 : Int32, ∃ xp8 : Int32, ∃ sm8 : Int64, ∃ un8 : Int64, Φ1 (x + 80) = some (o_ 4 [.ref (x + 3), .ref (x + 74), .ref (x + 81), .ref (x + 95), .int nw, .int rt, .int dw8, .int aq, .int xp8, .int xb, .long (ob + h.toInt64), .long sm8, .long un8])) ∨ ((RqP (keyF a b d f) g h) ∧ Φ1 (x + 80) = some (o_ 4 [.ref (x + 3), .ref (x + 74), .ref (x + 81), .ref (x + 95), .int nw, .int rt, .int dw, .int aq, .int xp, .int xb, .long ob, .long sm, .long un]))) : ∃ o9 : Int64, C80 G x nw aq o9 Φ1 ∧ ((¬ (RqP (keyF a b d f) g h) ∧ o9 = ob + h.toInt64) ∨ (RqP (keyF a b d f) g h ∧ o9 = ob)) := by
  rcases hxq with ⟨hc, dw8, xp8, sm8, un8, hy⟩ | ⟨hc, hy⟩
  · exact ⟨_, ⟨rt, dw8, xp8, xb, sm8, un8, hy⟩, Or.inl ⟨hc, rfl⟩⟩
  · exact ⟨_, ⟨rt, dw, xp, xb, sm, un, hy⟩, Or.inr ⟨hc, rfl⟩⟩
theorem xq_advance {G : EnvG} {x : Nat} {nw : Int32} {rt : Int32} {dw : Int32} {aq : Int32} {xp : Int32} {xb : Int32} {ob : Int64} {sm : Int64} {un : Int64} {a : Int32} {Φ1 : Hm} (hxq : (((1 ≤ a.toInt ∧ a.toInt ≤ 1000 ∧ nw + a ≤ 1000000)) ∧ ∃ rt8 : Int32, ∃ xp8 : Int32, ∃ xb8 : Int32, ∃ un8 : Int64, Φ1 (x + 80) = some (o_ 4 [.ref (x + 3), .ref (x + 74), .ref (x + 81), .ref (x + 95), .int (nw + a), .int rt8, .int dw, .int aq, .int xp8, .int xb8, .long ob, .long sm, .long un8])) ∨ ((¬ (1 ≤ a.toInt ∧ a.toInt ≤ 1000 ∧ nw + a ≤ 1000000)) ∧ Φ1 (x + 80) = some (o_ 4 [.ref (x + 3), .ref (x + 74), .ref (x + 81), .ref (x + 95), .int nw, .int rt, .int dw, .int aq, .int xp, .int xb, .long ob, .long sm, .long un]))) : ∃ n9 : Int32, C80 G x n9 aq ob Φ1 ∧ (((1 ≤ a.toInt ∧ a.toInt ≤ 1000 ∧ nw + a ≤ 1000000) ∧ n9 = nw + a) ∨ (¬ (1 ≤ a.toInt ∧ a.toInt ≤ 1000 ∧ nw + a ≤ 1000000) ∧ n9 = nw)) := by
  rcases hxq with ⟨hc, rt8, xp8, xb8, un8, hy⟩ | ⟨hc, hy⟩
  · exact ⟨_, ⟨rt8, dw, xp8, xb8, sm, un8, hy⟩, Or.inl ⟨hc, rfl⟩⟩
  · exact ⟨_, ⟨rt, dw, xp, xb, sm, un, hy⟩, Or.inr ⟨hc, rfl⟩⟩
theorem JM.obj {G : EnvG} {y : Nat} {n2 : Nat} {g : Nat → Int32} {co2 : Int32} {po2 : Int32} {ti : Int32} {ad : Int32} {ob2 : Int64} {c2 : Cf} {Φ : Hm} (h : JM G y n2 g co2 po2 ti ad ob2 c2 Φ) : ∃ fs : List Value, Φ y = some (o_ 14 fs) := by
  obtain ⟨⟨rd, fl, le, nx, qu, kn, nu, va, st, h⟩, -⟩ := h
  obtain ⟨_, _, _, _, _, _, _, _, _, _, _, _, _, _, h0, -⟩ := h.1
  exact ⟨_, h0⟩
theorem sw_get (a : Int32) : ∃ k : Nat, k < 64 ∧ a &&& 63 = nI k := by
  refine ⟨(a &&& 63).toBitVec.toNat, ?_, ?_⟩
  · have : (a &&& 63).toBitVec = a.toBitVec &&& 63#32 := rfl
    rw [this, BitVec.toNat_and]
    exact Nat.lt_of_le_of_lt Nat.and_le_right (by decide)
  · apply Int32.toBitVec_inj.mp
    show _ = (Int32.ofNat _).toBitVec
    rw [Int32.toBitVec_ofNat']
    simp
theorem law_cmp {i L : Nat} (hL : L ≤ 3584) (hi : i ≤ 3591) (h : ¬ nI L - 7 < nI i) : i + 7 ≤ L := by
  by_cases h7 : 7 ≤ L
  · have e : nI L - 7 = nI (L - 7) := nI_sub (b := 7) h7
    rw [e, Int32.lt_iff_toInt_lt, nI_toInt (by omega), nI_toInt (by omega)] at h
    omega
  · exfalso
    have h8 : ∀ k, k < 7 → (nI k - 7).toInt < 0 := by decide
    have h9 := h8 L (by omega)
    rw [Int32.lt_iff_toInt_lt, nI_toInt (n := i) (by omega)] at h
    omega

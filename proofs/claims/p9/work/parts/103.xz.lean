/-! the exporter's whole state, as the law sees it: time, rate, draws, adaptive, exports of the interval, observed, sampled, unsent, flows, real keys -/
abbrev XZ : Type := Nat × Nat × Nat × Int32 × Int32 × Int64 × Int64 × Int64 × (Nat × (Nat → Fl)) × (Nat × (Nat → Fl))
noncomputable def zB (z : XZ) : Prop := z.1 ≤ 1000000 ∧ 1 ≤ z.2.1 ∧ z.2.1 ≤ 1024 ∧ z.2.2.1 < 2147483648
/-- m packets of a key are observed; k of them are sampled -/
noncomputable def ObR (c : Cf) (a b d f g : Int32) (m : Nat) (z z1 : XZ) (k : Int32) : Prop := ∃ k1 d1 : Nat, k = nI k1 ∧ tkI c (kyN a b d f) g.toInt64 z.1 z.2.1 ((z.2.2.2.2.2.2.2.2.1.1, z.2.2.2.2.2.2.2.2.1.2, z.2.2.2.2.2.2.2.1), z.2.2.1, 0, 0) m = ((z1.2.2.2.2.2.2.2.2.1.1, z1.2.2.2.2.2.2.2.2.1.2, z1.2.2.2.2.2.2.2.1), z1.2.2.1, k1, d1) ∧ rmS (kyN a b d f) g.toInt64 m z.1 z.2.2.2.2.2.2.2.2.2 = z1.2.2.2.2.2.2.2.2.2 ∧ z1.1 = z.1 ∧ z1.2.1 = z.2.1 ∧ z1.2.2.2.1 = z.2.2.2.1 ∧ z1.2.2.2.2.1 = z.2.2.2.2.1 + nI d1 ∧ z1.2.2.2.2.2.1 = z.2.2.2.2.2.1 + (nI m).toInt64 ∧ z1.2.2.2.2.2.2.1 = z.2.2.2.2.2.2.1 + (nI k1).toInt64
theorem ObR_fun {c : Cf} {a b d f g k k2 : Int32} {m : Nat} {z z1 z2 : XZ} (h : ObR c a b d f g m z z1 k) (h2 : ObR c a b d f g m z z2 k2) : z1 = z2 ∧ k = k2 := by
  obtain ⟨t1, r1, w1, q1, e1, o1, s1, u1, ⟨n1, F1⟩, T1⟩ := z1
  obtain ⟨t2, r2, w2, q2, e2, o2, s2, u2, ⟨n2, F2⟩, T2⟩ := z2
  obtain ⟨k1, d1, rfl, h3, h4, h5, h6, h7, h8, h9, h10⟩ := h
  obtain ⟨k3, d3, rfl, g3, g4, g5, g6, g7, g8, g9, g10⟩ := h2
  obtain ⟨p1, p2⟩ := Prod.mk.inj (h3.symm.trans g3)
  obtain ⟨p3, p4⟩ := Prod.mk.inj p1
  obtain ⟨p5, p6⟩ := Prod.mk.inj p4
  obtain ⟨p7, p8⟩ := Prod.mk.inj p2
  obtain ⟨p9, p10⟩ := Prod.mk.inj p8
  dsimp only at h4 h5 h6 h7 h8 h9 h10 g4 g5 g6 g7 g8 g9 g10 p3 p5 p6 p7
  subst p3 p5 p6 p7 p9 p10
  have e4 := h4.symm.trans g4
  subst e4
  rw [h5, h6, h7, h8, h9, h10, g5, g6, g7, g8, g9, g10]
  exact ⟨rfl, rfl⟩
/-- ticks; k flows are exported -/
noncomputable def AvR (c : Cf) (a : Int32) (z z1 : XZ) (k : Int32) : Prop := ∃ d1 : Nat, k = nI d1 ∧ tiI c z.2.2.2.1 z.1 ((z.2.2.2.2.2.2.2.2.1.1, z.2.2.2.2.2.2.2.2.1.2, z.2.2.2.2.2.2.2.1), z.2.1, z.2.2.2.2.1, 0) a.toNatClampNeg = ((z1.2.2.2.2.2.2.2.2.1.1, z1.2.2.2.2.2.2.2.2.1.2, z1.2.2.2.2.2.2.2.1), z1.2.1, z1.2.2.2.2.1, d1) ∧ z1.1 = z.1 + a.toNatClampNeg ∧ z1.2.2.1 = z.2.2.1 ∧ z1.2.2.2.1 = z.2.2.2.1 ∧ z1.2.2.2.2.2.1 = z.2.2.2.2.2.1 ∧ z1.2.2.2.2.2.2.1 = z.2.2.2.2.2.2.1 ∧ z1.2.2.2.2.2.2.2.2.2 = z.2.2.2.2.2.2.2.2.2
theorem AvR_fun {c : Cf} {a k k2 : Int32} {z z1 z2 : XZ} (h : AvR c a z z1 k) (h2 : AvR c a z z2 k2) : z1 = z2 ∧ k = k2 := by
  obtain ⟨t1, r1, w1, q1, e1, o1, s1, u1, ⟨n1, F1⟩, T1⟩ := z1
  obtain ⟨t2, r2, w2, q2, e2, o2, s2, u2, ⟨n2, F2⟩, T2⟩ := z2
  obtain ⟨d1, rfl, h3, h4, h5, h6, h7, h8, h9⟩ := h
  obtain ⟨d3, rfl, g3, g4, g5, g6, g7, g8, g9⟩ := h2
  obtain ⟨p1, p2⟩ := Prod.mk.inj (h3.symm.trans g3)
  obtain ⟨p3, p4⟩ := Prod.mk.inj p1
  obtain ⟨p5, p6⟩ := Prod.mk.inj p4
  obtain ⟨p7, p8⟩ := Prod.mk.inj p2
  obtain ⟨p9, p10⟩ := Prod.mk.inj p8
  dsimp only at h4 h5 h6 h7 h8 h9 g4 g5 g6 g7 g8 g9 p3 p5 p6 p7 p9
  subst p3 p5 p6 p7 p9 p10
  rw [h4, h5, h6, h7, h8, h9, g4, g5, g6, g7, g8, g9]
  exact ⟨rfl, rfl⟩
/-- all flows are exported -/
noncomputable def FlR (c : Cf) (z z1 : XZ) : Prop := exI c (z.2.2.2.2.2.2.2.2.1.1, z.2.2.2.2.2.2.2.2.1.2, z.2.2.2.2.2.2.2.1) z.2.2.2.2.2.2.2.2.1.1 = (0, z1.2.2.2.2.2.2.2.2.1.2, z1.2.2.2.2.2.2.2.1) ∧ z1.2.2.2.2.2.2.2.2.1.1 = 0 ∧ z1.1 = z.1 ∧ z1.2.1 = z.2.1 ∧ z1.2.2.1 = z.2.2.1 ∧ z1.2.2.2.1 = z.2.2.2.1 ∧ z1.2.2.2.2.1 = z.2.2.2.2.1 + nI z.2.2.2.2.2.2.2.2.1.1 ∧ z1.2.2.2.2.2.1 = z.2.2.2.2.2.1 ∧ z1.2.2.2.2.2.2.1 = z.2.2.2.2.2.2.1 ∧ z1.2.2.2.2.2.2.2.2.2 = z.2.2.2.2.2.2.2.2.2
theorem FlR_fun {c : Cf} {z z1 z2 : XZ} (h : FlR c z z1) (h2 : FlR c z z2) : z1 = z2 := by
  obtain ⟨t1, r1, w1, q1, e1, o1, s1, u1, ⟨n1, F1⟩, T1⟩ := z1
  obtain ⟨t2, r2, w2, q2, e2, o2, s2, u2, ⟨n2, F2⟩, T2⟩ := z2
  obtain ⟨h3, h4, h5, h6, h7, h8, h9, h10, h11, h12⟩ := h
  obtain ⟨g3, g4, g5, g6, g7, g8, g9, g10, g11, g12⟩ := h2
  obtain ⟨p1, p2⟩ := Prod.mk.inj (h3.symm.trans g3)
  obtain ⟨p3, p4⟩ := Prod.mk.inj p2
  dsimp only at h4 h5 h6 h7 h8 h9 h10 h11 h12 g4 g5 g6 g7 g8 g9 g10 g11 g12 p3 p4
  subst p3 p4
  rw [h4, h5, h6, h7, h8, h9, h10, h11, h12, g4, g5, g6, g7, g8, g9, g10, g11, g12]
/-- the rate is set; k is answered -/
noncomputable def SrR (c : Cf) (a : Int32) (z z1 : XZ) (k : Int32) : Prop := ∃ d1 : Nat, srS c a (z.2.2.2.2.2.2.2.2.1.1, z.2.2.2.2.2.2.2.2.1.2, z.2.2.2.2.2.2.2.1) z.2.1 = (k, (z1.2.2.2.2.2.2.2.2.1.1, z1.2.2.2.2.2.2.2.2.1.2, z1.2.2.2.2.2.2.2.1), z1.2.1, d1) ∧ z1.1 = z.1 ∧ z1.2.2.1 = z.2.2.1 ∧ z1.2.2.2.1 = z.2.2.2.1 ∧ z1.2.2.2.2.1 = z.2.2.2.2.1 + nI d1 ∧ z1.2.2.2.2.2.1 = z.2.2.2.2.2.1 ∧ z1.2.2.2.2.2.2.1 = z.2.2.2.2.2.2.1 ∧ z1.2.2.2.2.2.2.2.2.2 = z.2.2.2.2.2.2.2.2.2
theorem SrR_fun {c : Cf} {a k k2 : Int32} {z z1 z2 : XZ} (h : SrR c a z z1 k) (h2 : SrR c a z z2 k2) : z1 = z2 ∧ k = k2 := by
  obtain ⟨t1, r1, w1, q1, e1, o1, s1, u1, ⟨n1, F1⟩, T1⟩ := z1
  obtain ⟨t2, r2, w2, q2, e2, o2, s2, u2, ⟨n2, F2⟩, T2⟩ := z2
  obtain ⟨d1, h3, h4, h5, h6, h7, h8, h9, h10⟩ := h
  obtain ⟨d3, g3, g4, g5, g6, g7, g8, g9, g10⟩ := h2
  obtain ⟨p0, p1⟩ := Prod.mk.inj (h3.symm.trans g3)
  obtain ⟨p2, p3⟩ := Prod.mk.inj p1
  obtain ⟨p4, p5⟩ := Prod.mk.inj p2
  obtain ⟨p6, p7⟩ := Prod.mk.inj p5
  obtain ⟨p8, p9⟩ := Prod.mk.inj p3
  dsimp only at h4 h5 h6 h7 h8 h9 h10 g4 g5 g6 g7 g8 g9 g10 p4 p6 p7 p8
  subst p0 p4 p6 p7 p8 p9
  rw [h4, h5, h6, h7, h8, h9, h10, g4, g5, g6, g7, g8, g9, g10]
  exact ⟨rfl, rfl⟩
/-- the class's cells for a state -/
noncomputable def XC (G : EnvG) (x : Nat) (z : XZ) (Φ : Hm) : Prop := ∃ (xp xb : Int32) (pp pt : Nat → Nat), xp - xb = z.2.2.2.2.1 ∧ Φ (x + 80) = some (o_ 4 [.ref (x + 3), .ref (x + 74), .ref (x + 81), .ref (x + 95), .int (nI z.1), .int (nI z.2.1), .int (nI z.2.2.1), .int z.2.2.2.1, .int xp, .int xb, .long z.2.2.2.2.2.1, .long z.2.2.2.2.2.2.1, .long z.2.2.2.2.2.2.2.1]) ∧ Φ (x + 81) = some (o_ 6 [.ref (x + 82), .int (nI z.2.2.2.2.2.2.2.2.1.1)]) ∧ Φ (x + 95) = some (o_ 6 [.ref (x + 96), .int (nI z.2.2.2.2.2.2.2.2.2.1)]) ∧ TbC G x z.2.2.2.2.2.2.2.2.1.1 99 z.2.2.2.2.2.2.2.2.1.2 pp Φ ∧ TbT G x z.2.2.2.2.2.2.2.2.2.1 99 z.2.2.2.2.2.2.2.2.2.2 pt Φ ∧ zB z
theorem XC.eq {G : EnvG} {x : Nat} {z : XZ} {Φ Φ1 : Hm} (h : XC G x z Φ) (e : ∀ j, 80 ≤ j → j < 121 → Φ1 (x + j) = Φ (x + j)) : XC G x z Φ1 := by
  obtain ⟨xp, xb, pp, pt, h0, h1, h2, h3, h4, h5, h6⟩ := h
  exact ⟨xp, xb, pp, pt, h0, (e 80 (by decide) (by decide)).trans h1, (e 81 (by decide) (by decide)).trans h2, (e 95 (by decide) (by decide)).trans h3, TbR.mv h4 (fun j q1 q2 _ => e j (by omega) (by omega)), TbR.mv h5 (fun j q1 q2 _ => e j (by omega) (by omega)), h6⟩
/-! a state out of what the calls tell -/
abbrev e80 (x : Nat) (a b d f p q : Int32) (o s u : Int64) : va_E := o_ 4 [.ref (x + 3), .ref (x + 74), .ref (x + 81), .ref (x + 95), .int a, .int b, .int d, .int f, .int p, .int q, .long o, .long s, .long u]
abbrev e81 (x n : Nat) : va_E := o_ 6 [.ref (x + 82), .int (nI n)]
abbrev e95 (x n : Nat) : va_E := o_ 6 [.ref (x + 96), .int (nI n)]
theorem nI_cli {h : Int32} (h0 : 0 ≤ h.toInt) : nI h.toNatClampNeg = h := by
  apply Int32.toInt_inj.mp
  have h1 := h.toInt_lt
  have h2 : h.toNatClampNeg = h.toInt.toNat := rfl
  rw [nI_toInt (by omega), h2]
  omega
theorem XC_ob {G : EnvG} {x tm r w n m n8 w8 k8 d8 m8 : Nat} {c : Cf} {a b d f g aq e xp xb : Int32} {ob sm un u8 : Int64} {F F8 G8 : Nat → Fl} {T : Nat × (Nat → Fl)} {p8 q8 : Nat → Nat} {Φ1 : Hm} (he : xp - xb = e) (hb : tm ≤ 1000000 ∧ 1 ≤ r ∧ r ≤ 1024) (hw : w8 < 2147483648) (h80 : Φ1 (x + 80) = some (e80 x (nI tm) (nI r) (nI w8) aq (xp + nI d8) xb (ob + (nI m).toInt64) (sm + (nI k8).toInt64) u8)) (h81 : Φ1 (x + 81) = some (e81 x n8)) (h95 : Φ1 (x + 95) = some (e95 x m8)) (hC : TbC G x n8 99 F8 p8 Φ1) (hT : TbT G x m8 99 G8 q8 Φ1) (h1 : tkI c (kyN a b d f) g.toInt64 tm r ((n, F, un), w, 0, 0) m = ((n8, F8, u8), w8, k8, d8)) (h2 : rmS (kyN a b d f) g.toInt64 m tm T = (m8, G8)) : ∃ z1 : XZ, XC G x z1 Φ1 ∧ ObR c a b d f g m (tm, r, w, aq, e, ob, sm, un, (n, F), T) z1 (nI k8) := by
  refine ⟨(tm, r, w8, aq, xp + nI d8 - xb, ob + (nI m).toInt64, sm + (nI k8).toInt64, u8, (n8, F8), (m8, G8)), ⟨xp + nI d8, xb, p8, q8, rfl, h80, h81, h95, hC, hT, hb.1, hb.2.1, hb.2.2, hw⟩, ⟨k8, d8, rfl, h1, h2, rfl, rfl, rfl, ?_, rfl, rfl⟩⟩
  show xp + nI d8 - xb = e + nI d8
  rw [← he]
  exact ex_1 _ _ _
theorem XC_av {G : EnvG} {x tm r w n n8 r8 d8 : Nat} {c : Cf} {a aq e xp xb e8 b8 : Int32} {ob sm un u8 : Int64} {F F8 : Nat → Fl} {T : Nat × (Nat → Fl)} {p8 pt : Nat → Nat} {Φ1 : Hm} (he : xp - xb = e) (ht : tm + a.toNatClampNeg ≤ 1000000) (hr : 1 ≤ r8 ∧ r8 ≤ 1024) (hw : w < 2147483648) (h80 : Φ1 (x + 80) = some (e80 x (nI (tm + a.toNatClampNeg)) (nI r8) (nI w) aq (xp + nI d8) b8 ob sm u8)) (h81 : Φ1 (x + 81) = some (e81 x n8)) (h95 : Φ1 (x + 95) = some (e95 x T.1)) (hC : TbC G x n8 99 F8 p8 Φ1) (hT : TbT G x T.1 99 T.2 pt Φ1) (h1 : tiI c aq tm ((n, F, un), r, xp - xb, 0) a.toNatClampNeg = ((n8, F8, u8), r8, e8, d8)) (h2 : xp + nI d8 - b8 = e8) : ∃ z1 : XZ, XC G x z1 Φ1 ∧ AvR c a (tm, r, w, aq, e, ob, sm, un, (n, F), T) z1 (nI d8) := by
  subst he
  exact ⟨(tm + a.toNatClampNeg, r8, w, aq, e8, ob, sm, u8, (n8, F8), T), ⟨xp + nI d8, b8, p8, pt, h2, h80, h81, h95, hC, hT, ht, hr.1, hr.2, hw⟩, ⟨d8, rfl, h1, rfl, rfl, rfl, rfl, rfl, rfl⟩⟩
theorem XC_fl {G : EnvG} {x tm r w n : Nat} {c : Cf} {aq e xp xb : Int32} {ob sm un u8 : Int64} {F F8 : Nat → Fl} {T : Nat × (Nat → Fl)} {p8 pt : Nat → Nat} {Φ1 : Hm} (he : xp - xb = e) (hb : zB (tm, r, w, aq, e, ob, sm, un, (n, F), T)) (h80 : Φ1 (x + 80) = some (e80 x (nI tm) (nI r) (nI w) aq (xp + nI n) xb ob sm u8)) (h81 : Φ1 (x + 81) = some (e81 x 0)) (h95 : Φ1 (x + 95) = some (e95 x T.1)) (hC : TbC G x 0 99 F8 p8 Φ1) (hT : TbT G x T.1 99 T.2 pt Φ1) (h1 : exI c (n, F, un) n = (0, F8, u8)) : ∃ z1 : XZ, XC G x z1 Φ1 ∧ FlR c (tm, r, w, aq, e, ob, sm, un, (n, F), T) z1 := by
  refine ⟨(tm, r, w, aq, xp + nI n - xb, ob, sm, u8, (0, F8), T), ⟨xp + nI n, xb, p8, pt, rfl, h80, h81, h95, hC, hT, hb.1, hb.2.1, hb.2.2.1, hb.2.2.2⟩, ⟨h1, rfl, rfl, rfl, rfl, rfl, ?_, rfl, rfl, rfl⟩⟩
  show xp + nI n - xb = e + nI n
  rw [← he]
  exact ex_1 _ _ _
theorem XC_sr {G : EnvG} {x tm r w n n8 r8 d8 : Nat} {c : Cf} {a aq e xp xb v8 : Int32} {ob sm un u8 : Int64} {F F8 : Nat → Fl} {T : Nat × (Nat → Fl)} {p8 pt : Nat → Nat} {Φ1 : Hm} (he : xp - xb = e) (hb : zB (tm, r, w, aq, e, ob, sm, un, (n, F), T)) (hr : 1 ≤ r8 ∧ r8 ≤ 1024) (h80 : Φ1 (x + 80) = some (e80 x (nI tm) (nI r8) (nI w) aq (xp + nI d8) xb ob sm u8)) (h81 : Φ1 (x + 81) = some (e81 x n8)) (h95 : Φ1 (x + 95) = some (e95 x T.1)) (hC : TbC G x n8 99 F8 p8 Φ1) (hT : TbT G x T.1 99 T.2 pt Φ1) (h1 : srS c a (n, F, un) r = (v8, (n8, F8, u8), r8, d8)) : ∃ z1 : XZ, XC G x z1 Φ1 ∧ SrR c a (tm, r, w, aq, e, ob, sm, un, (n, F), T) z1 v8 := by
  refine ⟨(tm, r8, w, aq, xp + nI d8 - xb, ob, sm, u8, (n8, F8), T), ⟨xp + nI d8, xb, p8, pt, rfl, h80, h81, h95, hC, hT, hb.1, hr.1, hr.2, hb.2.2.2⟩, ⟨d8, h1, rfl, rfl, rfl, ?_, rfl, rfl, rfl⟩⟩
  show xp + nI d8 - xb = e + nI d8
  rw [← he]
  exact ex_1 _ _ _

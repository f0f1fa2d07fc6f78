/-! PX=5: the exporter's whole state, as the law sees it: time, rate, draws, adaptive, exports of the interval, observed, sampled, unsent, flows, real keys; with the sender and the queue -/
abbrev XZ : Type := Nat × Nat × Nat × Int32 × Int32 × Int64 × Int64 × Int64 × (Nat × (Nat → Fl)) × (Nat × (Nat → Fl))
noncomputable def zB (z : XZ) : Prop := z.1 ≤ 1000000 ∧ 1 ≤ z.2.1 ∧ z.2.1 ≤ 1024 ∧ z.2.2.1 < 2147483648
abbrev YZ : Type := XZ × SN × QN
/-- m packets of a key are observed; k of them are sampled -/
noncomputable def ObY (c : Cf) (a b d f g : Int32) (m : Nat) (y y1 : YZ) (k : Int32) : Prop := ∃ (k1 d1 : Nat) (u1 : UN), k = nI k1 ∧ tkI c (kyN a b d f) g.toInt64 y.1.1 y.1.2.1 ((y.1.2.2.2.2.2.2.2.2.1.1, y.1.2.2.2.2.2.2.2.2.1.2, y.1.2.2.2.2.2.2.2.1, 0, fun _ => 0), y.1.2.2.1, 0, 0) m = ((y1.1.2.2.2.2.2.2.2.2.1.1, y1.1.2.2.2.2.2.2.2.2.1.2, u1), y1.1.2.2.1, k1, d1) ∧ u1.1 = y1.1.2.2.2.2.2.2.2.1 ∧ rmS (kyN a b d f) g.toInt64 m y.1.1 y.1.2.2.2.2.2.2.2.2.2 = y1.1.2.2.2.2.2.2.2.2.2 ∧ y1.1.1 = y.1.1 ∧ y1.1.2.1 = y.1.2.1 ∧ y1.1.2.2.2.1 = y.1.2.2.2.1 ∧ y1.1.2.2.2.2.1 = y.1.2.2.2.2.1 + nI d1 ∧ y1.1.2.2.2.2.2.1 = y.1.2.2.2.2.2.1 + (nI m).toInt64 ∧ y1.1.2.2.2.2.2.2.1 = y.1.2.2.2.2.2.2.1 + (nI k1).toInt64 ∧ spS c (nI y.1.1) u1.2.2 u1.2.1 y.2.1 y.2.2 = y1.2
theorem ObY_fun {c : Cf} {a b d f g k k2 : Int32} {m : Nat} {y y1 y2 : YZ} (h : ObY c a b d f g m y y1 k) (h2 : ObY c a b d f g m y y2 k2) : y1 = y2 ∧ k = k2 := by
  obtain ⟨⟨t1, r1, w1, q1, e1, o1, s1, u1, ⟨n1, F1⟩, T1⟩, Y1⟩ := y1
  obtain ⟨⟨t2, r2, w2, q2, e2, o2, s2, u2, ⟨n2, F2⟩, T2⟩, Y2⟩ := y2
  obtain ⟨k1, d1, v1, rfl, h3, hv, h4, h5, h6, h7, h8, h9, h10, hs⟩ := h
  obtain ⟨k3, d3, v2, rfl, g3, gv, g4, g5, g6, g7, g8, g9, g10, gs⟩ := h2
  obtain ⟨p1, p2⟩ := Prod.mk.inj (h3.symm.trans g3)
  obtain ⟨p3, p4⟩ := Prod.mk.inj p1
  obtain ⟨p5, p6⟩ := Prod.mk.inj p4
  obtain ⟨p7, p8⟩ := Prod.mk.inj p2
  obtain ⟨p9, p10⟩ := Prod.mk.inj p8
  dsimp only at hv gv h4 h5 h6 h7 h8 h9 h10 g4 g5 g6 g7 g8 g9 g10 hs gs p3 p5 p6 p7
  subst p3 p5 p6 p7 p9 p10
  have e4 := h4.symm.trans g4
  subst e4
  have e5 := hv.symm.trans gv
  subst e5
  have e6 := hs.symm.trans gs
  subst e6
  rw [h5, h6, h7, h8, h9, h10, g5, g6, g7, g8, g9, g10]
  exact ⟨rfl, rfl⟩
/-- ticks; k flows are exported -/
noncomputable def AvY (c : Cf) (a : Int32) (y y1 : YZ) (k : Int32) : Prop := ∃ d1 : Nat, k = nI d1 ∧ txI c y.1.2.2.2.1 y.1.1 (((y.1.2.2.2.2.2.2.2.2.1.1, y.1.2.2.2.2.2.2.2.2.1.2, y.1.2.2.2.2.2.2.2.1, 0, fun _ => 0), y.1.2.1, y.1.2.2.2.2.1, 0), y.2.1, y.2.2) a.toNatClampNeg = (((y1.1.2.2.2.2.2.2.2.2.1.1, y1.1.2.2.2.2.2.2.2.2.1.2, y1.1.2.2.2.2.2.2.2.1, 0, fun _ => 0), y1.1.2.1, y1.1.2.2.2.2.1, d1), y1.2.1, y1.2.2) ∧ y1.1.1 = y.1.1 + a.toNatClampNeg ∧ y1.1.2.2.1 = y.1.2.2.1 ∧ y1.1.2.2.2.1 = y.1.2.2.2.1 ∧ y1.1.2.2.2.2.2.1 = y.1.2.2.2.2.2.1 ∧ y1.1.2.2.2.2.2.2.1 = y.1.2.2.2.2.2.2.1 ∧ y1.1.2.2.2.2.2.2.2.2.2 = y.1.2.2.2.2.2.2.2.2.2
theorem AvY_fun {c : Cf} {a k k2 : Int32} {y y1 y2 : YZ} (h : AvY c a y y1 k) (h2 : AvY c a y y2 k2) : y1 = y2 ∧ k = k2 := by
  obtain ⟨⟨t1, r1, w1, q1, e1, o1, s1, u1, ⟨n1, F1⟩, T1⟩, S1, Q1⟩ := y1
  obtain ⟨⟨t2, r2, w2, q2, e2, o2, s2, u2, ⟨n2, F2⟩, T2⟩, S2, Q2⟩ := y2
  obtain ⟨d1, rfl, h3, h4, h5, h6, h7, h8, h9⟩ := h
  obtain ⟨d3, rfl, g3, g4, g5, g6, g7, g8, g9⟩ := h2
  obtain ⟨p1, p2⟩ := Prod.mk.inj (h3.symm.trans g3)
  obtain ⟨p3, p4⟩ := Prod.mk.inj p1
  obtain ⟨p5, p6⟩ := Prod.mk.inj p3
  obtain ⟨p7, p8⟩ := Prod.mk.inj p6
  obtain ⟨p9, -⟩ := Prod.mk.inj p8
  obtain ⟨p10, p11⟩ := Prod.mk.inj p4
  obtain ⟨p12, p13⟩ := Prod.mk.inj p11
  obtain ⟨p14, p15⟩ := Prod.mk.inj p2
  dsimp only at h4 h5 h6 h7 h8 h9 g4 g5 g6 g7 g8 g9 p5 p7 p9 p10 p12 p14 p15
  subst p5 p7 p9 p10 p12 p13 p14 p15
  rw [h4, h5, h6, h7, h8, h9, g4, g5, g6, g7, g8, g9]
  exact ⟨rfl, rfl⟩
/-- all flows are exported -/
noncomputable def FlY (c : Cf) (y y1 : YZ) : Prop := ∃ u1 : UN, exI c (y.1.2.2.2.2.2.2.2.2.1.1, y.1.2.2.2.2.2.2.2.2.1.2, y.1.2.2.2.2.2.2.2.1, 0, fun _ => 0) y.1.2.2.2.2.2.2.2.2.1.1 = (0, y1.1.2.2.2.2.2.2.2.2.1.2, u1) ∧ u1.1 = y1.1.2.2.2.2.2.2.2.1 ∧ y1.1.2.2.2.2.2.2.2.2.1.1 = 0 ∧ y1.1.1 = y.1.1 ∧ y1.1.2.1 = y.1.2.1 ∧ y1.1.2.2.1 = y.1.2.2.1 ∧ y1.1.2.2.2.1 = y.1.2.2.2.1 ∧ y1.1.2.2.2.2.1 = y.1.2.2.2.2.1 + nI y.1.2.2.2.2.2.2.2.2.1.1 ∧ y1.1.2.2.2.2.2.1 = y.1.2.2.2.2.2.1 ∧ y1.1.2.2.2.2.2.2.1 = y.1.2.2.2.2.2.2.1 ∧ y1.1.2.2.2.2.2.2.2.2.2 = y.1.2.2.2.2.2.2.2.2.2 ∧ spS c (nI y.1.1) u1.2.2 u1.2.1 y.2.1 y.2.2 = y1.2
theorem FlY_fun {c : Cf} {y y1 y2 : YZ} (h : FlY c y y1) (h2 : FlY c y y2) : y1 = y2 := by
  obtain ⟨⟨t1, r1, w1, q1, e1, o1, s1, u1, ⟨n1, F1⟩, T1⟩, Y1⟩ := y1
  obtain ⟨⟨t2, r2, w2, q2, e2, o2, s2, u2, ⟨n2, F2⟩, T2⟩, Y2⟩ := y2
  obtain ⟨v1, h3, hv, h4, h5, h6, h7, h8, h9, h10, h11, h12, hs⟩ := h
  obtain ⟨v2, g3, gv, g4, g5, g6, g7, g8, g9, g10, g11, g12, gs⟩ := h2
  obtain ⟨p1, p2⟩ := Prod.mk.inj (h3.symm.trans g3)
  obtain ⟨p3, p4⟩ := Prod.mk.inj p2
  dsimp only at hv gv h4 h5 h6 h7 h8 h9 h10 h11 h12 g4 g5 g6 g7 g8 g9 g10 g11 g12 hs gs p3 p4
  subst p3 p4
  have e5 := hv.symm.trans gv
  subst e5
  have e6 := hs.symm.trans gs
  subst e6
  rw [h4, h5, h6, h7, h8, h9, h10, h11, h12, g4, g5, g6, g7, g8, g9, g10, g11, g12]
/-- the rate is set; k is answered -/
noncomputable def SrY (c : Cf) (a : Int32) (y y1 : YZ) (k : Int32) : Prop := ∃ (d1 : Nat) (u1 : UN), srS c a (y.1.2.2.2.2.2.2.2.2.1.1, y.1.2.2.2.2.2.2.2.2.1.2, y.1.2.2.2.2.2.2.2.1, 0, fun _ => 0) y.1.2.1 = (k, (y1.1.2.2.2.2.2.2.2.2.1.1, y1.1.2.2.2.2.2.2.2.2.1.2, u1), y1.1.2.1, d1) ∧ u1.1 = y1.1.2.2.2.2.2.2.2.1 ∧ y1.1.1 = y.1.1 ∧ y1.1.2.2.1 = y.1.2.2.1 ∧ y1.1.2.2.2.1 = y.1.2.2.2.1 ∧ y1.1.2.2.2.2.1 = y.1.2.2.2.2.1 + nI d1 ∧ y1.1.2.2.2.2.2.1 = y.1.2.2.2.2.2.1 ∧ y1.1.2.2.2.2.2.2.1 = y.1.2.2.2.2.2.2.1 ∧ y1.1.2.2.2.2.2.2.2.2.2 = y.1.2.2.2.2.2.2.2.2.2 ∧ spS c (nI y.1.1) u1.2.2 u1.2.1 y.2.1 y.2.2 = y1.2
theorem SrY_fun {c : Cf} {a k k2 : Int32} {y y1 y2 : YZ} (h : SrY c a y y1 k) (h2 : SrY c a y y2 k2) : y1 = y2 ∧ k = k2 := by
  obtain ⟨⟨t1, r1, w1, q1, e1, o1, s1, u1, ⟨n1, F1⟩, T1⟩, Y1⟩ := y1
  obtain ⟨⟨t2, r2, w2, q2, e2, o2, s2, u2, ⟨n2, F2⟩, T2⟩, Y2⟩ := y2
  obtain ⟨d1, v1, h3, hv, h4, h5, h6, h7, h8, h9, h10, hs⟩ := h
  obtain ⟨d3, v2, g3, gv, g4, g5, g6, g7, g8, g9, g10, gs⟩ := h2
  obtain ⟨p0, p1⟩ := Prod.mk.inj (h3.symm.trans g3)
  obtain ⟨p2, p3⟩ := Prod.mk.inj p1
  obtain ⟨p4, p5⟩ := Prod.mk.inj p2
  obtain ⟨p6, p7⟩ := Prod.mk.inj p5
  obtain ⟨p8, p9⟩ := Prod.mk.inj p3
  dsimp only at hv gv h4 h5 h6 h7 h8 h9 h10 g4 g5 g6 g7 g8 g9 g10 hs gs p4 p6 p7 p8
  subst p0 p4 p6 p7 p8 p9
  have e5 := hv.symm.trans gv
  subst e5
  have e6 := hs.symm.trans gs
  subst e6
  rw [h4, h5, h6, h7, h8, h9, h10, g4, g5, g6, g7, g8, g9, g10]
  exact ⟨rfl, rfl⟩
/-- the class's cells for a state -/
noncomputable def XC (G : EnvG) (x : Nat) (z : XZ) (Φ : Hm) : Prop := ∃ (xp xb : Int32) (pp pt : Nat → Nat), xp - xb = z.2.2.2.2.1 ∧ Φ (x + 80) = some (o_ 4 [.ref (x + 3), .ref (x + 74), .ref (x + 81), .ref (x + 95), .int (nI z.1), .int (nI z.2.1), .int (nI z.2.2.1), .int z.2.2.2.1, .int xp, .int xb, .long z.2.2.2.2.2.1, .long z.2.2.2.2.2.2.1, .long z.2.2.2.2.2.2.2.1]) ∧ Φ (x + 81) = some (o_ 6 [.ref (x + 82), .int (nI z.2.2.2.2.2.2.2.2.1.1)]) ∧ Φ (x + 95) = some (o_ 6 [.ref (x + 96), .int (nI z.2.2.2.2.2.2.2.2.2.1)]) ∧ TbC G x z.2.2.2.2.2.2.2.2.1.1 99 z.2.2.2.2.2.2.2.2.1.2 pp Φ ∧ TbT G x z.2.2.2.2.2.2.2.2.2.1 99 z.2.2.2.2.2.2.2.2.2.2 pt Φ ∧ zB z
theorem XC.eq {G : EnvG} {x : Nat} {z : XZ} {Φ Φ1 : Hm} (h : XC G x z Φ) (e : ∀ j, 80 ≤ j → j < 121 → Φ1 (x + j) = Φ (x + j)) : XC G x z Φ1 := by
  obtain ⟨xp, xb, pp, pt, h0, h1, h2, h3, h4, h5, h6⟩ := h
  exact ⟨xp, xb, pp, pt, h0, (e 80 (by decide) (by decide)).trans h1, (e 81 (by decide) (by decide)).trans h2, (e 95 (by decide) (by decide)).trans h3, TbR.mv h4 (fun j q1 q2 _ => e j (by omega) (by omega)), TbR.mv h5 (fun j q1 q2 _ => e j (by omega) (by omega)), h6⟩
/-! a state out of what the calls tell -/
abbrev e80 (x : Nat) (a b d f p q : Int32) (o s u : Int64) : va_E := o_ 4 [.ref (x + 3), .ref (x + 74), .ref (x + 81), .ref (x + 95), .int a, .int b, .int d, .int f, .int p, .int q, .long o, .long s, .long u]
abbrev e81 (x n : Nat) : va_E := o_ 6 [.ref (x + 82), .int (nI n)]
abbrev e95 (x n : Nat) : va_E := o_ 6 [.ref (x + 96), .int (nI n)]
theorem nI_cli {h : Int32} (h0 : 0 ≤ h.toInt) : nI h.toNatClampNeg = h := by
  apply Int32.toInt_inj.mp
  have h1 := h.toInt_lt
  have h2 : h.toNatClampNeg = h.toInt.toNat := rfl
  rw [nI_toInt (by omega), h2]
  omega
/-- the class's sender and queue -/
noncomputable def SQ (G : EnvG) (x : Nat) (c : Cf) (sn : SN) (q : QN) (Φ : Hm) : Prop := SdP G x c sn uZ0 Φ ∧ ∃ p : Nat → Nat, QbR G x q.1 q.2.1 q.2.2 p Φ
theorem SQ.eq {G : EnvG} {x : Nat} {c : Cf} {sn : SN} {q : QN} {Φ Φ1 : Hm} (h : SQ G x c sn q Φ) (e : ∀ j, 46 ≤ j → j < 80 → Φ1 (x + j) = Φ (x + j)) : SQ G x c sn q Φ1 := by
  obtain ⟨h1, p, h2⟩ := h
  have hn := h2.le
  refine ⟨h1.mv (fun j hj => e j (by omega) (by omega)), p, h2.mv (e 46 (by decide) (by decide)) (e 47 (by decide) (by decide)) (fun j hj => ?_)⟩
  have hp := h2.lt (j := j) (by omega)
  exact e _ (by omega) (by omega)
theorem SQ.le {G : EnvG} {x : Nat} {c : Cf} {sn : SN} {q : QN} {Φ : Hm} (h : SQ G x c sn q Φ) : q.1 ≤ 12 := by
  obtain ⟨-, p, h2⟩ := h
  exact h2.le
theorem XY_ob {G : EnvG} {x m n8 w8 k8 d8 m8 : Nat} {a b d f g : Int32} {u8 : UN} {F8 G8 : Nat → Fl} {p8 q8 : Nat → Nat} {tm r w n : Nat} {c : Cf} {aq e xp xb : Int32} {ob sm un : Int64} {F : Nat → Fl} {T : Nat × (Nat → Fl)} {sn s8 : SN} {q : QN} {qn8 : Nat} {qL8 : Nat → Nat} {qd8 : Int32} {qp : Nat → Nat} {Φ1 : Hm} (he : xp - xb = e) (hb : tm ≤ 1000000 ∧ 1 ≤ r ∧ r ≤ 1024) (hw : w8 < 2147483648) (h80 : Φ1 (x + 80) = some (e80 x (nI tm) (nI r) (nI w8) aq (xp + nI d8) xb (ob + (nI m).toInt64) (sm + (nI k8).toInt64) u8.1)) (h81 : Φ1 (x + 81) = some (e81 x n8)) (h95 : Φ1 (x + 95) = some (e95 x m8)) (hC : TbC G x n8 99 F8 p8 Φ1) (hT : TbT G x m8 99 G8 q8 Φ1) (hS : SdP G x c s8 uZ0 Φ1) (hQ : QbR G x qn8 qL8 qd8 qp Φ1) (h1 : tkI c (kyN a b d f) g.toInt64 tm r ((n, F, un, 0, fun _ => 0), w, 0, 0) m = ((n8, F8, u8), w8, k8, d8)) (h2 : rmS (kyN a b d f) g.toInt64 m tm T = (m8, G8)) (h3 : spS c (nI tm) u8.2.2 u8.2.1 sn q = (s8, qn8, qL8, qd8)) : ∃ y1 : YZ, XC G x y1.1 Φ1 ∧ SQ G x c y1.2.1 y1.2.2 Φ1 ∧ ObY c a b d f g m ((tm, r, w, aq, e, ob, sm, un, (n, F), T), sn, q) y1 (nI k8) := by
  refine ⟨((tm, r, w8, aq, xp + nI d8 - xb, ob + (nI m).toInt64, sm + (nI k8).toInt64, u8.1, (n8, F8), (m8, G8)), s8, qn8, qL8, qd8), ⟨xp + nI d8, xb, p8, q8, rfl, h80, h81, h95, hC, hT, hb.1, hb.2.1, hb.2.2, hw⟩, ⟨hS, _, hQ⟩, ⟨k8, d8, u8, rfl, h1, rfl, h2, rfl, rfl, rfl, ?_, rfl, rfl, h3⟩⟩
  show xp + nI d8 - xb = e + nI d8
  rw [← he]
  exact ex_1 _ _ _
theorem XY_av {G : EnvG} {x n8 r8 d8 : Nat} {a e8 b8 : Int32} {u8 : UN} {F8 : Nat → Fl} {p8 pt : Nat → Nat} {tm r w n : Nat} {c : Cf} {aq e xp xb : Int32} {ob sm un : Int64} {F : Nat → Fl} {T : Nat × (Nat → Fl)} {sn s8 : SN} {q : QN} {qn8 : Nat} {qL8 : Nat → Nat} {qd8 : Int32} {qp : Nat → Nat} {Φ1 : Hm} (he : xp - xb = e) (ht : tm + a.toNatClampNeg ≤ 1000000) (hr : 1 ≤ r8 ∧ r8 ≤ 1024) (hw : w < 2147483648) (h80 : Φ1 (x + 80) = some (e80 x (nI (tm + a.toNatClampNeg)) (nI r8) (nI w) aq (xp + nI d8) b8 ob sm u8.1)) (h81 : Φ1 (x + 81) = some (e81 x n8)) (h95 : Φ1 (x + 95) = some (e95 x T.1)) (hC : TbC G x n8 99 F8 p8 Φ1) (hT : TbT G x T.1 99 T.2 pt Φ1) (hS : SdP G x c s8 u8 Φ1) (hQ : QbR G x qn8 qL8 qd8 qp Φ1) (h1 : txI c aq tm (((n, F, un, 0, fun _ => 0), r, xp - xb, 0), sn, q) a.toNatClampNeg = (((n8, F8, u8), r8, e8, d8), s8, qn8, qL8, qd8)) (h2 : xp + nI d8 - b8 = e8) (hu : u8 = uZ u8) : ∃ y1 : YZ, XC G x y1.1 Φ1 ∧ SQ G x c y1.2.1 y1.2.2 Φ1 ∧ AvY c a ((tm, r, w, aq, e, ob, sm, un, (n, F), T), sn, q) y1 (nI d8) := by
  subst he
  obtain ⟨ua, ub⟩ := u8
  have hub : ub = (0, fun _ => 0) := (Prod.mk.inj hu).2
  subst hub
  exact ⟨((tm + a.toNatClampNeg, r8, w, aq, e8, ob, sm, ua, (n8, F8), T), s8, qn8, qL8, qd8), ⟨xp + nI d8, b8, p8, pt, h2, h80, h81, h95, hC, hT, ht, hr.1, hr.2, hw⟩, ⟨SdP.eq0 rfl hS, _, hQ⟩, ⟨d8, rfl, h1, rfl, rfl, rfl, rfl, rfl, rfl⟩⟩
theorem XY_fl {G : EnvG} {x : Nat} {u8 : UN} {F8 : Nat → Fl} {p8 pt : Nat → Nat} {tm r w n : Nat} {c : Cf} {aq e xp xb : Int32} {ob sm un : Int64} {F : Nat → Fl} {T : Nat × (Nat → Fl)} {sn s8 : SN} {q : QN} {qn8 : Nat} {qL8 : Nat → Nat} {qd8 : Int32} {qp : Nat → Nat} {Φ1 : Hm} (he : xp - xb = e) (hb : zB (tm, r, w, aq, e, ob, sm, un, (n, F), T)) (h80 : Φ1 (x + 80) = some (e80 x (nI tm) (nI r) (nI w) aq (xp + nI n) xb ob sm u8.1)) (h81 : Φ1 (x + 81) = some (e81 x 0)) (h95 : Φ1 (x + 95) = some (e95 x T.1)) (hC : TbC G x 0 99 F8 p8 Φ1) (hT : TbT G x T.1 99 T.2 pt Φ1) (hS : SdP G x c s8 uZ0 Φ1) (hQ : QbR G x qn8 qL8 qd8 qp Φ1) (h1 : exI c (n, F, un, 0, fun _ => 0) n = (0, F8, u8)) (h3 : spS c (nI tm) u8.2.2 u8.2.1 sn q = (s8, qn8, qL8, qd8)) : ∃ y1 : YZ, XC G x y1.1 Φ1 ∧ SQ G x c y1.2.1 y1.2.2 Φ1 ∧ FlY c ((tm, r, w, aq, e, ob, sm, un, (n, F), T), sn, q) y1 := by
  refine ⟨((tm, r, w, aq, xp + nI n - xb, ob, sm, u8.1, (0, F8), T), s8, qn8, qL8, qd8), ⟨xp + nI n, xb, p8, pt, rfl, h80, h81, h95, hC, hT, hb.1, hb.2.1, hb.2.2.1, hb.2.2.2⟩, ⟨hS, _, hQ⟩, ⟨u8, h1, rfl, rfl, rfl, rfl, rfl, rfl, ?_, rfl, rfl, rfl, h3⟩⟩
  show xp + nI n - xb = e + nI n
  rw [← he]
  exact ex_1 _ _ _
theorem XY_sr {G : EnvG} {x n8 r8 d8 : Nat} {a v8 : Int32} {u8 : UN} {F8 : Nat → Fl} {p8 pt : Nat → Nat} {tm r w n : Nat} {c : Cf} {aq e xp xb : Int32} {ob sm un : Int64} {F : Nat → Fl} {T : Nat × (Nat → Fl)} {sn s8 : SN} {q : QN} {qn8 : Nat} {qL8 : Nat → Nat} {qd8 : Int32} {qp : Nat → Nat} {Φ1 : Hm} (he : xp - xb = e) (hb : zB (tm, r, w, aq, e, ob, sm, un, (n, F), T)) (hr : 1 ≤ r8 ∧ r8 ≤ 1024) (h80 : Φ1 (x + 80) = some (e80 x (nI tm) (nI r8) (nI w) aq (xp + nI d8) xb ob sm u8.1)) (h81 : Φ1 (x + 81) = some (e81 x n8)) (h95 : Φ1 (x + 95) = some (e95 x T.1)) (hC : TbC G x n8 99 F8 p8 Φ1) (hT : TbT G x T.1 99 T.2 pt Φ1) (hS : SdP G x c s8 uZ0 Φ1) (hQ : QbR G x qn8 qL8 qd8 qp Φ1) (h1 : srS c a (n, F, un, 0, fun _ => 0) r = (v8, (n8, F8, u8), r8, d8)) (h3 : spS c (nI tm) u8.2.2 u8.2.1 sn q = (s8, qn8, qL8, qd8)) : ∃ y1 : YZ, XC G x y1.1 Φ1 ∧ SQ G x c y1.2.1 y1.2.2 Φ1 ∧ SrY c a ((tm, r, w, aq, e, ob, sm, un, (n, F), T), sn, q) y1 v8 := by
  refine ⟨((tm, r8, w, aq, xp + nI d8 - xb, ob, sm, u8.1, (n8, F8), T), s8, qn8, qL8, qd8), ⟨xp + nI d8, xb, p8, pt, rfl, h80, h81, h95, hC, hT, hb.1, hr.1, hr.2, hb.2.2.2⟩, ⟨hS, _, hQ⟩, ⟨d8, u8, h1, rfl, rfl, rfl, rfl, ?_, rfl, rfl, rfl, h3⟩⟩
  show xp + nI d8 - xb = e + nI d8
  rw [← he]
  exact ex_1 _ _ _
/-! the queue's calls, as steps -/
/-- a message is taken out -/
noncomputable def LoR (a : Int32) (q q1 : QN) : Prop := (¬ InQ q.1 a ∧ q1 = q) ∨ (∃ u : Nat, u < q.1 ∧ a = nI u ∧ q1 = (q.1 - 1, rmL q.2.1 u, q.2.2))
theorem nI_i12 {u v n : Nat} (hn : n ≤ 12) (hu : u < n) (hv : v < n) (h : nI u = nI v) : u = v := (nI_eq (a := u) (b := v) (by omega) (by omega)).mp h
theorem LoR_fun {a : Int32} {q q1 q2 : QN} (hn : q.1 ≤ 12) (h : LoR a q q1) (h2 : LoR a q q2) : q1 = q2 := by
  rcases h with ⟨h3, rfl⟩ | ⟨u, h3, rfl, rfl⟩ <;> rcases h2 with ⟨g3, rfl⟩ | ⟨v, g3, g4, rfl⟩
  · rfl
  · subst g4
    exact absurd (InQ_i g3 hn) h3
  · exact absurd (InQ_i h3 hn) g3
  · have e := nI_i12 hn h3 g3 g4
    subst e
    rfl
/-- a message is doubled -/
noncomputable def DuR (a : Int32) (q q1 : QN) : Prop := (¬ InQ q.1 a ∧ q1 = q) ∨ (∃ u : Nat, u < q.1 ∧ a = nI u ∧ q1 = ((duQ q.1 q.2.1 u).1, (duQ q.1 q.2.1 u).2, q.2.2))
theorem DuR_fun {a : Int32} {q q1 q2 : QN} (hn : q.1 ≤ 12) (h : DuR a q q1) (h2 : DuR a q q2) : q1 = q2 := by
  rcases h with ⟨h3, rfl⟩ | ⟨u, h3, rfl, rfl⟩ <;> rcases h2 with ⟨g3, rfl⟩ | ⟨v, g3, g4, rfl⟩
  · rfl
  · subst g4
    exact absurd (InQ_i g3 hn) h3
  · exact absurd (InQ_i h3 hn) g3
  · have e := nI_i12 hn h3 g3 g4
    subst e
    rfl
/-- two messages change places -/
noncomputable def ExR (a b : Int32) (q q1 : QN) : Prop := (¬ (InQ q.1 a ∧ InQ q.1 b) ∧ q1 = q) ∨ (∃ u v : Nat, u < q.1 ∧ v < q.1 ∧ a = nI u ∧ b = nI v ∧ q1 = (q.1, exQ q.1 q.2.1 u v, q.2.2))
theorem ExR_fun {a b : Int32} {q q1 q2 : QN} (hn : q.1 ≤ 12) (h : ExR a b q q1) (h2 : ExR a b q q2) : q1 = q2 := by
  rcases h with ⟨h3, rfl⟩ | ⟨u, v, h3, h4, rfl, rfl, rfl⟩ <;> rcases h2 with ⟨g3, rfl⟩ | ⟨u2, v2, g3, g4, g5, g6, rfl⟩
  · rfl
  · subst g5
    subst g6
    exact absurd ⟨InQ_i g3 hn, InQ_i g4 hn⟩ h3
  · exact absurd ⟨InQ_i h3 hn, InQ_i h4 hn⟩ g3
  · have e := nI_i12 hn h3 g3 g5
    have e2 := nI_i12 hn h4 g4 g6
    subst e
    subst e2
    rfl
theorem du_enQ {n n9 u : Nat} {L L9 : Nat → Nat} {d d9 : Int32} {v : Option Value} (hn : n ≤ 12) (h : (n = 12 ∧ v = some (.int 0) ∧ (n, L, d) = (n9, L9, d9)) ∨ (¬ n = 12 ∧ v = some (.int 1) ∧ enQ (L u) (n, L, d) = (n9, L9, d9))) : v = some (.int (duB n)) ∧ (duB n = 0 ∨ duB n = 1) ∧ (n9, L9, d9) = ((duQ n L u).1, (duQ n L u).2, d) := by
  rcases h with ⟨h1, rfl, h3⟩ | ⟨h1, rfl, h3⟩
  · obtain ⟨e1, e2⟩ := duQ_y (L := L) (u := u) h1
    rw [← e1, e2, ← h3]
    exact ⟨rfl, Or.inl rfl, rfl⟩
  · obtain ⟨e1, e2⟩ := duQ_n (L := L) (u := u) h1
    rw [← e1, e2, ← h3, enQ_y (by omega)]
    exact ⟨rfl, Or.inr rfl, rfl⟩
/-- setSupport: which templates count as not sent -/
noncomputable def suX (c : Cf) (a b : Int32) (f : Nat → Int32) : Nat → Int32 := @ite (Nat → Int32) (InF a) (Classical.propDecidable _) (suS c a b f) f
theorem suX_y {c : Cf} {a b : Int32} {f : Nat → Int32} (h : InF a) : suX c a b f = suS c a b f := if_pos h
theorem suX_n {c : Cf} {a b : Int32} {f : Nat → Int32} (h : ¬ InF a) : suX c a b f = f := if_neg h
theorem suX_c {c : Cf} {a b : Int32} {f a8 : Nat → Int32} (hF : InF a) (h : (suV c a = b ∧ a8 = f) ∨ (¬ suV c a = b ∧ ∀ j9, j9 < 4 → a8 j9 = fgW c a f j9)) : ∀ j, j < 4 → a8 j = suX c a b f j := by
  intro j hj
  rw [suX_y hF]
  rcases h with ⟨h1, rfl⟩ | ⟨h1, h2⟩
  · rw [suS_e h1]
  · rw [h2 j hj]
    exact congrFun (if_neg h1).symm j
theorem duV_01 {c : Cf} {now : Int32} {s : SN} {u : Nat} : duV c now s u = 0 ∨ duV c now s u = 1 := by
  by_cases h : dueP c now s u
  · exact Or.inr (duV_y h)
  · exact Or.inl (duV_n h)
theorem du_val {c : Cf} {now : Int32} {s : SN} {u : Nat} {v : Option Value} (hu : u < 4) (h : (v = some (.int 1) ∧ dueP c now s u) ∨ (v = some (.int 0) ∧ ¬ dueP c now s u)) : v = some (.int (duV c now s (nI u).toNatClampNeg)) := by
  rw [nI_clamp (by omega)]
  rcases h with ⟨rfl, h2⟩ | ⟨rfl, h2⟩
  · rw [duV_y h2]
  · rw [duV_n h2]
theorem ex_val {n u v : Nat} {x : Option Value} {P Q : Prop} (hn : n ≤ 12) (hu : u < n) (hv : v < n) (h : (u = v ∧ x = some (.int 0) ∧ P) ∨ (¬ u = v ∧ x = some (.int 1) ∧ Q)) : x = some (.int (if nI u = nI v then (0 : Int32) else 1)) ∧ ((if nI u = nI v then (0 : Int32) else 1) = 0 ∨ (if nI u = nI v then (0 : Int32) else 1) = 1) ∧ ((u = v ∧ P) ∨ (¬ u = v ∧ Q)) := by
  rcases h with ⟨h1, rfl, h3⟩ | ⟨h1, rfl, h3⟩
  · subst h1
    rw [if_pos rfl]
    exact ⟨rfl, Or.inl rfl, Or.inl ⟨rfl, h3⟩⟩
  · have e : ¬ nI u = nI v := fun q => h1 (nI_i12 hn hu hv q)
    rw [if_neg e]
    exact ⟨rfl, Or.inr rfl, Or.inr ⟨h1, h3⟩⟩
theorem AnsR_01 {C1 C2 : Prop} {v r k : Int32} (h : AnsR C1 C2 v.toInt64 k r.toInt64) (hv : v = 0 ∨ v = 1) (hk : k = 0) : r = 0 ∨ r = 1 := by
  rcases h with ⟨-, -, -, e⟩ | ⟨-, e⟩ | ⟨-, -, e⟩
  · have e2 : r = v := by
      have e3 := congrArg Int64.toInt32 e
      rw [Int32.toInt32_toInt64, Int32.toInt32_toInt64] at e3
      exact e3
    rw [e2]
    exact hv
  · subst hk
    exact absurd e (by decide)
  · subst hk
    exact absurd e (by decide)

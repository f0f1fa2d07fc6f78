theorem dX12_inRange_0 : decode cX12_inRange 0 = .ok (.lload_n 0, 1) := by decide +kernel
theorem dX12_inRange_1 : decode cX12_inRange 1 = .ok (.lload_n 2, 1) := by decide +kernel
theorem dX12_inRange_2 : decode cX12_inRange 2 = .ok (.lcmp, 1) := by decide +kernel
theorem dX12_inRange_3 : decode cX12_inRange 3 = .ok (.ifCond .lt 14, 3) := by decide +kernel
theorem dX12_inRange_6 : decode cX12_inRange 6 = .ok (.lload_n 0, 1) := by decide +kernel
theorem dX12_inRange_7 : decode cX12_inRange 7 = .ok (.lload 4, 2) := by decide +kernel
theorem dX12_inRange_9 : decode cX12_inRange 9 = .ok (.lcmp, 1) := by decide +kernel
theorem dX12_inRange_10 : decode cX12_inRange 10 = .ok (.ifCond .gt 7, 3) := by decide +kernel
theorem dX12_inRange_13 : decode cX12_inRange 13 = .ok (.iconst 1, 1) := by decide +kernel
theorem dX12_inRange_14 : decode cX12_inRange 14 = .ok (.goto 4, 3) := by decide +kernel
theorem dX12_inRange_17 : decode cX12_inRange 17 = .ok (.iconst 0, 1) := by decide +kernel
theorem dX12_inRange_18 : decode cX12_inRange 18 = .ok (.ireturn, 1) := by decide +kernel
/-! the shape of the reference at x: the object and its 25 rows; T: what is told of the rows read and now, flows, pending, length, next, inputLength, kind, errorCode -/
abbrev MT : Type := ((Nat → Int32) → Prop) × ((Nat → Int32) → Prop) × ((Nat → Int64) → Prop) × ((Nat → Int32) → Prop) × ((Nat → Int64) → Prop) × ((Nat → Int32) → Prop) × ((Nat → Int32) → Prop) × ((Nat → Int32) → Prop) × ((Nat → Int32) → Prop) × Nat × Nat × Nat × Nat × Nat × Nat × Int32 × Int32 × Int32 × Int64 × Nat × Int32 × Int32 × Int32 × Int64 × Int32 × Nat × Int32 × Int64 × Int64 × Nat × Int32 × Int32 × Int32 × Int64 × Int64
abbrev M0 (x : Nat) (fl : Nat) (pe : Nat) (le : Nat) (nx : Nat) (il : Nat) (qu : Nat) (kn : Int32) (ec : Int32) (nu : Int32) (va : Int64) (st : Nat) (ep : Int32) (ti : Int32) (ad : Int32) (ob : Int64) (ra : Int32) (rt : Nat) (ex : Int32) (sa : Int64) (us : Int64) (tk : Nat) (th : Int32) (me : Int32) (dr : Int32) (se : Int64) (sn : Int64) (e : Option va_E) : Prop := ∃ (lc : Nat) (xp : Int64) (ks : Nat), e = some (o_ 14 [.int th, .ref (x + 1), .ref (x + 2), .int ti, .int ra, .int (nI rt), .int ex, .int ad, .ref (x + 3), .ref (x + 4), .int me, .long se, .ref (x + 5), .int (nI fl), .int dr, .long ob, .long sa, .long sn, .long us, .ref (x + 6), .ref (x + 7), .int (nI pe), .ref (x + 8), .int (nI le), .ref (x + 9), .ref (x + 10), .int (nI qu), .ref (x + 11), .ref (x + 12), .ref (x + 13), .ref (x + 14), .ref (x + 15), .ref (x + 16), .int (nI lc), .long xp, .ref (x + 17), .ref (x + 18), .ref (x + 19), .ref (x + 20), .ref (x + 21), .ref (x + 22), .int (nI ks), .ref (x + 23), .ref (x + 24), .int (nI tk), .ref (x + 25), .int (nI il), .int (nI nx), .int ec, .int ep, .int kn, .int (nI st), .int nu, .long va]) ∧ (ad = 0 ∨ ad = 1) ∧ 1 ≤ rt ∧ rt ≤ 1024 ∧ fl ≤ 12 ∧ pe ≤ 24 ∧ le ≤ 700 ∧ qu ≤ 12 ∧ lc ≤ 8 ∧ ks ≤ 24 ∧ tk ≤ 24 ∧ il ≤ 700 ∧ nx ≤ 701 ∧ st ≤ 701
noncomputable def Rw (B : Nat) (f : Nat → Int32) : Prop := ∀ j, ∃ n : Nat, n ≤ B ∧ f j = nI n
noncomputable def CC (f : Nat → Int64) : Prop := ∀ j, j < 12 → ∃ n : Nat, n ≤ 255 ∧ f (8 * j + 3) = Int64.ofNat n
abbrev MR3 (G : EnvG) (cr : (Nat → Int64) → Prop) (tp : (Nat → Int32) → Prop) (tt : (Nat → Int64) → Prop) (sI : (Nat → Int32) → Prop) (sT : (Nat → Int32) → Prop) (pt : (Nat → Int32) → Prop) (ql : (Nat → Int32) → Prop) (k : Nat) (e : Option va_E) : Prop := match k with
  | 0 => ∃ f : Nat → Int32, e = some (ai_ G 4 f) ∧ sI f
  | 1 => ∃ f : Nat → Int32, e = some (ai_ G 4 f) ∧ sT f
  | 2 => ∃ f : Nat → Int64, e = some (al_ G 96 f) ∧ CC f ∧ cr f
  | 3 => ∃ f : Nat → Int32, e = some (ai_ G 24 f) ∧ Rw 3 f ∧ pt f
  | 4 => ∃ f : Nat → Int32, e = some (ai_ G 720 f)
  | 5 => ∃ f : Nat → Int32, e = some (ai_ G 700 f) ∧ Rw 255 f
  | 6 => ∃ f : Nat → Int32, e = some (ai_ G 7200 f) ∧ Rw 255 f
  | 7 => ∃ f : Nat → Int32, e = some (ai_ G 12 f) ∧ Rw 600 f ∧ ql f
  | 8 => ∃ f : Nat → Int64, e = some (al_ G 9 f)
  | 9 => ∃ f : Nat → Int32, e = some (ai_ G 4 f) ∧ Rw 9 f
  | 10 => ∃ f : Nat → Int32, e = some (ai_ G 36 f) ∧ Rw 8 f
  | 11 => ∃ f : Nat → Int32, e = some (ai_ G 4 f)
  | 12 => ∃ f : Nat → Int64, e = some (al_ G 8 f)
  | 13 => ∃ f : Nat → Int64, e = some (al_ G 8 f)
  | 14 => ∃ f : Nat → Int32, e = some (ai_ G 9 f) ∧ Rw 8 f
  | 15 => ∃ f : Nat → Int64, e = some (al_ G 9 f) ∧ 0 ≤ f 4
  | 16 => ∃ f : Nat → Int32, e = some (ai_ G 96 f)
  | 17 => ∃ f : Nat → Int64, e = some (al_ G 48 f)
  | 18 => ∃ f : Nat → Int64, e = some (al_ G 48 f)
  | 19 => ∃ f : Nat → UInt64, e = some (ad_ G 48 f) ∧ ∀ j, pd64 (f j)
  | 20 => ∃ f : Nat → Int32, e = some (ai_ G 96 f) ∧ tp f
  | 21 => ∃ f : Nat → Int64, e = some (al_ G 48 f) ∧ tt f
  | 22 => ∃ f : Nat → Int32, e = some (ab_ G 700 f) ∧ ∀ j, fits .byte (.int (f j)) = true
  | _ => True
abbrev MR (G : EnvG) (rd nw : (Nat → Int32) → Prop) (cr : (Nat → Int64) → Prop) (tp : (Nat → Int32) → Prop) (tt : (Nat → Int64) → Prop) (sI : (Nat → Int32) → Prop) (sT : (Nat → Int32) → Prop) (pt : (Nat → Int32) → Prop) (ql : (Nat → Int32) → Prop) (k : Nat) (e : Option va_E) : Prop := match k with
  | 0 => True
  | 1 => ∃ f : Nat → Int32, e = some (ai_ G 307 f) ∧ rd f
  | 2 => ∃ f : Nat → Int32, e = some (ai_ G 307 f) ∧ nw f
  | k + 3 => MR3 G cr tp tt sI sT pt ql k e
noncomputable def Im (G : EnvG) (x : Nat) (T : MT) (Φ : Hm) : Prop := M0 x T.2.2.2.2.2.2.2.2.2.1 T.2.2.2.2.2.2.2.2.2.2.1 T.2.2.2.2.2.2.2.2.2.2.2.1 T.2.2.2.2.2.2.2.2.2.2.2.2.1 T.2.2.2.2.2.2.2.2.2.2.2.2.2.1 T.2.2.2.2.2.2.2.2.2.2.2.2.2.2.1 T.2.2.2.2.2.2.2.2.2.2.2.2.2.2.2.1 T.2.2.2.2.2.2.2.2.2.2.2.2.2.2.2.2.1 T.2.2.2.2.2.2.2.2.2.2.2.2.2.2.2.2.2.1 T.2.2.2.2.2.2.2.2.2.2.2.2.2.2.2.2.2.2.1 T.2.2.2.2.2.2.2.2.2.2.2.2.2.2.2.2.2.2.2.1 T.2.2.2.2.2.2.2.2.2.2.2.2.2.2.2.2.2.2.2.2.1 T.2.2.2.2.2.2.2.2.2.2.2.2.2.2.2.2.2.2.2.2.2.1 T.2.2.2.2.2.2.2.2.2.2.2.2.2.2.2.2.2.2.2.2.2.2.1 T.2.2.2.2.2.2.2.2.2.2.2.2.2.2.2.2.2.2.2.2.2.2.2.1 T.2.2.2.2.2.2.2.2.2.2.2.2.2.2.2.2.2.2.2.2.2.2.2.2.1 T.2.2.2.2.2.2.2.2.2.2.2.2.2.2.2.2.2.2.2.2.2.2.2.2.2.1 T.2.2.2.2.2.2.2.2.2.2.2.2.2.2.2.2.2.2.2.2.2.2.2.2.2.2.1 T.2.2.2.2.2.2.2.2.2.2.2.2.2.2.2.2.2.2.2.2.2.2.2.2.2.2.2.1 T.2.2.2.2.2.2.2.2.2.2.2.2.2.2.2.2.2.2.2.2.2.2.2.2.2.2.2.2.1 T.2.2.2.2.2.2.2.2.2.2.2.2.2.2.2.2.2.2.2.2.2.2.2.2.2.2.2.2.2.1 T.2.2.2.2.2.2.2.2.2.2.2.2.2.2.2.2.2.2.2.2.2.2.2.2.2.2.2.2.2.2.1 T.2.2.2.2.2.2.2.2.2.2.2.2.2.2.2.2.2.2.2.2.2.2.2.2.2.2.2.2.2.2.2.1 T.2.2.2.2.2.2.2.2.2.2.2.2.2.2.2.2.2.2.2.2.2.2.2.2.2.2.2.2.2.2.2.2.1 T.2.2.2.2.2.2.2.2.2.2.2.2.2.2.2.2.2.2.2.2.2.2.2.2.2.2.2.2.2.2.2.2.2.1 T.2.2.2.2.2.2.2.2.2.2.2.2.2.2.2.2.2.2.2.2.2.2.2.2.2.2.2.2.2.2.2.2.2.2 (Φ x) ∧ ∀ k, 1 ≤ k → k < 26 → MR G T.1 T.2.1 T.2.2.1 T.2.2.2.1 T.2.2.2.2.1 T.2.2.2.2.2.1 T.2.2.2.2.2.2.1 T.2.2.2.2.2.2.2.1 T.2.2.2.2.2.2.2.2.1 k (Φ (x + k))
theorem im0 {G : EnvG} {x : Nat} {rd nw : (Nat → Int32) → Prop} {fl pe le nx il qu : Nat} {kn ec nu : Int32} {va : Int64} {st : Nat} {ep : Int32} {ti ad : Int32} {ob : Int64} {cr tt : (Nat → Int64) → Prop} {tp : (Nat → Int32) → Prop} {ra ex th : Int32} {rt tk : Nat} {sa us : Int64} {sI sT pt ql : (Nat → Int32) → Prop} {me dr : Int32} {se sn : Int64} {Φ : Hm} (h : Im G x (rd, nw, cr, tp, tt, sI, sT, pt, ql, fl, pe, le, nx, il, qu, kn, ec, nu, va, st, ep, ti, ad, ob, ra, rt, ex, sa, us, tk, th, me, dr, se, sn) Φ) : M0 x fl pe le nx il qu kn ec nu va st ep ti ad ob ra rt ex sa us tk th me dr se sn (Φ x) := h.1
theorem imk {G : EnvG} {x : Nat} {rd nw : (Nat → Int32) → Prop} {fl pe le nx il qu : Nat} {kn ec nu : Int32} {va : Int64} {st : Nat} {ep : Int32} {ti ad : Int32} {ob : Int64} {cr tt : (Nat → Int64) → Prop} {tp : (Nat → Int32) → Prop} {ra ex th : Int32} {rt tk : Nat} {sa us : Int64} {sI sT pt ql : (Nat → Int32) → Prop} {me dr : Int32} {se sn : Int64} {Φ : Hm} {k : Nat} (h : Im G x (rd, nw, cr, tp, tt, sI, sT, pt, ql, fl, pe, le, nx, il, qu, kn, ec, nu, va, st, ep, ti, ad, ob, ra, rt, ex, sa, us, tk, th, me, dr, se, sn) Φ) (h1 : 1 ≤ k := by decide) (h2 : k < 26 := by decide) : MR G rd nw cr tp tt sI sT pt ql k (Φ (x + k)) := h.2 k h1 h2
theorem Im.put0 {G : EnvG} {x : Nat} {rd nw : (Nat → Int32) → Prop} {fl pe le nx il qu : Nat} {kn ec nu : Int32} {va : Int64} {st : Nat} {ep : Int32} {ti ad : Int32} {ob : Int64} {cr tt : (Nat → Int64) → Prop} {tp : (Nat → Int32) → Prop} {ra ex th : Int32} {rt tk : Nat} {sa us : Int64} {sI sT pt ql : (Nat → Int32) → Prop} {me dr : Int32} {se sn : Int64} {Φ Φ1 : Hm} {fl1 pe1 le1 nx1 il1 qu1 : Nat} {kn1 ec1 nu1 : Int32} {va1 : Int64} {st1 : Nat} {ep1 : Int32} {ti1 ad1 : Int32} {ob1 : Int64} {ra1 ex1 th1 : Int32} {rt1 tk1 : Nat} {sa1 us1 : Int64} {me1 dr1 : Int32} {se1 sn1 : Int64} {e : va_E} (h : Im G x (rd, nw, cr, tp, tt, sI, sT, pt, ql, fl, pe, le, nx, il, qu, kn, ec, nu, va, st, ep, ti, ad, ob, ra, rt, ex, sa, us, tk, th, me, dr, se, sn) Φ) (h1 : Φ1 = fset Φ x e) (ho : M0 x fl1 pe1 le1 nx1 il1 qu1 kn1 ec1 nu1 va1 st1 ep1 ti1 ad1 ob1 ra1 rt1 ex1 sa1 us1 tk1 th1 me1 dr1 se1 sn1 (some e)) : Im G x (rd, nw, cr, tp, tt, sI, sT, pt, ql, fl1, pe1, le1, nx1, il1, qu1, kn1, ec1, nu1, va1, st1, ep1, ti1, ad1, ob1, ra1, rt1, ex1, sa1, us1, tk1, th1, me1, dr1, se1, sn1) Φ1 := by
  refine ⟨?_, fun j h2 h3 => ?_⟩
  · rw [h1, fset_eq]
    exact ho
  · rw [h1, fset_ne (by omega)]
    exact h.2 j h2 h3
theorem Im.putk {G : EnvG} {x : Nat} {rd nw : (Nat → Int32) → Prop} {fl pe le nx il qu : Nat} {kn ec nu : Int32} {va : Int64} {st : Nat} {ep : Int32} {ti ad : Int32} {ob : Int64} {cr tt : (Nat → Int64) → Prop} {tp : (Nat → Int32) → Prop} {ra ex th : Int32} {rt tk : Nat} {sa us : Int64} {sI sT pt ql : (Nat → Int32) → Prop} {me dr : Int32} {se sn : Int64} {Φ Φ1 : Hm} {rd1 nw1 : (Nat → Int32) → Prop} {k : Nat} {e : va_E} (h : Im G x (rd, nw, cr, tp, tt, sI, sT, pt, ql, fl, pe, le, nx, il, qu, kn, ec, nu, va, st, ep, ti, ad, ob, ra, rt, ex, sa, us, tk, th, me, dr, se, sn) Φ) (hk : 1 ≤ k) (h1 : Φ1 = fset Φ (x + k) e) (ho : MR G rd1 nw1 cr tp tt sI sT pt ql k (some e)) (hr : ∀ j e, 1 ≤ j → j ≠ k → MR G rd nw cr tp tt sI sT pt ql j e → MR G rd1 nw1 cr tp tt sI sT pt ql j e) : Im G x (rd1, nw1, cr, tp, tt, sI, sT, pt, ql, fl, pe, le, nx, il, qu, kn, ec, nu, va, st, ep, ti, ad, ob, ra, rt, ex, sa, us, tk, th, me, dr, se, sn) Φ1 := by
  refine ⟨?_, fun j h2 h3 => ?_⟩
  · rw [h1, fset_ne (by omega)]
    exact h.1
  · by_cases hj : j = k
    · subst hj
      rw [h1, fset_eq]
      exact ho
    · rw [h1, fset_ne (by omega)]
      exact hr j _ h2 hj (h.2 j h2 h3)
theorem Im.put {G : EnvG} {x : Nat} {rd nw : (Nat → Int32) → Prop} {fl pe le nx il qu : Nat} {kn ec nu : Int32} {va : Int64} {st : Nat} {ep : Int32} {ti ad : Int32} {ob : Int64} {cr tt : (Nat → Int64) → Prop} {tp : (Nat → Int32) → Prop} {ra ex th : Int32} {rt tk : Nat} {sa us : Int64} {sI sT pt ql : (Nat → Int32) → Prop} {me dr : Int32} {se sn : Int64} {Φ Φ1 : Hm} {k : Nat} {e : va_E} (h : Im G x (rd, nw, cr, tp, tt, sI, sT, pt, ql, fl, pe, le, nx, il, qu, kn, ec, nu, va, st, ep, ti, ad, ob, ra, rt, ex, sa, us, tk, th, me, dr, se, sn) Φ) (h1 : Φ1 = fset Φ (x + k) e) (ho : MR G rd nw cr tp tt sI sT pt ql k (some e)) (hk : 1 ≤ k := by decide) : Im G x (rd, nw, cr, tp, tt, sI, sT, pt, ql, fl, pe, le, nx, il, qu, kn, ec, nu, va, st, ep, ti, ad, ob, ra, rt, ex, sa, us, tk, th, me, dr, se, sn) Φ1 := Im.putk h hk h1 ho (fun _ _ _ _ q => q)
theorem Im.put1 {G : EnvG} {x : Nat} {rd nw : (Nat → Int32) → Prop} {fl pe le nx il qu : Nat} {kn ec nu : Int32} {va : Int64} {st : Nat} {ep : Int32} {ti ad : Int32} {ob : Int64} {cr tt : (Nat → Int64) → Prop} {tp : (Nat → Int32) → Prop} {ra ex th : Int32} {rt tk : Nat} {sa us : Int64} {sI sT pt ql : (Nat → Int32) → Prop} {me dr : Int32} {se sn : Int64} {Φ Φ1 : Hm} {rd1 : (Nat → Int32) → Prop} {f : Nat → Int32} (h : Im G x (rd, nw, cr, tp, tt, sI, sT, pt, ql, fl, pe, le, nx, il, qu, kn, ec, nu, va, st, ep, ti, ad, ob, ra, rt, ex, sa, us, tk, th, me, dr, se, sn) Φ) (h1 : Φ1 = fset Φ (x + 1) (ai_ G 307 f)) (hf : rd1 f) : Im G x (rd1, nw, cr, tp, tt, sI, sT, pt, ql, fl, pe, le, nx, il, qu, kn, ec, nu, va, st, ep, ti, ad, ob, ra, rt, ex, sa, us, tk, th, me, dr, se, sn) Φ1 := by
  refine Im.putk h (by decide) h1 ⟨f, rfl, hf⟩ (fun j e h2 h3 q => ?_)
  match j, h2, h3, q with
  | 1, _, h3, _ => exact absurd rfl h3
  | 2, _, _, q => exact q
  | j + 3, _, _, q => exact q
theorem Im.put2 {G : EnvG} {x : Nat} {rd nw : (Nat → Int32) → Prop} {fl pe le nx il qu : Nat} {kn ec nu : Int32} {va : Int64} {st : Nat} {ep : Int32} {ti ad : Int32} {ob : Int64} {cr tt : (Nat → Int64) → Prop} {tp : (Nat → Int32) → Prop} {ra ex th : Int32} {rt tk : Nat} {sa us : Int64} {sI sT pt ql : (Nat → Int32) → Prop} {me dr : Int32} {se sn : Int64} {Φ Φ1 : Hm} {nw1 : (Nat → Int32) → Prop} {f : Nat → Int32} (h : Im G x (rd, nw, cr, tp, tt, sI, sT, pt, ql, fl, pe, le, nx, il, qu, kn, ec, nu, va, st, ep, ti, ad, ob, ra, rt, ex, sa, us, tk, th, me, dr, se, sn) Φ) (h1 : Φ1 = fset Φ (x + 2) (ai_ G 307 f)) (hf : nw1 f) : Im G x (rd, nw1, cr, tp, tt, sI, sT, pt, ql, fl, pe, le, nx, il, qu, kn, ec, nu, va, st, ep, ti, ad, ob, ra, rt, ex, sa, us, tk, th, me, dr, se, sn) Φ1 := by
  refine Im.putk h (by decide) h1 ⟨f, rfl, hf⟩ (fun j e h2 h3 q => ?_)
  match j, h2, h3, q with
  | 1, _, _, q => exact q
  | 2, _, h3, _ => exact absurd rfl h3
  | j + 3, _, _, q => exact q
/-- another word for the rows read and now -/
theorem Im.weak {G : EnvG} {x : Nat} {rd nw : (Nat → Int32) → Prop} {fl pe le nx il qu : Nat} {kn ec nu : Int32} {va : Int64} {st : Nat} {ep : Int32} {ti ad : Int32} {ob : Int64} {cr tt : (Nat → Int64) → Prop} {tp : (Nat → Int32) → Prop} {ra ex th : Int32} {rt tk : Nat} {sa us : Int64} {sI sT pt ql : (Nat → Int32) → Prop} {me dr : Int32} {se sn : Int64} {Φ : Hm} {rd1 nw1 : (Nat → Int32) → Prop} (h : Im G x (rd, nw, cr, tp, tt, sI, sT, pt, ql, fl, pe, le, nx, il, qu, kn, ec, nu, va, st, ep, ti, ad, ob, ra, rt, ex, sa, us, tk, th, me, dr, se, sn) Φ) (h1 : ∀ f, rd f → rd1 f) (h2 : ∀ f, nw f → nw1 f) : Im G x (rd1, nw1, cr, tp, tt, sI, sT, pt, ql, fl, pe, le, nx, il, qu, kn, ec, nu, va, st, ep, ti, ad, ob, ra, rt, ex, sa, us, tk, th, me, dr, se, sn) Φ := by
  refine ⟨h.1, fun j h3 h4 => ?_⟩
  have h5 := h.2 j h3 h4
  match j, h3, h5 with
  | 1, _, q => obtain ⟨f, a, b⟩ := q; exact ⟨f, a, h1 f b⟩
  | 2, _, q => obtain ⟨f, a, b⟩ := q; exact ⟨f, a, h2 f b⟩
  | j + 3, _, q => exact q
theorem Im.put5 {G : EnvG} {x : Nat} {rd nw : (Nat → Int32) → Prop} {fl pe le nx il qu : Nat} {kn ec nu : Int32} {va : Int64} {st : Nat} {ep : Int32} {ti ad : Int32} {ob : Int64} {cr tt : (Nat → Int64) → Prop} {tp : (Nat → Int32) → Prop} {ra ex th : Int32} {rt tk : Nat} {sa us : Int64} {sI sT pt ql : (Nat → Int32) → Prop} {me dr : Int32} {se sn : Int64} {Φ Φ1 : Hm} {cr1 : (Nat → Int64) → Prop} {f : Nat → Int64} (h : Im G x (rd, nw, cr, tp, tt, sI, sT, pt, ql, fl, pe, le, nx, il, qu, kn, ec, nu, va, st, ep, ti, ad, ob, ra, rt, ex, sa, us, tk, th, me, dr, se, sn) Φ) (h1 : Φ1 = fset Φ (x + 5) (al_ G 96 f)) (hc : CC f) (hf : cr1 f) : Im G x (rd, nw, cr1, tp, tt, sI, sT, pt, ql, fl, pe, le, nx, il, qu, kn, ec, nu, va, st, ep, ti, ad, ob, ra, rt, ex, sa, us, tk, th, me, dr, se, sn) Φ1 := by
  refine ⟨?_, fun j h2 h4 => ?_⟩
  · rw [h1, fset_ne (by omega)]
    exact h.1
  · by_cases hj : j = 5
    · subst hj
      rw [h1, fset_eq]
      exact ⟨f, rfl, hc, hf⟩
    · have q := h.2 j h2 h4
      rw [h1, fset_ne (by omega)]
      have h3 := hj
      clear h1
      revert q h3
      match j, h2, h4 with
      | 1, _, _ => intro q _; exact q
      | 2, _, _ => intro q _; exact q
      | 3, _, _ => intro q _; exact q
      | 4, _, _ => intro q _; exact q
      | 5, _, _ => intro _ h3; exact absurd rfl h3
      | 6, _, _ => intro q _; exact q
      | 7, _, _ => intro q _; exact q
      | 8, _, _ => intro q _; exact q
      | 9, _, _ => intro q _; exact q
      | 10, _, _ => intro q _; exact q
      | 11, _, _ => intro q _; exact q
      | 12, _, _ => intro q _; exact q
      | 13, _, _ => intro q _; exact q
      | 14, _, _ => intro q _; exact q
      | 15, _, _ => intro q _; exact q
      | 16, _, _ => intro q _; exact q
      | 17, _, _ => intro q _; exact q
      | 18, _, _ => intro q _; exact q
      | 19, _, _ => intro q _; exact q
      | 20, _, _ => intro q _; exact q
      | 21, _, _ => intro q _; exact q
      | 22, _, _ => intro q _; exact q
      | 23, _, _ => intro q _; exact q
      | 24, _, _ => intro q _; exact q
      | 25, _, _ => intro q _; exact q
      | j + 26, _, h4 => omega
theorem Im.put23 {G : EnvG} {x : Nat} {rd nw : (Nat → Int32) → Prop} {fl pe le nx il qu : Nat} {kn ec nu : Int32} {va : Int64} {st : Nat} {ep : Int32} {ti ad : Int32} {ob : Int64} {cr tt : (Nat → Int64) → Prop} {tp : (Nat → Int32) → Prop} {ra ex th : Int32} {rt tk : Nat} {sa us : Int64} {sI sT pt ql : (Nat → Int32) → Prop} {me dr : Int32} {se sn : Int64} {Φ Φ1 : Hm} {tp1 : (Nat → Int32) → Prop} {f : Nat → Int32} (h : Im G x (rd, nw, cr, tp, tt, sI, sT, pt, ql, fl, pe, le, nx, il, qu, kn, ec, nu, va, st, ep, ti, ad, ob, ra, rt, ex, sa, us, tk, th, me, dr, se, sn) Φ) (h1 : Φ1 = fset Φ (x + 23) (ai_ G 96 f)) (hf : tp1 f) : Im G x (rd, nw, cr, tp1, tt, sI, sT, pt, ql, fl, pe, le, nx, il, qu, kn, ec, nu, va, st, ep, ti, ad, ob, ra, rt, ex, sa, us, tk, th, me, dr, se, sn) Φ1 := by
  refine ⟨?_, fun j h2 h4 => ?_⟩
  · rw [h1, fset_ne (by omega)]
    exact h.1
  · by_cases hj : j = 23
    · subst hj
      rw [h1, fset_eq]
      exact ⟨f, rfl, hf⟩
    · have q := h.2 j h2 h4
      rw [h1, fset_ne (by omega)]
      have h3 := hj
      clear h1
      revert q h3
      match j, h2, h4 with
      | 1, _, _ => intro q _; exact q
      | 2, _, _ => intro q _; exact q
      | 3, _, _ => intro q _; exact q
      | 4, _, _ => intro q _; exact q
      | 5, _, _ => intro q _; exact q
      | 6, _, _ => intro q _; exact q
      | 7, _, _ => intro q _; exact q
      | 8, _, _ => intro q _; exact q
      | 9, _, _ => intro q _; exact q
      | 10, _, _ => intro q _; exact q
      | 11, _, _ => intro q _; exact q
      | 12, _, _ => intro q _; exact q
      | 13, _, _ => intro q _; exact q
      | 14, _, _ => intro q _; exact q
      | 15, _, _ => intro q _; exact q
      | 16, _, _ => intro q _; exact q
      | 17, _, _ => intro q _; exact q
      | 18, _, _ => intro q _; exact q
      | 19, _, _ => intro q _; exact q
      | 20, _, _ => intro q _; exact q
      | 21, _, _ => intro q _; exact q
      | 22, _, _ => intro q _; exact q
      | 23, _, _ => intro _ h3; exact absurd rfl h3
      | 24, _, _ => intro q _; exact q
      | 25, _, _ => intro q _; exact q
      | j + 26, _, h4 => omega
theorem Im.put24 {G : EnvG} {x : Nat} {rd nw : (Nat → Int32) → Prop} {fl pe le nx il qu : Nat} {kn ec nu : Int32} {va : Int64} {st : Nat} {ep : Int32} {ti ad : Int32} {ob : Int64} {cr tt : (Nat → Int64) → Prop} {tp : (Nat → Int32) → Prop} {ra ex th : Int32} {rt tk : Nat} {sa us : Int64} {sI sT pt ql : (Nat → Int32) → Prop} {me dr : Int32} {se sn : Int64} {Φ Φ1 : Hm} {tt1 : (Nat → Int64) → Prop} {f : Nat → Int64} (h : Im G x (rd, nw, cr, tp, tt, sI, sT, pt, ql, fl, pe, le, nx, il, qu, kn, ec, nu, va, st, ep, ti, ad, ob, ra, rt, ex, sa, us, tk, th, me, dr, se, sn) Φ) (h1 : Φ1 = fset Φ (x + 24) (al_ G 48 f)) (hf : tt1 f) : Im G x (rd, nw, cr, tp, tt1, sI, sT, pt, ql, fl, pe, le, nx, il, qu, kn, ec, nu, va, st, ep, ti, ad, ob, ra, rt, ex, sa, us, tk, th, me, dr, se, sn) Φ1 := by
  refine ⟨?_, fun j h2 h4 => ?_⟩
  · rw [h1, fset_ne (by omega)]
    exact h.1
  · by_cases hj : j = 24
    · subst hj
      rw [h1, fset_eq]
      exact ⟨f, rfl, hf⟩
    · have q := h.2 j h2 h4
      rw [h1, fset_ne (by omega)]
      have h3 := hj
      clear h1
      revert q h3
      match j, h2, h4 with
      | 1, _, _ => intro q _; exact q
      | 2, _, _ => intro q _; exact q
      | 3, _, _ => intro q _; exact q
      | 4, _, _ => intro q _; exact q
      | 5, _, _ => intro q _; exact q
      | 6, _, _ => intro q _; exact q
      | 7, _, _ => intro q _; exact q
      | 8, _, _ => intro q _; exact q
      | 9, _, _ => intro q _; exact q
      | 10, _, _ => intro q _; exact q
      | 11, _, _ => intro q _; exact q
      | 12, _, _ => intro q _; exact q
      | 13, _, _ => intro q _; exact q
      | 14, _, _ => intro q _; exact q
      | 15, _, _ => intro q _; exact q
      | 16, _, _ => intro q _; exact q
      | 17, _, _ => intro q _; exact q
      | 18, _, _ => intro q _; exact q
      | 19, _, _ => intro q _; exact q
      | 20, _, _ => intro q _; exact q
      | 21, _, _ => intro q _; exact q
      | 22, _, _ => intro q _; exact q
      | 23, _, _ => intro q _; exact q
      | 24, _, _ => intro _ h3; exact absurd rfl h3
      | 25, _, _ => intro q _; exact q
      | j + 26, _, h4 => omega
theorem Im.put3 {G : EnvG} {x : Nat} {rd nw : (Nat → Int32) → Prop} {fl pe le nx il qu : Nat} {kn ec nu : Int32} {va : Int64} {st : Nat} {ep : Int32} {ti ad : Int32} {ob : Int64} {cr tt : (Nat → Int64) → Prop} {tp : (Nat → Int32) → Prop} {ra ex th : Int32} {rt tk : Nat} {sa us : Int64} {sI sT pt ql : (Nat → Int32) → Prop} {me dr : Int32} {se sn : Int64} {Φ Φ1 : Hm} {sI1 : (Nat → Int32) → Prop} {f : Nat → Int32} (h : Im G x (rd, nw, cr, tp, tt, sI, sT, pt, ql, fl, pe, le, nx, il, qu, kn, ec, nu, va, st, ep, ti, ad, ob, ra, rt, ex, sa, us, tk, th, me, dr, se, sn) Φ) (h1 : Φ1 = fset Φ (x + 3) (ai_ G 4 f)) (hf : sI1 f) : Im G x (rd, nw, cr, tp, tt, sI1, sT, pt, ql, fl, pe, le, nx, il, qu, kn, ec, nu, va, st, ep, ti, ad, ob, ra, rt, ex, sa, us, tk, th, me, dr, se, sn) Φ1 := by
  refine ⟨?_, fun j h2 h4 => ?_⟩
  · rw [h1, fset_ne (by omega)]
    exact h.1
  · by_cases hj : j = 3
    · subst hj
      rw [h1, fset_eq]
      exact ⟨f, rfl, hf⟩
    · have q := h.2 j h2 h4
      rw [h1, fset_ne (by omega)]
      have h3 := hj
      clear h1
      revert q h3
      match j, h2, h4 with
      | 1, _, _ => intro q _; exact q
      | 2, _, _ => intro q _; exact q
      | 3, _, _ => intro _ h3; exact absurd rfl h3
      | 4, _, _ => intro q _; exact q
      | 5, _, _ => intro q _; exact q
      | 6, _, _ => intro q _; exact q
      | 7, _, _ => intro q _; exact q
      | 8, _, _ => intro q _; exact q
      | 9, _, _ => intro q _; exact q
      | 10, _, _ => intro q _; exact q
      | 11, _, _ => intro q _; exact q
      | 12, _, _ => intro q _; exact q
      | 13, _, _ => intro q _; exact q
      | 14, _, _ => intro q _; exact q
      | 15, _, _ => intro q _; exact q
      | 16, _, _ => intro q _; exact q
      | 17, _, _ => intro q _; exact q
      | 18, _, _ => intro q _; exact q
      | 19, _, _ => intro q _; exact q
      | 20, _, _ => intro q _; exact q
      | 21, _, _ => intro q _; exact q
      | 22, _, _ => intro q _; exact q
      | 23, _, _ => intro q _; exact q
      | 24, _, _ => intro q _; exact q
      | 25, _, _ => intro q _; exact q
      | j + 26, _, h4 => omega
theorem Im.put4 {G : EnvG} {x : Nat} {rd nw : (Nat → Int32) → Prop} {fl pe le nx il qu : Nat} {kn ec nu : Int32} {va : Int64} {st : Nat} {ep : Int32} {ti ad : Int32} {ob : Int64} {cr tt : (Nat → Int64) → Prop} {tp : (Nat → Int32) → Prop} {ra ex th : Int32} {rt tk : Nat} {sa us : Int64} {sI sT pt ql : (Nat → Int32) → Prop} {me dr : Int32} {se sn : Int64} {Φ Φ1 : Hm} {sT1 : (Nat → Int32) → Prop} {f : Nat → Int32} (h : Im G x (rd, nw, cr, tp, tt, sI, sT, pt, ql, fl, pe, le, nx, il, qu, kn, ec, nu, va, st, ep, ti, ad, ob, ra, rt, ex, sa, us, tk, th, me, dr, se, sn) Φ) (h1 : Φ1 = fset Φ (x + 4) (ai_ G 4 f)) (hf : sT1 f) : Im G x (rd, nw, cr, tp, tt, sI, sT1, pt, ql, fl, pe, le, nx, il, qu, kn, ec, nu, va, st, ep, ti, ad, ob, ra, rt, ex, sa, us, tk, th, me, dr, se, sn) Φ1 := by
  refine ⟨?_, fun j h2 h4 => ?_⟩
  · rw [h1, fset_ne (by omega)]
    exact h.1
  · by_cases hj : j = 4
    · subst hj
      rw [h1, fset_eq]
      exact ⟨f, rfl, hf⟩
    · have q := h.2 j h2 h4
      rw [h1, fset_ne (by omega)]
      have h3 := hj
      clear h1
      revert q h3
      match j, h2, h4 with
      | 1, _, _ => intro q _; exact q
      | 2, _, _ => intro q _; exact q
      | 3, _, _ => intro q _; exact q
      | 4, _, _ => intro _ h3; exact absurd rfl h3
      | 5, _, _ => intro q _; exact q
      | 6, _, _ => intro q _; exact q
      | 7, _, _ => intro q _; exact q
      | 8, _, _ => intro q _; exact q
      | 9, _, _ => intro q _; exact q
      | 10, _, _ => intro q _; exact q
      | 11, _, _ => intro q _; exact q
      | 12, _, _ => intro q _; exact q
      | 13, _, _ => intro q _; exact q
      | 14, _, _ => intro q _; exact q
      | 15, _, _ => intro q _; exact q
      | 16, _, _ => intro q _; exact q
      | 17, _, _ => intro q _; exact q
      | 18, _, _ => intro q _; exact q
      | 19, _, _ => intro q _; exact q
      | 20, _, _ => intro q _; exact q
      | 21, _, _ => intro q _; exact q
      | 22, _, _ => intro q _; exact q
      | 23, _, _ => intro q _; exact q
      | 24, _, _ => intro q _; exact q
      | 25, _, _ => intro q _; exact q
      | j + 26, _, h4 => omega
theorem Im.put6 {G : EnvG} {x : Nat} {rd nw : (Nat → Int32) → Prop} {fl pe le nx il qu : Nat} {kn ec nu : Int32} {va : Int64} {st : Nat} {ep : Int32} {ti ad : Int32} {ob : Int64} {cr tt : (Nat → Int64) → Prop} {tp : (Nat → Int32) → Prop} {ra ex th : Int32} {rt tk : Nat} {sa us : Int64} {sI sT pt ql : (Nat → Int32) → Prop} {me dr : Int32} {se sn : Int64} {Φ Φ1 : Hm} {pt1 : (Nat → Int32) → Prop} {f : Nat → Int32} (h : Im G x (rd, nw, cr, tp, tt, sI, sT, pt, ql, fl, pe, le, nx, il, qu, kn, ec, nu, va, st, ep, ti, ad, ob, ra, rt, ex, sa, us, tk, th, me, dr, se, sn) Φ) (h1 : Φ1 = fset Φ (x + 6) (ai_ G 24 f)) (hc : Rw 3 f) (hf : pt1 f) : Im G x (rd, nw, cr, tp, tt, sI, sT, pt1, ql, fl, pe, le, nx, il, qu, kn, ec, nu, va, st, ep, ti, ad, ob, ra, rt, ex, sa, us, tk, th, me, dr, se, sn) Φ1 := by
  refine ⟨?_, fun j h2 h4 => ?_⟩
  · rw [h1, fset_ne (by omega)]
    exact h.1
  · by_cases hj : j = 6
    · subst hj
      rw [h1, fset_eq]
      exact ⟨f, rfl, hc, hf⟩
    · have q := h.2 j h2 h4
      rw [h1, fset_ne (by omega)]
      have h3 := hj
      clear h1
      revert q h3
      match j, h2, h4 with
      | 1, _, _ => intro q _; exact q
      | 2, _, _ => intro q _; exact q
      | 3, _, _ => intro q _; exact q
      | 4, _, _ => intro q _; exact q
      | 5, _, _ => intro q _; exact q
      | 6, _, _ => intro _ h3; exact absurd rfl h3
      | 7, _, _ => intro q _; exact q
      | 8, _, _ => intro q _; exact q
      | 9, _, _ => intro q _; exact q
      | 10, _, _ => intro q _; exact q
      | 11, _, _ => intro q _; exact q
      | 12, _, _ => intro q _; exact q
      | 13, _, _ => intro q _; exact q
      | 14, _, _ => intro q _; exact q
      | 15, _, _ => intro q _; exact q
      | 16, _, _ => intro q _; exact q
      | 17, _, _ => intro q _; exact q
      | 18, _, _ => intro q _; exact q
      | 19, _, _ => intro q _; exact q
      | 20, _, _ => intro q _; exact q
      | 21, _, _ => intro q _; exact q
      | 22, _, _ => intro q _; exact q
      | 23, _, _ => intro q _; exact q
      | 24, _, _ => intro q _; exact q
      | 25, _, _ => intro q _; exact q
      | j + 26, _, h4 => omega
theorem Im.put10 {G : EnvG} {x : Nat} {rd nw : (Nat → Int32) → Prop} {fl pe le nx il qu : Nat} {kn ec nu : Int32} {va : Int64} {st : Nat} {ep : Int32} {ti ad : Int32} {ob : Int64} {cr tt : (Nat → Int64) → Prop} {tp : (Nat → Int32) → Prop} {ra ex th : Int32} {rt tk : Nat} {sa us : Int64} {sI sT pt ql : (Nat → Int32) → Prop} {me dr : Int32} {se sn : Int64} {Φ Φ1 : Hm} {ql1 : (Nat → Int32) → Prop} {f : Nat → Int32} (h : Im G x (rd, nw, cr, tp, tt, sI, sT, pt, ql, fl, pe, le, nx, il, qu, kn, ec, nu, va, st, ep, ti, ad, ob, ra, rt, ex, sa, us, tk, th, me, dr, se, sn) Φ) (h1 : Φ1 = fset Φ (x + 10) (ai_ G 12 f)) (hc : Rw 600 f) (hf : ql1 f) : Im G x (rd, nw, cr, tp, tt, sI, sT, pt, ql1, fl, pe, le, nx, il, qu, kn, ec, nu, va, st, ep, ti, ad, ob, ra, rt, ex, sa, us, tk, th, me, dr, se, sn) Φ1 := by
  refine ⟨?_, fun j h2 h4 => ?_⟩
  · rw [h1, fset_ne (by omega)]
    exact h.1
  · by_cases hj : j = 10
    · subst hj
      rw [h1, fset_eq]
      exact ⟨f, rfl, hc, hf⟩
    · have q := h.2 j h2 h4
      rw [h1, fset_ne (by omega)]
      have h3 := hj
      clear h1
      revert q h3
      match j, h2, h4 with
      | 1, _, _ => intro q _; exact q
      | 2, _, _ => intro q _; exact q
      | 3, _, _ => intro q _; exact q
      | 4, _, _ => intro q _; exact q
      | 5, _, _ => intro q _; exact q
      | 6, _, _ => intro q _; exact q
      | 7, _, _ => intro q _; exact q
      | 8, _, _ => intro q _; exact q
      | 9, _, _ => intro q _; exact q
      | 10, _, _ => intro _ h3; exact absurd rfl h3
      | 11, _, _ => intro q _; exact q
      | 12, _, _ => intro q _; exact q
      | 13, _, _ => intro q _; exact q
      | 14, _, _ => intro q _; exact q
      | 15, _, _ => intro q _; exact q
      | 16, _, _ => intro q _; exact q
      | 17, _, _ => intro q _; exact q
      | 18, _, _ => intro q _; exact q
      | 19, _, _ => intro q _; exact q
      | 20, _, _ => intro q _; exact q
      | 21, _, _ => intro q _; exact q
      | 22, _, _ => intro q _; exact q
      | 23, _, _ => intro q _; exact q
      | 24, _, _ => intro q _; exact q
      | 25, _, _ => intro q _; exact q
      | j + 26, _, h4 => omega
theorem Im.weak5 {G : EnvG} {x : Nat} {rd nw : (Nat → Int32) → Prop} {fl pe le nx il qu : Nat} {kn ec nu : Int32} {va : Int64} {st : Nat} {ep : Int32} {ti ad : Int32} {ob : Int64} {cr tt : (Nat → Int64) → Prop} {tp : (Nat → Int32) → Prop} {ra ex th : Int32} {rt tk : Nat} {sa us : Int64} {sI sT pt ql : (Nat → Int32) → Prop} {me dr : Int32} {se sn : Int64} {Φ : Hm} {rd1 nw1 tp1 sI1 sT1 pt1 ql1 : (Nat → Int32) → Prop} {cr1 tt1 : (Nat → Int64) → Prop} (h : Im G x (rd, nw, cr, tp, tt, sI, sT, pt, ql, fl, pe, le, nx, il, qu, kn, ec, nu, va, st, ep, ti, ad, ob, ra, rt, ex, sa, us, tk, th, me, dr, se, sn) Φ) (hw1 : ∀ f, rd f → rd1 f) (hw2 : ∀ f, nw f → nw1 f) (hw5 : ∀ f, cr f → cr1 f) (hw23 : ∀ f, tp f → tp1 f) (hw24 : ∀ f, tt f → tt1 f) (hw3 : ∀ f, sI f → sI1 f) (hw4 : ∀ f, sT f → sT1 f) (hw6 : ∀ f, pt f → pt1 f) (hw10 : ∀ f, ql f → ql1 f) : Im G x (rd1, nw1, cr1, tp1, tt1, sI1, sT1, pt1, ql1, fl, pe, le, nx, il, qu, kn, ec, nu, va, st, ep, ti, ad, ob, ra, rt, ex, sa, us, tk, th, me, dr, se, sn) Φ := by
  refine ⟨h.1, fun j h3 h4 => ?_⟩
  have q := h.2 j h3 h4
  revert q
  match j, h3, h4 with
  | 1, _, _ => intro q; obtain ⟨f, a, b⟩ := q; exact ⟨f, a, hw1 f b⟩
  | 2, _, _ => intro q; obtain ⟨f, a, b⟩ := q; exact ⟨f, a, hw2 f b⟩
  | 3, _, _ => intro q; obtain ⟨f, a, b⟩ := q; exact ⟨f, a, hw3 f b⟩
  | 4, _, _ => intro q; obtain ⟨f, a, b⟩ := q; exact ⟨f, a, hw4 f b⟩
  | 5, _, _ => intro q; obtain ⟨f, a, c, b⟩ := q; exact ⟨f, a, c, hw5 f b⟩
  | 6, _, _ => intro q; obtain ⟨f, a, c, b⟩ := q; exact ⟨f, a, c, hw6 f b⟩
  | 7, _, _ => intro q; exact q
  | 8, _, _ => intro q; exact q
  | 9, _, _ => intro q; exact q
  | 10, _, _ => intro q; obtain ⟨f, a, c, b⟩ := q; exact ⟨f, a, c, hw10 f b⟩
  | 11, _, _ => intro q; exact q
  | 12, _, _ => intro q; exact q
  | 13, _, _ => intro q; exact q
  | 14, _, _ => intro q; exact q
  | 15, _, _ => intro q; exact q
  | 16, _, _ => intro q; exact q
  | 17, _, _ => intro q; exact q
  | 18, _, _ => intro q; exact q
  | 19, _, _ => intro q; exact q
  | 20, _, _ => intro q; exact q
  | 21, _, _ => intro q; exact q
  | 22, _, _ => intro q; exact q
  | 23, _, _ => intro q; obtain ⟨f, a, b⟩ := q; exact ⟨f, a, hw23 f b⟩
  | 24, _, _ => intro q; obtain ⟨f, a, b⟩ := q; exact ⟨f, a, hw24 f b⟩
  | 25, _, _ => intro q; exact q
  | j + 26, _, h4 => omega
theorem Rw.up {B : Nat} {f : Nat → Int32} {i n : Nat} (r : Rw B f) (h : n ≤ B) : Rw B (upd f i (nI n)) := by
  intro j
  unfold upd
  split
  · exact ⟨n, h, rfl⟩
  · exact r j
theorem Rw.z {B : Nat} : Rw B (fun _ => 0) := fun _ => ⟨0, Nat.zero_le _, rfl⟩
/-- the bytes of a field's content -/
noncomputable def lnN (k : Nat) : Nat := ([1, 1, 2, 1, 4, 8, 4, 4, 4] : List Nat).getD k 4
/-- the sum of the lengths of the fields at b, b + 1 .., m of them, in a row of ints -/
noncomputable def lsm (f : Nat → Int32) (b : Nat) : Nat → Nat
  | 0 => 0
  | m + 1 => lsm f b m + lnN (f (b + m)).toNatClampNeg
theorem lnN_pos (k : Nat) : 1 ≤ lnN k := by
  unfold lnN
  by_cases h : k < 9
  · have hh : ∀ j, j < 9 → 1 ≤ ([1, 1, 2, 1, 4, 8, 4, 4, 4] : List Nat).getD j 4 := by decide
    exact hh k h
  · rw [List.getD_eq_getElem?_getD, List.getElem?_eq_none (show ([1, 1, 2, 1, 4, 8, 4, 4, 4] : List Nat).length ≤ k from Nat.not_lt.mp h)]
    decide
theorem lnN_le (k : Nat) : lnN k ≤ 8 := by
  unfold lnN
  by_cases h : k < 9
  · have hh : ∀ j, j < 9 → ([1, 1, 2, 1, 4, 8, 4, 4, 4] : List Nat).getD j 4 ≤ 8 := by decide
    exact hh k h
  · rw [List.getD_eq_getElem?_getD, List.getElem?_eq_none (show ([1, 1, 2, 1, 4, 8, 4, 4, 4] : List Nat).length ≤ k from Nat.not_lt.mp h)]
    decide
theorem lsm_ext {f g : Nat → Int32} {b m : Nat} (h : ∀ j, j < m → f (b + j) = g (b + j)) : lsm f b m = lsm g b m := by
  induction m with
  | zero => rfl
  | succ m ih =>
    show lsm f b m + _ = lsm g b m + _
    rw [ih (fun j hj => h j (by omega)), h m (by omega)]
theorem lsm_mono {f : Nat → Int32} {b m n : Nat} (h : m ≤ n) : lsm f b m ≤ lsm f b n := by
  induction n with
  | zero =>
    have : m = 0 := by omega
    subst this
    exact Nat.le_refl _
  | succ n ih =>
    by_cases h1 : m = n + 1
    · subst h1
      exact Nat.le_refl _
    · have := ih (by omega)
      show _ ≤ lsm f b n + _
      omega
theorem lsm_ge {f : Nat → Int32} {b : Nat} (m : Nat) : m ≤ lsm f b m := by
  induction m with
  | zero => exact Nat.le_refl _
  | succ m ih =>
    have := lnN_pos (f (b + m)).toNatClampNeg
    show m + 1 ≤ lsm f b m + _
    omega
theorem lsm_le8 {f : Nat → Int32} {b : Nat} (m : Nat) : lsm f b m ≤ 8 * m := by
  induction m with
  | zero => exact Nat.le_refl _
  | succ m ih =>
    have := lnN_le (f (b + m)).toNatClampNeg
    show lsm f b m + _ ≤ 8 * (m + 1)
    omega
/-- what the row of a configuration holds: sizes, fields, uses, length, templates, sampling, assume; the fields of a template take at most 29 bytes; a template that isn't there has no fields -/
noncomputable def NN (f : Nat → Int32) : Prop := (∀ j, 11 ≤ j → j < 15 → ∃ n : Nat, n ≤ 9 ∧ f j = nI n) ∧ (∀ j, 15 ≤ j → j < 51 → ∃ n : Nat, n ≤ 8 ∧ f j = nI n) ∧ (∀ j, 51 ≤ j → j < 307 → ∃ n : Nat, n ≤ 3 ∧ f j = nI n) ∧ (∃ n : Nat, 256 ≤ n ∧ n ≤ 600 ∧ f 7 = nI n) ∧ (∃ n : Nat, n ≤ 4 ∧ f 10 = nI n) ∧ (∃ n : Nat, 1 ≤ n ∧ n ≤ 1024 ∧ f 0 = nI n) ∧ (∃ n : Nat, n ≤ 1024 ∧ f 8 = nI n) ∧ (∀ t, t < 4 → lsm f (15 + 9 * t) (f (11 + t)).toNatClampNeg ≤ 29) ∧ (∀ t n : Nat, t < 4 → f 10 = nI n → n ≤ t → f (11 + t) = 0)
theorem NN.ext {f g : Nat → Int32} (h : NN f) (e : ∀ j, j < 307 → g j = f j) : NN g := by
  obtain ⟨h1, h2, h3, h4, h5, h6, h7, h8, h9⟩ := h
  refine ⟨fun j a b => ?_, fun j a b => ?_, fun j a b => ?_, ?_, ?_, ?_, ?_, fun t ht => ?_, fun t n ht hn hl => ?_⟩
  · rw [e j (by omega)]; exact h1 j a b
  · rw [e j (by omega)]; exact h2 j a b
  · rw [e j (by omega)]; exact h3 j a b
  · rw [e 7 (by omega)]; exact h4
  · rw [e 10 (by omega)]; exact h5
  · rw [e 0 (by omega)]; exact h6
  · rw [e 8 (by omega)]; exact h7
  · have h10 := h8 t ht
    obtain ⟨n, hn, hq⟩ := h1 (11 + t) (by omega) (by omega)
    have hc : (nI n).toNatClampNeg = n := nI_clamp (by omega)
    rw [hq, hc] at h10
    rw [e (11 + t) (by omega), hq, hc, lsm_ext (g := f) (fun j hj => e _ (by omega))]
    exact h10
  · rw [e (11 + t) (by omega)]
    exact h9 t n ht (by rw [← e 10 (by omega)]; exact hn) hl
theorem NN.size {f : Nat → Int32} (h : NN f) {t : Nat} (ht : t < 4) : ∃ n : Nat, n ≤ 9 ∧ f (11 + t) = nI n ∧ lsm f (15 + 9 * t) n ≤ 29 := by
  obtain ⟨n, hn, hq⟩ := h.1 (11 + t) (by omega) (by omega)
  have h10 := h.2.2.2.2.2.2.2.1 t ht
  rw [hq, nI_clamp (by omega)] at h10
  exact ⟨n, hn, hq, h10⟩
theorem nI_inj {a b : Nat} (ha : a < 2 ^ 31) (hb : b < 2 ^ 31) (h : nI a = nI b) : a = b := (nI_eq (a := a) (b := b) ha hb).mp h
/-- a number in a range -/
noncomputable def inP (a b c : Int64) : Prop := ¬ lg_cmp a b < 0 ∧ ¬ 0 < lg_cmp a c
theorem lg_lt (x y : Int64) : lg_cmp x y < 0 ↔ x < y := by
  unfold lg_cmp
  by_cases h : x > y
  · simp only [h, if_true]
    constructor
    · intro h1; exact absurd h1 (by decide)
    · intro h1; exact absurd (Int64.lt_trans h1 h) (Int64.lt_irrefl)
  · by_cases h2 : x = y
    · subst h2; simp
    · simp only [h, h2, if_false]
      constructor
      · intro _; exact Int64.lt_of_le_of_ne (Int64.not_lt.mp h) h2
      · intro _; decide
theorem lg_gt (x y : Int64) : 0 < lg_cmp x y ↔ y < x := by
  unfold lg_cmp
  by_cases h : x > y
  · simp only [h, if_true]
    constructor
    · intro _; trivial
    · intro _; decide
  · simp only [h, if_false]
    constructor
    · by_cases h2 : x = y
      · simp only [h2, if_true]; intro h1; exact absurd h1 (by decide)
      · simp only [h2, if_false]; intro h1; exact absurd h1 (by decide)
    · intro h1; exact h1.elim
theorem inP_L (a lo hi : Int64) : inP a lo hi ↔ lo.toInt ≤ a.toInt ∧ a.toInt ≤ hi.toInt := by
  unfold inP
  rw [lg_lt, lg_gt, Int64.lt_iff_toInt_lt, Int64.lt_iff_toInt_lt]
  omega
theorem inP_iff (a : Int32) (lo hi : Int64) : inP a.toInt64 lo hi ↔ lo.toInt ≤ a.toInt ∧ a.toInt ≤ hi.toInt := by rw [inP_L, Int32.toInt_toInt64]
theorem in_get {a : Int32} {lo hi : Int64} {L : Nat} {H : Int} (h1 : lo.toInt = L) (h2 : hi.toInt = H) (h : inP a.toInt64 lo hi) : ∃ n : Nat, n < 2 ^ 31 ∧ L ≤ n ∧ (n : Int) ≤ H ∧ a = nI n := by
  rw [inP_iff, h1, h2] at h
  have h3 := Int32.toInt_lt a
  refine ⟨a.toInt.toNat, by omega, by omega, by omega, ?_⟩
  apply Int32.toInt_inj.mp
  rw [nI_toInt (by omega)]
  omega
theorem in_nat {m : Nat} {lo hi : Int64} {L : Nat} {H : Int} (h1 : lo.toInt = L) (h2 : hi.toInt = H) (hm : m < 2 ^ 31) : inP (nI m).toInt64 lo hi ↔ L ≤ m ∧ (m : Int) ≤ H := by
  rw [inP_iff, h1, h2, nI_toInt hm]
  omega
theorem inL_get {a lo hi : Int64} {L : Nat} {H : Int} (h1 : lo.toInt = L) (h2 : hi.toInt = H) (h : inP a lo hi) : ∃ n : Nat, n < 2 ^ 63 ∧ L ≤ n ∧ (n : Int) ≤ H ∧ a = Int64.ofNat n := by
  rw [inP_L, h1, h2] at h
  have h3 := Int64.toInt_lt a
  refine ⟨a.toInt.toNat, by omega, by omega, by omega, ?_⟩
  apply Int64.toInt_inj.mp
  rw [Int64.toInt_ofNat_of_lt (by omega)]
  omega
theorem natL {n : Nat} (h : n < 2 ^ 31) : ((nI n).toInt64).toInt = (n : Int) := by rw [Int32.toInt_toInt64, nI_toInt h]
theorem predL {n : Nat} (h : n < 2 ^ 31) : ((nI n - 1).toInt64).toInt = (n : Int) - 1 := by
  rw [Int32.toInt_toInt64]
  by_cases h0 : n = 0
  · subst h0
    decide
  · have e : nI n - 1 = nI (n - 1) := by
      have h5 : n = (n - 1) + 1 := by omega
      conv => lhs; rw [h5]
      show nI (n - 1 + 1) - nI 1 = nI (n - 1)
      rw [← nI_add]
      simp
    rw [e, nI_toInt (by omega)]
    omega
theorem c_inR1 (G : EnvG) (l : Launch) (Φ : Hm) (sz : Nat) (a : Int64) (b : Int64) (d : Int64) (hp : inP a b d) (P : Option Value → Hm → Nat → Prop) (hP : P (some (.int 1)) Φ sz) : Ct G l yX12_inRange wsX12_inRange ({ frames := 0, cells := 0, slots := 0, locals := 0 }) 0 0 [.long a, .long b, .long d] Φ sz P := by
  refine Ct.of (cc := cX12_inRange) (maxL := 6) (ret := (some .boolean)) (by decide) rfl (Nat.le_of_ble_eq_true rfl) ?_
  intro p9 e9 s9 m9 w9 t9 k9 B
  show Z p9 l e9 _ s9 m9 _ w9 t9 k9 _ G 6 0 [(0, .long a), (2, .long b), (4, .long d)] [] Φ (sz) 0 0
  refine z_lload_n B dX12_inRange_0 rfl 0 rfl ?_
  refine z_lload_n B dX12_inRange_1 rfl 1 rfl ?_
  refine z_lcmp B dX12_inRange_2 ?_
  refine z_if_lt (tgt := 17) B dX12_inRange_3 rfl (fun h9 => absurd h9 hp.1) (fun c_1 => ?_)
  refine z_lload_n B dX12_inRange_6 rfl 0 rfl ?_
  refine z_lload B dX12_inRange_7 2 rfl ?_
  refine z_lcmp B dX12_inRange_9 ?_
  refine z_if_gt (tgt := 17) B dX12_inRange_10 rfl (fun h9 => absurd h9 hp.2) (fun c_2 => ?_)
  refine z_iconst (v := 1) B dX12_inRange_13 rfl ?_
  refine z_goto (tgt := 18) B dX12_inRange_14 rfl ?_
  exact z_ret_z B dX12_inRange_18 (by decide) hP
theorem c_inR0 (G : EnvG) (l : Launch) (Φ : Hm) (sz : Nat) (a : Int64) (b : Int64) (d : Int64) (hp : ¬ inP a b d) (P : Option Value → Hm → Nat → Prop) (hP : P (some (.int 0)) Φ sz) : Ct G l yX12_inRange wsX12_inRange ({ frames := 0, cells := 0, slots := 0, locals := 0 }) 0 0 [.long a, .long b, .long d] Φ sz P := by
  refine Ct.of (cc := cX12_inRange) (maxL := 6) (ret := (some .boolean)) (by decide) rfl (Nat.le_of_ble_eq_true rfl) ?_
  intro p9 e9 s9 m9 w9 t9 k9 B
  show Z p9 l e9 _ s9 m9 _ w9 t9 k9 _ G 6 0 [(0, .long a), (2, .long b), (4, .long d)] [] Φ (sz) 0 0
  refine z_lload_n B dX12_inRange_0 rfl 0 rfl ?_
  refine z_lload_n B dX12_inRange_1 rfl 1 rfl ?_
  refine z_lcmp B dX12_inRange_2 ?_
  refine z_if_lt (tgt := 17) B dX12_inRange_3 rfl (fun c_1 => ?_) (fun c_1 => ?_)
  · refine z_iconst (v := 0) B dX12_inRange_17 rfl ?_
    exact z_ret_z B dX12_inRange_18 (by decide) hP
  · refine z_lload_n B dX12_inRange_6 rfl 0 rfl ?_
    refine z_lload B dX12_inRange_7 2 rfl ?_
    refine z_lcmp B dX12_inRange_9 ?_
    refine z_if_gt (tgt := 17) B dX12_inRange_10 rfl (fun c_2 => ?_) (fun h9 => absurd (Decidable.byContradiction (fun h7 => hp ⟨c_1, h7⟩)) h9)
    refine z_iconst (v := 0) B dX12_inRange_17 rfl ?_
    exact z_ret_z B dX12_inRange_18 (by decide) hP
noncomputable def lpx : Nat → Nat
  | 0 => 0
  | k + 1 => lpx k + lnN k
theorem lpx_mono {m n : Nat} (h : m ≤ n) : lpx m ≤ lpx n := by
  induction n with
  | zero =>
    have : m = 0 := by omega
    subst this
    exact Nat.le_refl _
  | succ n ih =>
    by_cases h1 : m = n + 1
    · subst h1
      exact Nat.le_refl _
    · have := ih (by omega)
      show _ ≤ lpx n + _
      omega
theorem lpx_le {k : Nat} (h : k ≤ 9) : lpx k ≤ 29 := Nat.le_trans (lpx_mono h) (by decide)
theorem lpx_s {a k : Nat} (h : a ≤ lpx k) : a + lnN k ≤ lpx (k + 1) := by
  show _ ≤ lpx k + lnN k
  omega
theorem lpx_k {a k : Nat} (h : a ≤ lpx k) : a ≤ lpx (k + 1) := by
  show _ ≤ lpx k + lnN k
  omega
theorem lnN_d {k : Nat} (h0 : k ≠ 0) (h1 : k ≠ 1) (h2 : k ≠ 2) (h3 : k ≠ 3) (h5 : k ≠ 5) : lnN k = 4 := by
  unfold lnN
  by_cases h : k < 9
  · have hh : ∀ j, j < 9 → (j = 0 ∨ j = 1 ∨ j = 2 ∨ j = 3 ∨ j = 5 ∨ ([1, 1, 2, 1, 4, 8, 4, 4, 4] : List Nat).getD j 4 = 4) := by decide
    rcases hh k h with q | q | q | q | q | q
    · exact absurd q h0
    · exact absurd q h1
    · exact absurd q h2
    · exact absurd q h3
    · exact absurd q h5
    · exact q
  · rw [List.getD_eq_getElem?_getD, List.getElem?_eq_none (show ([1, 1, 2, 1, 4, 8, 4, 4, 4] : List Nat).length ≤ k from Nat.not_lt.mp h)]
    decide
theorem NN.free {f : Nat → Int32} {i : Nat} {v : Int32} (h : NN f) (hi : (1 ≤ i ∧ i ≤ 6) ∨ i = 9) : NN (upd f i v) := by
  have e : ∀ j, j ≠ i → upd f i v j = f j := fun j hj => by simp [upd, hj]
  obtain ⟨h1, h2, h3, h4, h5, h6, h7, h8, h9⟩ := h
  refine ⟨fun j a b => ?_, fun j a b => ?_, fun j a b => ?_, ?_, ?_, ?_, ?_, fun t ht => ?_, fun t n ht hn hl => ?_⟩
  · rw [e j (by omega)]; exact h1 j a b
  · rw [e j (by omega)]; exact h2 j a b
  · rw [e j (by omega)]; exact h3 j a b
  · rw [e 7 (by omega)]; exact h4
  · rw [e 10 (by omega)]; exact h5
  · rw [e 0 (by omega)]; exact h6
  · rw [e 8 (by omega)]; exact h7
  · rw [e (11 + t) (by omega), lsm_ext (g := f) (fun j hj => e _ (by omega))]
    exact h8 t ht
  · rw [e (11 + t) (by omega)]
    exact h9 t n ht (by rw [← e 10 (by omega)]; exact hn) hl
theorem nI_nm1 {n : Nat} (h : n < 2 ^ 31) : ¬ nI n = -1 := by
  intro e
  have h1 := congrArg Int32.toInt e
  rw [nI_toInt h] at h1
  have h2 : (-1 : Int32).toInt = -1 := by decide
  rw [h2] at h1
  omega
theorem tr_out {a : Int32} {n : Nat} (hn : n ≤ 700) (h : ¬ inP a.toInt64 0 (nI n).toInt64) : ∀ j, j ≤ n → a ≠ nI j := by
  intro j hj e
  subst e
  exact h ((in_nat (L := 0) (H := ((n : Nat) : Int)) (by decide) (natL (by omega)) (by omega)).mpr ⟨by omega, by omega⟩)

/-- the row now, place by place -/
noncomputable def NNq (c : Nat → Int32) (g : Nat → Int32) : Prop := NN g ∧ ∀ j, j < 307 → g j = c j

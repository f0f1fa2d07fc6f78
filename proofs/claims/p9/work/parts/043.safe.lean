set_option maxRecDepth 20000 in
theorem ggX11_observeMany_X3_keyOf : GoodIn wsX11_observeMany wsX3_keyOf := (goodIn_r _ [5, 6, 7] rfl (by decide +kernel))
set_option maxRecDepth 20000 in
theorem gX11_observeMany_X3_keyOf : GoodIn wsX11_observeMany (va_wsS RX11 119 yX3_keyOf wsX3_keyOf) := goodIn_app (goodIn_m (mem_cA (List.mem_cons_of_mem _ (List.mem_append_left _ (List.mem_append_left _ (List.mem_append_left _ (List.mem_append_left _ (List.mem_append_left _ (List.mem_append_left _ (List.mem_append_left _ (List.mem_append_left _ (List.mem_append_left _ (List.mem_append_left _ (List.mem_append_left _ (List.mem_append_left _ (List.mem_append_left _ (List.mem_of_getElem? (i := 1) rfl))))))))))))))) (mem_cA (List.mem_cons_of_mem _ (List.mem_append_left _ (List.mem_append_left _ (List.mem_append_left _ (List.mem_append_left _ (List.mem_append_left _ (List.mem_append_left _ (List.mem_append_left _ (List.mem_append_left _ (List.mem_append_left _ (List.mem_append_left _ (List.mem_append_left _ (List.mem_append_left _ (List.mem_append_left _ (List.mem_of_getElem? (i := 2) rfl))))))))))))))) (mem_cA (List.mem_cons_of_mem _ (List.mem_append_left _ (List.mem_append_left _ (List.mem_append_left _ (List.mem_append_left _ (List.mem_append_left _ (List.mem_append_left _ (List.mem_append_left _ (List.mem_append_left _ (List.mem_append_left _ (List.mem_append_left _ (List.mem_append_left _ (List.mem_append_left _ (List.mem_append_left _ (List.mem_of_getElem? (i := 3) rfl))))))))))))))) mem_cZ))) (by decide +kernel)) ggX11_observeMany_X3_keyOf
set_option maxRecDepth 20000 in
theorem ggX11_observeMany_X11_requirePackets : GoodIn wsX11_observeMany wsX11_requirePackets := goodIn_ca ((goodIn_r _ [11, 12, 13, 14, 15] rfl (by decide +kernel))) (goodIn_sub (fun _ h => List.mem_cons_of_mem _ (List.mem_append_left _ (List.mem_append_left _ (List.mem_append_right _ h)))) (all_fg _))
set_option maxRecDepth 20000 in
theorem gX11_observeMany_X11_requirePackets : GoodIn wsX11_observeMany (va_wsS RX11 125 yX11_requirePackets wsX11_requirePackets) := goodIn_app (goodIn_m (mem_cA (List.mem_cons_of_mem _ (List.mem_append_left _ (List.mem_append_left _ (List.mem_append_left _ (List.mem_append_left _ (List.mem_append_left _ (List.mem_append_left _ (List.mem_append_left _ (List.mem_append_left _ (List.mem_append_left _ (List.mem_append_left _ (List.mem_append_left _ (List.mem_append_left _ (List.mem_append_left _ (List.mem_of_getElem? (i := 7) rfl))))))))))))))) (mem_cA (List.mem_cons_of_mem _ (List.mem_append_left _ (List.mem_append_left _ (List.mem_append_left _ (List.mem_append_left _ (List.mem_append_left _ (List.mem_append_left _ (List.mem_append_left _ (List.mem_append_left _ (List.mem_append_left _ (List.mem_append_left _ (List.mem_append_left _ (List.mem_append_left _ (List.mem_append_left _ (List.mem_of_getElem? (i := 8) rfl))))))))))))))) (mem_cA (List.mem_cons_of_mem _ (List.mem_append_left _ (List.mem_append_left _ (List.mem_append_left _ (List.mem_append_left _ (List.mem_append_left _ (List.mem_append_left _ (List.mem_append_left _ (List.mem_append_left _ (List.mem_append_left _ (List.mem_append_left _ (List.mem_append_left _ (List.mem_append_left _ (List.mem_append_left _ (List.mem_of_getElem? (i := 9) rfl))))))))))))))) mem_cZ))) (by decide +kernel)) ggX11_observeMany_X11_requirePackets
set_option maxRecDepth 20000 in
theorem ggX11_observeMany_X2_takePackets : GoodIn wsX11_observeMany wsX2_takePackets := goodIn_ca (goodIn_ca ((goodIn_ca (goodIn_ca (goodIn_ca (goodIn_ca (goodIn_ca (goodIn_ca (goodIn_ca (goodIn_ca (goodIn_r _ [20, 21, 22, 23, 24, 25, 26, 27, 19, 28, 29, 30, 31, 32, 33, 34, 35, 36, 37, 38, 39, 40, 41, 42, 43, 44, 45, 46, 47, 48, 49, 50, 51, 52, 53, 54, 55, 56, 57, 58, 4, 59, 60, 61, 62, 63, 64, 65, 66, 67, 68, 69, 70, 71, 72, 73, 74, 75, 76, 77, 78, 79, 80, 81, 82, 83, 84, 85, 86, 87, 88, 89, 90, 91, 92, 93, 94, 95, 96, 97, 98, 99, 100, 101, 102, 103, 104, 105, 106, 107, 108, 109, 110, 111, 112, 113, 114, 115, 116, 117, 118, 119, 120, 121, 122, 123, 124, 125, 126, 127, 128, 129, 130, 131, 132, 133, 134, 135, 136, 137, 138, 139, 140, 141, 142, 10, 143, 144, 145, 146, 147, 148, 149, 150, 151, 152, 153, 154, 155, 156, 157, 158, 159, 160, 161, 162, 163, 164, 165, 166, 167, 168, 169, 170, 171, 172, 173, 174, 175, 176, 177, 178, 179, 180, 181, 182, 183, 184, 185, 186, 187, 188, 189, 190, 191, 192, 193, 194, 195, 196, 197, 198, 199, 200, 201, 202, 203, 204, 205, 206, 207, 208, 209, 210, 211, 212, 213, 214, 215, 216, 217, 218, 219, 220, 221, 222, 223, 224] rfl (by decide +kernel)) (goodIn_sub (fun _ h => List.mem_cons_of_mem _ (List.mem_append_left _ (List.mem_append_left _ (List.mem_append_left _ (List.mem_append_left _ (List.mem_append_left _ (List.mem_append_left _ (List.mem_append_left _ (List.mem_append_left _ (List.mem_append_left _ (List.mem_append_left _ (List.mem_append_right _ h)))))))))))) gw_wsX20)) (goodIn_sub (fun _ h => List.mem_cons_of_mem _ (List.mem_append_left _ (List.mem_append_left _ (List.mem_append_left _ (List.mem_append_left _ (List.mem_append_left _ (List.mem_append_left _ (List.mem_append_left _ (List.mem_append_left _ (List.mem_append_left _ (List.mem_append_right _ h))))))))))) gw_wsX30)) (goodIn_sub (fun _ h => List.mem_cons_of_mem _ (List.mem_append_left _ (List.mem_append_left _ (List.mem_append_left _ (List.mem_append_left _ (List.mem_append_left _ (List.mem_append_left _ (List.mem_append_left _ (List.mem_append_left _ (List.mem_append_right _ h)))))))))) gw_wsX40)) (goodIn_sub (fun _ h => List.mem_cons_of_mem _ (List.mem_append_left _ (List.mem_append_left _ (List.mem_append_left _ (List.mem_append_left _ (List.mem_append_left _ (List.mem_append_left _ (List.mem_append_left _ (List.mem_append_right _ h))))))))) gw_wsX100)) (goodIn_sub (fun _ h => List.mem_cons_of_mem _ (List.mem_append_left _ (List.mem_append_left _ (List.mem_append_left _ (List.mem_append_left _ (List.mem_append_left _ (List.mem_append_left _ (List.mem_append_right _ h)))))))) gw_wsX10)) (goodIn_sub (fun _ h => List.mem_cons_of_mem _ (List.mem_append_left _ (List.mem_append_left _ (List.mem_append_left _ (List.mem_append_left _ (List.mem_append_left _ (List.mem_append_right _ h))))))) gw_wsX80)) (goodIn_sub (fun _ h => List.mem_cons_of_mem _ (List.mem_append_left _ (List.mem_append_left _ (List.mem_append_left _ (List.mem_append_left _ (List.mem_append_right _ h)))))) gw_wsX50)) (goodIn_sub (fun _ h => List.mem_cons_of_mem _ (List.mem_append_left _ (List.mem_append_left _ (List.mem_append_left _ (List.mem_append_right _ h))))) gw_wsX70))) (goodIn_sub (fun _ h => List.mem_cons_of_mem _ (List.mem_append_left _ (List.mem_append_right _ h))) (all_fg _))) (goodIn_sub (fun _ h => List.mem_cons_of_mem _ (List.mem_append_right _ h)) (all_fg _))
set_option maxRecDepth 20000 in
theorem gX11_observeMany_X2_takePackets : GoodIn wsX11_observeMany (wsV RX11 129 RX2 yX2_takePackets wsX2_takePackets) := goodIn_app (goodIn_m (mem_cA (List.mem_cons_of_mem _ (List.mem_append_left _ (List.mem_append_left _ (List.mem_append_left _ (List.mem_append_left _ (List.mem_append_left _ (List.mem_append_left _ (List.mem_append_left _ (List.mem_append_left _ (List.mem_append_left _ (List.mem_append_left _ (List.mem_append_left _ (List.mem_append_left _ (List.mem_append_left _ (List.mem_of_getElem? (i := 15) rfl))))))))))))))) (mem_cA (List.mem_cons_of_mem _ (List.mem_append_left _ (List.mem_append_left _ (List.mem_append_left _ (List.mem_append_left _ (List.mem_append_left _ (List.mem_append_left _ (List.mem_append_left _ (List.mem_append_left _ (List.mem_append_left _ (List.mem_append_left _ (List.mem_append_left _ (List.mem_append_left _ (List.mem_append_left _ (List.mem_of_getElem? (i := 16) rfl))))))))))))))) (mem_cA (List.mem_cons_of_mem _ (List.mem_append_left _ (List.mem_append_left _ (List.mem_append_left _ (List.mem_append_left _ (List.mem_append_left _ (List.mem_append_left _ (List.mem_append_left _ (List.mem_append_left _ (List.mem_append_left _ (List.mem_append_left _ (List.mem_append_left _ (List.mem_append_left _ (List.mem_append_left _ (List.mem_of_getElem? (i := 17) rfl))))))))))))))) (mem_cA (List.mem_cons_of_mem _ (List.mem_append_left _ (List.mem_append_left _ (List.mem_append_left _ (List.mem_append_left _ (List.mem_append_left _ (List.mem_append_left _ (List.mem_append_left _ (List.mem_append_left _ (List.mem_append_left _ (List.mem_append_left _ (List.mem_append_left _ (List.mem_append_left _ (List.mem_append_left _ (List.mem_of_getElem? (i := 18) rfl))))))))))))))) mem_cZ)))) (by decide +kernel)) ggX11_observeMany_X2_takePackets
theorem dX11_observeMany_0 : decode cX11_observeMany 0 = .ok (.iload_n 1, 1) := by decide +kernel
theorem dX11_observeMany_1 : decode cX11_observeMany 1 = .ok (.iload_n 2, 1) := by decide +kernel
theorem dX11_observeMany_2 : decode cX11_observeMany 2 = .ok (.iload_n 3, 1) := by decide +kernel
theorem dX11_observeMany_3 : decode cX11_observeMany 3 = .ok (.iload 4, 2) := by decide +kernel
theorem dX11_observeMany_5 : decode cX11_observeMany 5 = .ok (.invokestatic 119, 3) := by decide +kernel
theorem dX11_observeMany_8 : decode cX11_observeMany 8 = .ok (.lstore 7, 2) := by decide +kernel
theorem dX11_observeMany_10 : decode cX11_observeMany 10 = .ok (.lload 7, 2) := by decide +kernel
theorem dX11_observeMany_12 : decode cX11_observeMany 12 = .ok (.iload 5, 2) := by decide +kernel
theorem dX11_observeMany_14 : decode cX11_observeMany 14 = .ok (.iload 6, 2) := by decide +kernel
theorem dX11_observeMany_16 : decode cX11_observeMany 16 = .ok (.invokestatic 125, 3) := by decide +kernel
theorem dX11_observeMany_19 : decode cX11_observeMany 19 = .ok (.aload_n 0, 1) := by decide +kernel
theorem dX11_observeMany_20 : decode cX11_observeMany 20 = .ok (.getfield 55, 3) := by decide +kernel
theorem dX11_observeMany_23 : decode cX11_observeMany 23 = .ok (.lload 7, 2) := by decide +kernel
theorem dX11_observeMany_25 : decode cX11_observeMany 25 = .ok (.iload 5, 2) := by decide +kernel
theorem dX11_observeMany_27 : decode cX11_observeMany 27 = .ok (.iload 6, 2) := by decide +kernel
theorem dX11_observeMany_29 : decode cX11_observeMany 29 = .ok (.invokevirtual 129, 3) := by decide +kernel
theorem dX11_observeMany_32 : decode cX11_observeMany 32 = .ok (.ireturn, 1) := by decide +kernel
/-! the exporter's calls, as functions -/
theorem xp_d (a : Int32) (d : Nat) : a + nI d - a = nI d := by
  rw [ex_1, Int32.sub_self, Int32.zero_add]
noncomputable def srS (c : Cf) (a : Int32) (s : XS) (r : Nat) : Int32 × XS × Nat × Nat := if ¬ (1 ≤ a.toInt ∧ a.toInt ≤ 1024) then (-1, s, r, 0) else if a.toNatClampNeg = r then (0, s, r, 0) else (nI s.1, exI c s s.1, a.toNatClampNeg, s.1)
theorem srS_no {c : Cf} {a : Int32} {s : XS} {r : Nat} (h : ¬ (1 ≤ a.toInt ∧ a.toInt ≤ 1024)) : srS c a s r = (-1, s, r, 0) := if_pos h
theorem srS_eq {c : Cf} {m r : Nat} {s : XS} (h : 1 ≤ m ∧ m ≤ 1024) (e : m = r) : srS c (nI m) s r = (0, s, r, 0) := by
  unfold srS
  rw [if_neg (by rw [nI_toInt (by omega)]; omega), nI_clamp (by omega), if_pos e]
theorem srS_ne {c : Cf} {m r n : Nat} {F F1 : Nat → Fl} {u u1 : Int64} (h : 1 ≤ m ∧ m ≤ 1024) (e : ¬ m = r) (hx : exI c (n, F, u) n = (0, F1, u1)) : srS c (nI m) (n, F, u) r = (nI n, (0, F1, u1), m, n) := by
  unfold srS
  rw [if_neg (by rw [nI_toInt (by omega)]; omega), nI_clamp (by omega), if_neg e, hx]
/-- the draws' state behind a seed -/
noncomputable def sdN (a : Int32) (w : Nat) : Nat := if a.toInt < 0 then w else a.toNatClampNeg
theorem sdN_no {a : Int32} {w : Nat} (h : a.toInt < 0) : sdN a w = w := if_pos h
theorem sdN_ok {m w : Nat} (h : m < 2147483648) : sdN (nI m) w = m := by
  unfold sdN
  rw [if_neg (by rw [nI_toInt (by omega)]; omega), nI_clamp (by omega)]
theorem sdN_lt {a : Int32} {w : Nat} (h : w < 2147483648) : sdN a w < 2147483648 := by
  unfold sdN
  split
  · exact h
  · have h1 := a.toInt_lt
    have h2 : a.toNatClampNeg = a.toInt.toNat := rfl
    omega
/-- a flow's field -/
noncomputable def vlL (v : Fl) : Nat → Int64
  | 0 => (nI (v.1 / 2 ^ 32 % 2 ^ 8)).toInt64
  | 1 => (nI (v.1 / 2 ^ 24 % 2 ^ 8)).toInt64
  | 2 => (nI (v.1 / 2 ^ 8 % 2 ^ 16)).toInt64
  | 3 => (nI (v.1 % 256)).toInt64
  | 4 => v.2.1
  | 5 => v.2.2.1
  | 6 => (nI v.2.2.2.1).toInt64
  | _ => (nI v.2.2.2.2).toInt64
/-- advance is not refused: its ticks, its end -/
noncomputable def Av1 (a : Int32) : Prop := 1 ≤ a.toInt ∧ a.toInt ≤ 1000
noncomputable def Av2 (t : Nat) (a : Int32) : Prop := (t : Int) + a.toInt ≤ 1000000
noncomputable def AvP (t : Nat) (a : Int32) : Prop := 1 ≤ a.toInt ∧ a.toInt ≤ 1000 ∧ (t : Int) + a.toInt ≤ 1000000
noncomputable def trU (a b d f g : Int32) (s : Nat × (Nat → Fl)) : Int64 := @ite Int64 (KyP a b d f) (Classical.propDecidable _) (trL (kyN a b d f) g s) 0
theorem trU_y {a b d f g : Int32} {s : Nat × (Nat → Fl)} (h : KyP a b d f) : trU a b d f g s = trL (kyN a b d f) g s := if_pos h
theorem trU_n {a b d f g : Int32} {s : Nat × (Nat → Fl)} (h : ¬ KyP a b d f) : trU a b d f g s = 0 := if_neg h
theorem tkI_c {c : Cf} {K t r m : Nat} {b : Int64} {s z : TS} (h : tkI c K b t r s m = z) (hm : m ≤ 200) : tkI c K b t r s (nI m).toNatClampNeg = z := by
  rw [nI_clamp (by omega)]
  exact h
theorem rmS_c {K m t : Nat} {b : Int64} {s z : Nat × (Nat → Fl)} (h : rmS K b m t s = z) (hm : m ≤ 200) : rmS K b (nI m).toNatClampNeg t s = z := by
  rw [nI_clamp (by omega)]
  exact h
/-- cached is not refused: its place, its field -/
noncomputable def Ca1 (n : Nat) (a : Int32) : Prop := 0 ≤ a.toInt ∧ a.toInt < n
noncomputable def Ca2 (b : Int32) : Prop := 0 ≤ b.toInt ∧ b.toInt ≤ 7
noncomputable def CaP (n : Nat) (a b : Int32) : Prop := 0 ≤ a.toInt ∧ a.toInt < n ∧ 0 ≤ b.toInt ∧ b.toInt ≤ 7
noncomputable def Fz : Nat → Fl := fun _ => (0, 0, 0, 0, 0)
theorem TbR.z0 {G : EnvG} {x k cap n w : Nat} {F F1 : Nat → Fl} {p : Nat → Nat} {Φ : Hm} (h : TbR G x k cap n w F p Φ) : TbR G x k cap 0 w F1 p Φ := ⟨h.1, h.2.1, h.2.2.1, Nat.zero_le _, fun j hj => absurd hj (Nat.not_lt_zero j)⟩
/-- the exporter's state: flows, what was really observed, rate, draws, exports of the interval, sampled, unsent -/
abbrev ZS : Type := (Nat × (Nat → Fl)) × (Nat × (Nat → Fl)) × Int32 × Int32 × Int32 × Int64 × Int64
/-- what load leaves of the exporter -/
noncomputable def LdX (b : Nat → Int32) (z0 : ZS) (c1 : Cf) (z1 : ZS) : Prop := (∃ (q m : Nat) (c : Cf), txA b 702 0 cB 0 = (0, q, m, c) ∧ z1 = ((0, Fz), (0, Fz), c1 0, 1, 0, 0, 0)) ∨ (∃ (er s m : Nat) (c : Cf), txA b 702 0 cB 0 = (er, s, m, c) ∧ ¬ er = 0 ∧ z1 = z0)
theorem LdX_fun {b : Nat → Int32} {z0 z1 z2 : ZS} {c1 : Cf} (h : LdX b z0 c1 z1) (h2 : LdX b z0 c1 z2) : z1 = z2 := by
  rcases h with ⟨q, m, c, e, rfl⟩ | ⟨er, s, m, c, e, he, rfl⟩ <;> rcases h2 with ⟨q2, m2, d, g, rfl⟩ | ⟨er2, s2, m2, d, g, hg, rfl⟩
  · rfl
  · have h3 := e.symm.trans g
    injection h3 with h4 h5
    exact absurd h4.symm hg
  · have h3 := e.symm.trans g
    injection h3 with h4 h5
    exact absurd h4 he
  · rfl

/-! what every text leaves of templates and uses: a template behind the last has no fields, uses are below 4 -/
noncomputable def CfH (c : Cf) : Prop := ∃ n : Nat, n ≤ 4 ∧ c 10 = nI n ∧ (∀ u, n ≤ u → u < 4 → c (11 + u) = 0) ∧ (∀ j, j < 256 → ∃ u : Nat, u ≤ 3 ∧ c (51 + j) = nI u) ∧ (∃ r : Nat, 1 ≤ r ∧ r ≤ 1024 ∧ c 0 = nI r) ∧ ∃ r : Nat, 256 ≤ r ∧ r ≤ 600 ∧ c 7 = nI r
theorem CfH.upd {c : Cf} {w : Nat} {v : Int32} (h : CfH c) (hw : (1 ≤ w ∧ w < 10 ∧ ¬ w = 7) ∨ (15 ≤ w ∧ w < 51)) : CfH (upd c w v) := by
  obtain ⟨n, h1, h2, h3, h4, ⟨r, h5, h6, h7⟩, r2, h8, h9, h10⟩ := h
  refine ⟨n, h1, (upd_ne (by omega)).trans h2, fun u q1 q2 => (upd_ne (by omega)).trans (h3 u q1 q2), fun j hj => ?_, ⟨r, h5, h6, (upd_ne (by omega)).trans h7⟩, r2, h8, h9, (upd_ne (by omega)).trans h10⟩
  obtain ⟨u, q1, q2⟩ := h4 j hj
  exact ⟨u, q1, (upd_ne (by omega)).trans q2⟩
theorem endA_1 {b : Nat → Int32} {r : RS} (h : (endA b r).1 = 0) : r.1 = 0 := by
  by_cases h1 : r.1 = 0
  · exact h1
  · have e : endA b r = r := if_neg h1
    rw [e] at h
    exact h
theorem endA_c {b : Nat → Int32} {r : RS} : (endA b r).2.2 = r.2.2 := by
  by_cases h1 : r.1 = 0
  · have e : endA b r = ((semi b r.2.1).1, (semi b r.2.1).2, r.2.2) := if_pos h1
    rw [e]
  · have e : endA b r = r := if_neg h1
    rw [e]
theorem wd_rg {L : List (List Nat)} {b : Nat → Int32} {k s e : Nat} (h : ¬ wd L b k s e = -1) : ∃ j, j < L.length ∧ wd L b k s e = nI j := by
  unfold wd at h ⊢
  by_cases hk : k = 2
  · rw [if_pos hk] at h ⊢
    obtain ⟨r, hr⟩ := WI_ex L b s (e - s)
    rw [wi_eq hr] at h ⊢
    rcases hr with ⟨j, h1, h2, -⟩ | ⟨h1, -⟩
    · exact ⟨j, h1, h2⟩
    · exact absurd h1 h
  · rw [if_neg hk] at h
    exact absurd rfl h
theorem setA_H {b : Nat → Int32} {p w : Nat} {c : Cf} (h : CfH c) (hw : w < 10) : CfH (setA b p w c).2.2 := by
  unfold setA
  by_cases h1 : (numAt b p (loS w) (hiS w)).1 = 0
  · rw [if_pos h1]
    by_cases h0 : w = 0
    · subst h0
      have hr := numAt_rg h1
      have e1 : loS 0 = 1 := rfl
      have e2 : hiS 0 = 1024 := rfl
      rw [e1, e2] at hr ⊢
      obtain ⟨n, g1, g2, g3, g4, -, r2, g8, g9, g10⟩ := h
      show CfH (upd c 0 (nI (numAt b p 1 1024).2.2))
      refine ⟨n, g1, (upd_ne (by omega)).trans g2, fun u q1 q2 => (upd_ne (by omega)).trans (g3 u q1 q2), fun j hj => ?_, ⟨(numAt b p 1 1024).2.2, by omega, by omega, upd_at⟩, r2, g8, g9, (upd_ne (by omega)).trans g10⟩
      obtain ⟨u, q1, q2⟩ := g4 j hj
      exact ⟨u, q1, (upd_ne (by omega)).trans q2⟩
    · by_cases h7 : w = 7
      · subst h7
        have hr := numAt_rg h1
        have e1 : loS 7 = 256 := rfl
        have e2 : hiS 7 = 600 := rfl
        rw [e1, e2] at hr ⊢
        obtain ⟨n, g1, g2, g3, g4, ⟨r, g5, g6, g7⟩, -⟩ := h
        show CfH (upd c 7 (nI (numAt b p 256 600).2.2))
        refine ⟨n, g1, (upd_ne (by omega)).trans g2, fun u q1 q2 => (upd_ne (by omega)).trans (g3 u q1 q2), fun j hj => ?_, ⟨r, g5, g6, (upd_ne (by omega)).trans g7⟩, (numAt b p 256 600).2.2, by omega, by omega, upd_at⟩
        obtain ⟨u, q1, q2⟩ := g4 j hj
        exact ⟨u, q1, (upd_ne (by omega)).trans q2⟩
      · exact h.upd (Or.inl ⟨by omega, hw, h7⟩)
  · rw [if_neg h1]
    exact h
theorem refA_H {b : Nat → Int32} {p : Nat} {c : Cf} (h : CfH c) : CfH (refA b p c).2.2 := by
  unfold refA
  by_cases h1 : (setA b p 4 c).1 = 0
  · rw [if_pos h1]
    exact setA_H (setA_H h (by decide)) (by decide)
  · rw [if_neg h1]
    exact setA_H h (by decide)
theorem drpA_H {b : Nat → Int32} {p : Nat} {c : Cf} (h : CfH c) : CfH (drpA b p c).2.2 := by
  unfold drpA
  by_cases h1 : wd fdW b (tk b p).1 (tk b p).2.1 (tk b p).2.2 = -1
  · rw [if_pos h1]
    exact h
  · rw [if_neg h1]
    exact h.upd (Or.inl (by decide))
theorem useA_H {b : Nat → Int32} {p : Nat} {c : Cf} (h : CfH c) : CfH (useA b p c).2.2 := by
  unfold useA
  by_cases h1 : (numAt b p 0 255).1 = 0
  · rw [if_pos h1]
    by_cases h2 : (numAt b (numAt b p 0 255).2.1 0 ((c 10).toInt - 1)).1 = 0
    · rw [if_pos h2]
      have ra := numAt_rg h1
      have rb := numAt_rg h2
      obtain ⟨n, g1, g2, g3, g4, ⟨r, g5, g6, g7⟩, r2, g8, g9, g10⟩ := h
      have e10 : (c 10).toInt = (n : Nat) := by
        rw [g2]
        exact nI_toInt (by omega)
      rw [e10] at rb ⊢
      show CfH (upd c (51 + (numAt b p 0 255).2.2) (nI (numAt b (numAt b p 0 255).2.1 0 (((n : Nat) : Int) - 1)).2.2))
      refine ⟨n, g1, (upd_ne (by omega)).trans g2, fun u q1 q2 => (upd_ne (by omega)).trans (g3 u q1 q2), fun j hj => ?_, ⟨r, g5, g6, (upd_ne (by omega)).trans g7⟩, r2, g8, g9, (upd_ne (by omega)).trans g10⟩
      by_cases e : 51 + j = 51 + (numAt b p 0 255).2.2
      · rw [e]
        exact ⟨(numAt b (numAt b p 0 255).2.1 0 (((n : Nat) : Int) - 1)).2.2, by omega, upd_at⟩
      · obtain ⟨u, q1, q2⟩ := g4 j hj
        exact ⟨u, q1, (upd_ne e).trans q2⟩
    · rw [if_neg h2]
      exact h
  · rw [if_neg h1]
    exact h
theorem tplA_H {b : Nat → Int32} : ∀ (k p : Nat) (c : Cf) (m : Nat) (ms : Int32), CfH c → ¬ c 10 = 4 → k + m = 10 → (tplA b k p c m ms).1 = 0 → CfH (tplA b k p c m ms).2.2
  | 0, p, c, m, ms, _, _, _, h => absurd (show (1 : Nat) = 0 from h) (by decide)
  | k + 1, p, c, m, ms, hc, h4, hk, h => by
    have hc2 := hc
    obtain ⟨n, g1, g2, g3, g4, ⟨r, g5, g6, g7⟩, r2, g8, g9, g10⟩ := hc2
    have hn : ¬ n = 4 := fun e => h4 (by rw [g2, e]; rfl)
    have en : (c 10).toNatClampNeg = n := by
      rw [g2]
      exact nI_clamp (by omega)
    unfold tplA at h ⊢
    by_cases h1 : ¬ m = 0 ∧ (tk b p).1 = 4
    · rw [if_pos h1]
      rw [en, g2]
      have e5 : nI n + 1 = nI (n + 1) := nI_add n 1
      rw [e5]
      show CfH (upd (upd c (11 + n) (nI m)) 10 (nI (n + 1)))
      refine ⟨n + 1, by omega, upd_at, fun u q1 q2 => ?_, fun j hj => ?_, ⟨r, g5, g6, (upd_ne (by decide)).trans ((upd_ne (by omega)).trans g7)⟩, r2, g8, g9, (upd_ne (by decide)).trans ((upd_ne (by omega)).trans g10)⟩
      · exact (upd_ne (by omega)).trans ((upd_ne (by omega)).trans (g3 u (by omega) q2))
      · obtain ⟨u, q1, q2⟩ := g4 j hj
        exact ⟨u, q1, (upd_ne (by omega)).trans ((upd_ne (by omega)).trans q2)⟩
    · rw [if_neg h1] at h ⊢
      by_cases h2 : wd fdW b (tk b p).1 (tk b p).2.1 (tk b p).2.2 = -1
      · rw [if_pos h2]
        exact hc
      · rw [if_neg h2] at h ⊢
        by_cases h3 : (ms >>> (wd fdW b (tk b p).1 (tk b p).2.1 (tk b p).2.2 &&& 31)) &&& 1 = 1
        · rw [if_pos h3]
          exact hc
        · rw [if_neg h3] at h ⊢
          rcases Nat.eq_zero_or_pos k with hk0 | hk0
          · subst hk0
            exact absurd (show (1 : Nat) = 0 from h) (by decide)
          · refine tplA_H k _ _ (m + 1) _ (hc.upd (Or.inr ?_)) ?_ (by omega) h
            · rw [en]
              omega
            · rw [en, upd_ne (by omega)]
              exact h4
theorem stK_H {b : Nat → Int32} {k s e : Nat} {c : Cf} (hc : CfH c) (h : (stK b k s e c).1 = 0) : CfH (stK b k s e c).2.2 := by
  unfold stK at h ⊢
  by_cases h1 : wd stW b k s e = -1
  · rw [if_pos h1] at h
    exact absurd (show (1 : Nat) = 0 from h) (by decide)
  · obtain ⟨j, hj, ej⟩ := wd_rg h1
    have hj2 : j < 12 := hj
    rw [if_neg h1] at h ⊢
    by_cases h2 : wd stW b k s e = 9
    · rw [if_pos h2] at h ⊢
      by_cases h3 : c 10 = 4
      · rw [if_pos h3] at h
        exact absurd (show (4 : Nat) = 0 from h) (by decide)
      · rw [if_neg h3] at h ⊢
        exact tplA_H 10 e c 0 0 hc h3 rfl h
    · rw [if_neg h2] at h ⊢
      by_cases h3 : wd stW b k s e = 10
      · rw [if_pos h3, endA_c]
        exact useA_H hc
      · rw [if_neg h3] at h ⊢
        by_cases h4 : wd stW b k s e = 11
        · rw [if_pos h4, endA_c]
          exact drpA_H hc
        · rw [if_neg h4] at h ⊢
          by_cases h5 : wd stW b k s e = 4
          · rw [if_pos h5, endA_c]
            exact refA_H hc
          · rw [if_neg h5, endA_c]
            refine setA_H hc ?_
            rw [ej] at h2 h3 h4 ⊢
            rw [nI_clamp (by omega)]
            have k2 : ¬ j = 9 := fun q => h2 (by rw [q]; rfl)
            have k3 : ¬ j = 10 := fun q => h3 (by rw [q]; rfl)
            have k4 : ¬ j = 11 := fun q => h4 (by rw [q]; rfl)
            omega
theorem txA_H {b : Nat → Int32} : ∀ (k p : Nat) (c : Cf) (n : Nat), CfH c → (txA b k p c n).1 = 0 → CfH (txA b k p c n).2.2.2
  | 0, p, c, n, _, h => absurd (show (1 : Nat) = 0 from h) (by decide)
  | k + 1, p, c, n, hc, h => by
    unfold txA at h ⊢
    by_cases h1 : (tk b p).1 = 0
    · rw [if_pos h1]
      exact hc
    · rw [if_neg h1] at h ⊢
      by_cases h2 : (stK b (tk b p).1 (tk b p).2.1 (tk b p).2.2 c).1 = 0
      · rw [if_pos h2] at h ⊢
        exact txA_H k _ _ (n + 1) (stK_H hc h2) h
      · rw [if_neg h2] at h
        exact absurd h h2
theorem cB_H : CfH cB := ⟨0, by decide, rfl, fun u _ hu => cB_hi (by omega), fun j _ => ⟨0, by decide, cB_hi (by omega)⟩, ⟨1, by decide, by decide, rfl⟩, 512, by decide, by decide, rfl⟩
theorem finC_G {c : Cf} (h : CfH c) : CfG (finC c) := by
  obtain ⟨n, g1, g2, g3, g4, ⟨r, g5, g6, g7⟩, r2, g8, g9, g10⟩ := h
  by_cases h0 : c 10 = 0
  · have e : finC c = usC c := if_pos h0
    rw [e]
    refine ⟨fun j hj => ?_, fun u m hu e1 hm => ?_, ⟨r, g5, g6, ?_⟩, r2, g8, g9, ?_⟩
    · obtain ⟨u, q1, q2⟩ := g4 j hj
      refine ⟨u, q1, ?_⟩
      unfold usC
      rw [if_neg (by omega), if_neg (by omega), if_neg (by omega)]
      exact q2
    · have hn : n = 0 := (nI_eq (a := n) (b := 0) (by omega) (by decide)).mp (g2.symm.trans h0)
      have e2 : usC c 10 = 1 := rfl
      have e3 : nI m = 1 := e1.symm.trans e2
      have h1 : m = 1 := (nI_eq (a := m) (b := 1) (by omega) (by decide)).mp e3
      unfold usC
      rw [if_neg (by omega), if_neg (by omega), if_neg (by omega)]
      exact g3 u (by omega) hu
    · unfold usC
      rw [if_neg (by omega), if_neg (by omega), if_neg (by omega)]
      exact g7
    · unfold usC
      rw [if_neg (by omega), if_neg (by omega), if_neg (by omega)]
      exact g10
  · have e : finC c = c := if_neg h0
    rw [e]
    refine ⟨g4, fun u m hu e1 hm => ?_, ⟨r, g5, g6, g7⟩, r2, g8, g9, g10⟩
    have h1 : n = m := (nI_eq (a := n) (b := m) (by omega) (by omega)).mp (g2.symm.trans e1)
    exact g3 u (by omega) hu
/-- the configuration behind a load is as good as the one before -/
theorem CfL_G {b : Nat → Int32} {c0 c1 : Cf} (h : CfL b c0 c1) (h0 : CfG c0) : CfG c1 := by
  rcases h with ⟨q, m, c, e, rfl⟩ | ⟨er, s, m, c, -, -, rfl⟩
  · have h1 : (txA b 702 0 cB 0).1 = 0 := by rw [e]
    have h2 := txA_H (b := b) 702 0 cB 0 cB_H h1
    rw [e] at h2
    exact finC_G h2
  · exact h0
theorem suC_G {c : Cf} {a v : Int32} (h : CfG c) : CfG (suC c a v) := by
  unfold suC
  by_cases e : suV c a = v
  · rw [if_pos e]
    exact h
  · rw [if_neg e]
    obtain ⟨⟨r, g5, g6, g7⟩, r2, g8, g9, g10⟩ := h.2.2
    refine ⟨fun j hj => ?_, fun u n hu e1 hn => ?_, ⟨r, g5, g6, (upd_ne (by decide)).trans g7⟩, r2, g8, g9, (upd_ne (by decide)).trans g10⟩
    · obtain ⟨u, q1, q2⟩ := h.1 j hj
      exact ⟨u, q1, (upd_ne (by omega)).trans q2⟩
    · exact (upd_ne (by omega)).trans (h.2.1 u n hu ((upd_ne (by decide)).symm.trans e1) hn)

set_option maxHeartbeats 4000000 in
set_option maxRecDepth 100000 in
theorem s_X11_cacheSizeX (G : EnvG) (l : Launch) (Φ : Hm) (sz x ca : Nat) (n : Nat) (hx : G.2.2.2 ≤ x) (hI : In G x ca Φ) (hc0 : Φ (x + 81) = some (o_ 6 [.ref (x + 82), .int (nI n)])) : Ct G l yX11_cacheSize wsX11_cacheSize ({ frames := 0, cells := 0, slots := 0, locals := 0 }) 0 0 [.ref x] Φ sz (fun v Φ1 sz1 => (v = some (.int (nI n))) ∧ sz1 = sz ∧ In G x (ca) Φ1 ∧ Fr x (fun j9 => False) Φ Φ1) := by
  refine Ct.of (cc := cX11_cacheSize) (maxL := 1) (ret := (some .int)) (by decide) rfl (Nat.le_of_ble_eq_true rfl) ?_
  intro p9 e9 s9 m9 w9 t9 k9 B
  show Z p9 l e9 _ s9 m9 _ w9 t9 k9 _ G 1 0 [(0, .ref x)] [] Φ sz 0 0
  refine z_aload_n B dX11_cacheSize_0 rfl 0 rfl ?_
  have h_1 := in0 (k := 0) hI rfl
  have h_2 : Φ x = some (o_ 13 [.ref (x + 1), .ref (x + 3), .ref (x + 24), .ref (x + 46), .ref (x + 74), .ref (x + 80), .ref (x + 132), .ref (x + 121)]) := h_1
  refine z_get (ref := "FlowExporter") (C := RX11) (T := TX11) (N := 8) (ci := 13) (v := .ref (x + 80)) B hu_X11_cacheSize_X11 rfl 5 (Nat.le_of_ble_eq_true rfl) hv_X11_cacheSize_55 rfl h_2 rfl dX11_cacheSize_1 ?_
  obtain ⟨v_1, v_2, v_3, v_4, v_5, v_6, v_7, v_8, v_9, h_3, b_1⟩ := in16 (k := 80) hI rfl
  have h_4 : Φ (x + 80) = some (o_ 4 [.ref (x + 3), .ref (x + 74), .ref (x + 81), .ref (x + 95), .int v_1, .int v_2, .int v_3, .int v_4, .int v_5, .int v_6, .long v_7, .long v_8, .long v_9]) := h_3
  refine z_get (ref := "FlowExporter$Exporter") (C := RX2) (T := TX2) (N := 13) (ci := 4) (v := .ref (x + 81)) B hu_X11_cacheSize_X2 rfl 2 (Nat.le_of_ble_eq_true rfl) hv_X11_cacheSize_146 rfl h_4 rfl dX11_cacheSize_4 ?_
  refine z_get (ref := "FlowExporter$FlowTable") (C := RX4) (T := TX4) (N := 2) (ci := 6) (v := .int (nI n)) B hu_X11_cacheSize_X4 rfl 1 (Nat.le_of_ble_eq_true rfl) hv_X11_cacheSize_150 rfl hc0 rfl dX11_cacheSize_7 ?_
  exact z_ret_i B dX11_cacheSize_10 ⟨rfl, rfl, hI, (fun b9 h9 => rfl)⟩

set_option maxHeartbeats 4000000 in
set_option maxRecDepth 100000 in
theorem s_X11_rateX (G : EnvG) (l : Launch) (Φ : Hm) (sz x ca : Nat) (tm : Nat) (r : Nat) (w : Nat) (aq : Int32) (xp : Int32) (xb : Int32) (ob : Int64) (sm : Int64) (un : Int64) (hx : G.2.2.2 ≤ x) (hI : In G x ca Φ) (hc0 : Φ (x + 80) = some (o_ 4 [.ref (x + 3), .ref (x + 74), .ref (x + 81), .ref (x + 95), .int (nI tm), .int (nI r), .int (nI w), .int aq, .int xp, .int xb, .long ob, .long sm, .long un])) (had : aq = 0 ∨ aq = 1) : Ct G l yX11_rate wsX11_rate ({ frames := 0, cells := 0, slots := 0, locals := 0 }) 0 0 [.ref x] Φ sz (fun v Φ1 sz1 => (v = some (.int (nI r))) ∧ sz1 = sz ∧ In G x (ca) Φ1 ∧ Fr x (fun j9 => False) Φ Φ1) := by
  refine Ct.of (cc := cX11_rate) (maxL := 1) (ret := (some .int)) (by decide) rfl (Nat.le_of_ble_eq_true rfl) ?_
  intro p9 e9 s9 m9 w9 t9 k9 B
  show Z p9 l e9 _ s9 m9 _ w9 t9 k9 _ G 1 0 [(0, .ref x)] [] Φ sz 0 0
  refine z_aload_n B dX11_rate_0 rfl 0 rfl ?_
  have h_1 := in0 (k := 0) hI rfl
  have h_2 : Φ x = some (o_ 13 [.ref (x + 1), .ref (x + 3), .ref (x + 24), .ref (x + 46), .ref (x + 74), .ref (x + 80), .ref (x + 132), .ref (x + 121)]) := h_1
  refine z_get (ref := "FlowExporter") (C := RX11) (T := TX11) (N := 8) (ci := 13) (v := .ref (x + 80)) B hu_X11_rate_X11 rfl 5 (Nat.le_of_ble_eq_true rfl) hv_X11_rate_55 rfl h_2 rfl dX11_rate_1 ?_
  refine z_get (ref := "FlowExporter$Exporter") (C := RX2) (T := TX2) (N := 13) (ci := 4) (v := .int (nI r)) B hu_X11_rate_X2 rfl 5 (Nat.le_of_ble_eq_true rfl) hv_X11_rate_164 rfl hc0 rfl dX11_rate_4 ?_
  exact z_ret_i B dX11_rate_7 ⟨rfl, rfl, hI, (fun b9 h9 => rfl)⟩

set_option maxHeartbeats 4000000 in
set_option maxRecDepth 100000 in
theorem s_X11_sampledX (G : EnvG) (l : Launch) (Φ : Hm) (sz x ca : Nat) (tm : Nat) (r : Nat) (w : Nat) (aq : Int32) (xp : Int32) (xb : Int32) (ob : Int64) (sm : Int64) (un : Int64) (hx : G.2.2.2 ≤ x) (hI : In G x ca Φ) (hc0 : Φ (x + 80) = some (o_ 4 [.ref (x + 3), .ref (x + 74), .ref (x + 81), .ref (x + 95), .int (nI tm), .int (nI r), .int (nI w), .int aq, .int xp, .int xb, .long ob, .long sm, .long un])) (had : aq = 0 ∨ aq = 1) : Ct G l yX11_sampled wsX11_sampled ({ frames := 0, cells := 0, slots := 0, locals := 0 }) 0 0 [.ref x] Φ sz (fun v Φ1 sz1 => (v = some (.long sm)) ∧ sz1 = sz ∧ In G x (ca) Φ1 ∧ Fr x (fun j9 => False) Φ Φ1) := by
  refine Ct.of (cc := cX11_sampled) (maxL := 1) (ret := (some .long)) (by decide) rfl (Nat.le_of_ble_eq_true rfl) ?_
  intro p9 e9 s9 m9 w9 t9 k9 B
  show Z p9 l e9 _ s9 m9 _ w9 t9 k9 _ G 1 0 [(0, .ref x)] [] Φ sz 0 0
  refine z_aload_n B dX11_sampled_0 rfl 0 rfl ?_
  have h_1 := in0 (k := 0) hI rfl
  have h_2 : Φ x = some (o_ 13 [.ref (x + 1), .ref (x + 3), .ref (x + 24), .ref (x + 46), .ref (x + 74), .ref (x + 80), .ref (x + 132), .ref (x + 121)]) := h_1
  refine z_get (ref := "FlowExporter") (C := RX11) (T := TX11) (N := 8) (ci := 13) (v := .ref (x + 80)) B hu_X11_sampled_X11 rfl 5 (Nat.le_of_ble_eq_true rfl) hv_X11_sampled_55 rfl h_2 rfl dX11_sampled_1 ?_
  refine z_get (ref := "FlowExporter$Exporter") (C := RX2) (T := TX2) (N := 13) (ci := 4) (v := .long sm) B hu_X11_sampled_X2 rfl 11 (Nat.le_of_ble_eq_true rfl) hv_X11_sampled_185 rfl hc0 rfl dX11_sampled_4 ?_
  exact z_ret_l B dX11_sampled_7 ⟨rfl, rfl, hI, (fun b9 h9 => rfl)⟩

set_option maxHeartbeats 4000000 in
set_option maxRecDepth 100000 in
theorem s_X11_unsentX (G : EnvG) (l : Launch) (Φ : Hm) (sz x ca : Nat) (tm : Nat) (r : Nat) (w : Nat) (aq : Int32) (xp : Int32) (xb : Int32) (ob : Int64) (sm : Int64) (un : Int64) (hx : G.2.2.2 ≤ x) (hI : In G x ca Φ) (hc0 : Φ (x + 80) = some (o_ 4 [.ref (x + 3), .ref (x + 74), .ref (x + 81), .ref (x + 95), .int (nI tm), .int (nI r), .int (nI w), .int aq, .int xp, .int xb, .long ob, .long sm, .long un])) (had : aq = 0 ∨ aq = 1) : Ct G l yX11_unsent wsX11_unsent ({ frames := 0, cells := 0, slots := 0, locals := 0 }) 0 0 [.ref x] Φ sz (fun v Φ1 sz1 => (v = some (.long un)) ∧ sz1 = sz ∧ In G x (ca) Φ1 ∧ Fr x (fun j9 => False) Φ Φ1) := by
  refine Ct.of (cc := cX11_unsent) (maxL := 1) (ret := (some .long)) (by decide) rfl (Nat.le_of_ble_eq_true rfl) ?_
  intro p9 e9 s9 m9 w9 t9 k9 B
  show Z p9 l e9 _ s9 m9 _ w9 t9 k9 _ G 1 0 [(0, .ref x)] [] Φ sz 0 0
  refine z_aload_n B dX11_unsent_0 rfl 0 rfl ?_
  have h_1 := in0 (k := 0) hI rfl
  have h_2 : Φ x = some (o_ 13 [.ref (x + 1), .ref (x + 3), .ref (x + 24), .ref (x + 46), .ref (x + 74), .ref (x + 80), .ref (x + 132), .ref (x + 121)]) := h_1
  refine z_get (ref := "FlowExporter") (C := RX11) (T := TX11) (N := 8) (ci := 13) (v := .ref (x + 80)) B hu_X11_unsent_X11 rfl 5 (Nat.le_of_ble_eq_true rfl) hv_X11_unsent_55 rfl h_2 rfl dX11_unsent_1 ?_
  refine z_get (ref := "FlowExporter$Exporter") (C := RX2) (T := TX2) (N := 13) (ci := 4) (v := .long un) B hu_X11_unsent_X2 rfl 12 (Nat.le_of_ble_eq_true rfl) hv_X11_unsent_188 rfl hc0 rfl dX11_unsent_4 ?_
  exact z_ret_l B dX11_unsent_7 ⟨rfl, rfl, hI, (fun b9 h9 => rfl)⟩

set_option maxHeartbeats 4000000 in
set_option maxRecDepth 100000 in
theorem s_X2_exportAllAndSendX (G : EnvG) (l : Launch) (Φ : Hm) (sz x ca : Nat) (tm : Nat) (r : Nat) (w : Nat) (aq : Int32) (xp : Int32) (xb : Int32) (ob : Int64) (sm : Int64) (un : Int64) (n : Nat) (Fs : Nat → Fl) (pp : Nat → Nat) (t : Nat) (s : Nat) (c : Cf) (hx : G.2.2.2 ≤ x) (hI : In G x ca Φ) (hc0 : Φ (x + 80) = some (o_ 4 [.ref (x + 3), .ref (x + 74), .ref (x + 81), .ref (x + 95), .int (nI tm), .int (nI r), .int (nI w), .int aq, .int xp, .int xb, .long ob, .long sm, .long un])) (hc1 : Φ (x + 81) = some (o_ 6 [.ref (x + 82), .int (nI n)])) (hcf0 : TbC G x n 99 Fs pp Φ) (hcf1 : CfA G x t s c Φ) (hn : n ≤ 12) (hg : CfG c) (had : aq = 0 ∨ aq = 1) : Ct G l yX2_exportAllAndSend wsX2_exportAllAndSend ({ frames := 5, cells := 0, slots := 0, locals := 125 }) 0 0 [.ref (x + 80)] Φ sz (fun v Φ1 sz1 => (∃ (F8 : Nat → Fl) (u8 : Int64) (p8 : Nat → Nat), v = some (.int (nI n)) ∧ Φ1 (x + 80) = some (o_ 4 [.ref (x + 3), .ref (x + 74), .ref (x + 81), .ref (x + 95), .int (nI tm), .int (nI r), .int (nI w), .int aq, .int (xp + nI n), .int xb, .long ob, .long sm, .long u8]) ∧ Φ1 (x + 81) = some (o_ 6 [.ref (x + 82), .int (nI 0)]) ∧ TbC G x 0 99 F8 p8 Φ1 ∧ (exI c (n, Fs, un) n = (0, F8, u8))) ∧ sz1 = sz ∧ In G x (ca) Φ1 ∧ Fr x (fun j9 => 46 ≤ j9 ∧ j9 < 95) Φ Φ1) := by
  refine Ct.of (cc := cX2_exportAllAndSend) (maxL := 2) (ret := (some .int)) (by decide) rfl (Nat.le_of_ble_eq_true rfl) ?_
  intro p9 e9 s9 m9 w9 t9 k9 B
  show Z p9 l e9 _ s9 m9 _ w9 t9 k9 _ G 2 0 [(0, .ref (x + 80))] [] Φ sz 0 0
  refine z_aload_n B dX2_exportAllAndSend_0 rfl 0 rfl ?_
  refine z_get (ref := "FlowExporter$Exporter") (C := RX2) (T := TX2) (N := 13) (ci := 4) (v := .ref (x + 81)) B hu_X2_exportAllAndSend_X2 rfl 2 (Nat.le_of_ble_eq_true rfl) hv_X2_exportAllAndSend_14 rfl hc0 rfl dX2_exportAllAndSend_1 ?_
  refine z_get (ref := "FlowExporter$FlowTable") (C := RX4) (T := TX4) (N := 2) (ci := 6) (v := .int (nI n)) B hu_X2_exportAllAndSend_X4 rfl 1 (Nat.le_of_ble_eq_true rfl) hv_X2_exportAllAndSend_61 rfl hc1 rfl dX2_exportAllAndSend_4 ?_
  refine z_istore_n (lv' := [(1, .int (nI n)), (0, .ref (x + 80))]) B dX2_exportAllAndSend_7 rfl (Nat.le_of_ble_eq_true rfl) rfl ?_
  refine z_aload_n B dX2_exportAllAndSend_8 rfl 1 rfl ?_
  refine z_callV (As := []) (rest := []) B (s_X2_exportAllX G l Φ sz x (ca) tm r w aq xp xb ob sm un n Fs pp t s c hx hI hc0 hc1 hcf0 hcf1 (show n ≤ 12 by omega) hg had) (cwV 0 B.1.2.2.2.2 gX2_exportAllAndSend_X2_exportAll rfl rfl rfl (by decide +kernel) ⟨Nat.le_of_ble_eq_true rfl, Nat.le_of_ble_eq_true rfl⟩) hc0 rfl rfl rfl rfl (Nat.le_of_ble_eq_true rfl) dX2_exportAllAndSend_9 ⟨Nat.le_of_ble_eq_true rfl, Nat.le_of_ble_eq_true rfl⟩ (fun r_1 Φ1 sz1 st1 hp1 hs1 => ?_)
  obtain ⟨⟨f_1, v_1, f_2, rfl, h_1, h_2, hcg1, e_1⟩, hq1, hI1, hF1⟩ := hp1
  subst sz1
  replace hs1 : st1 = [] := hs1
  subst st1
  replace hI1 : In G x (ca) Φ1 := hI1
  replace e_1 : exI c (n, Fs, un) n = (0, f_1, v_1) := e_1
  refine z_aload_n B dX2_exportAllAndSend_12 rfl 1 rfl ?_
  refine z_get (ref := "FlowExporter$Exporter") (C := RX2) (T := TX2) (N := 13) (ci := 4) (v := .ref (x + 74)) B hu_X2_exportAllAndSend_X2 rfl 1 (Nat.le_of_ble_eq_true rfl) hv_X2_exportAllAndSend_57 rfl h_1 rfl dX2_exportAllAndSend_13 ?_
  refine z_aload_n B dX2_exportAllAndSend_16 rfl 1 rfl ?_
  refine z_get (ref := "FlowExporter$Exporter") (C := RX2) (T := TX2) (N := 13) (ci := 4) (v := .int (nI tm)) B hu_X2_exportAllAndSend_X2 rfl 4 (Nat.le_of_ble_eq_true rfl) hv_X2_exportAllAndSend_23 rfl h_1 rfl dX2_exportAllAndSend_17 ?_
  obtain ⟨n_1, v_2, v_3, v_4, h_3, b_1⟩ := in13 (k := 74) hI1 rfl
  have h_4 : Φ1 (x + 74) = some (o_ 10 [.ref (x + 3), .ref (x + 46), .ref (x + 75), .ref (x + 77), .int (nI n_1), .ref (x + 78), .ref (x + 79), .int v_2, .long v_3, .int v_4]) := h_3
  refine z_callV (As := [.int (nI tm)]) (rest := []) B (s_X8_sendPending G l Φ1 sz x (ca) (nI tm) hx hI1 ) (cwV 1 B.1.2.2.2.2 gX2_exportAllAndSend_X8_sendPending rfl rfl rfl (by decide +kernel) ⟨Nat.le_of_ble_eq_true rfl, Nat.le_of_ble_eq_true rfl⟩) h_4 rfl rfl rfl rfl (Nat.le_of_ble_eq_true rfl) dX2_exportAllAndSend_20 ⟨Nat.le_of_ble_eq_true rfl, Nat.le_of_ble_eq_true rfl⟩ (fun r_2 Φ2 sz2 st2 hp2 hs2 => ?_)
  obtain ⟨rfl, hq2, hI2, hF2⟩ := hp2
  subst sz2
  replace hs2 : st2 = [] := hs2
  subst st2
  replace hI2 : In G x (ca) Φ2 := hI2
  refine z_iload_n B dX2_exportAllAndSend_23 rfl 0 rfl ?_
  have hcg2 : TbC G x 0 99 f_1 f_2 Φ2 := (TbC.fr hcg1 hF2 (fun j9 h7 => fq_729 j9 h7))
  have h_5 : Φ2 (x + 80) = some (o_ 4 [.ref (x + 3), .ref (x + 74), .ref (x + 81), .ref (x + 95), .int (nI tm), .int (nI r), .int (nI w), .int aq, .int (xp + nI n), .int xb, .long ob, .long sm, .long v_1]) := ((hF2 (x + 80) fq_260).trans h_1)
  have h_6 : Φ2 (x + 81) = some (o_ 6 [.ref (x + 82), .int (nI 0)]) := ((hF2 (x + 81) fq_730).trans h_2)
  exact z_ret_i B dX2_exportAllAndSend_24 ⟨⟨f_1, v_1, f_2, rfl, h_5, h_6, hcg2, e_1⟩, rfl, hI2, (fun b9 h9 => ((hF2 b9 (fun j9 h8 h7 => h9 j9 h8 (fq_262 j9 h7))).trans ((hF1 b9 (fun j9 h8 h7 => h9 j9 h8 (fq_261 j9 h7))).trans rfl)))⟩

set_option maxHeartbeats 4000000 in
set_option maxRecDepth 100000 in
theorem s_X11_flushX (G : EnvG) (l : Launch) (Φ : Hm) (sz x ca : Nat) (tm : Nat) (r : Nat) (w : Nat) (aq : Int32) (xp : Int32) (xb : Int32) (ob : Int64) (sm : Int64) (un : Int64) (n : Nat) (Fs : Nat → Fl) (pp : Nat → Nat) (t : Nat) (s : Nat) (c : Cf) (hx : G.2.2.2 ≤ x) (hI : In G x ca Φ) (hc0 : Φ (x + 80) = some (o_ 4 [.ref (x + 3), .ref (x + 74), .ref (x + 81), .ref (x + 95), .int (nI tm), .int (nI r), .int (nI w), .int aq, .int xp, .int xb, .long ob, .long sm, .long un])) (hc1 : Φ (x + 81) = some (o_ 6 [.ref (x + 82), .int (nI n)])) (hcf0 : TbC G x n 99 Fs pp Φ) (hcf1 : CfA G x t s c Φ) (hn : n ≤ 12) (hg : CfG c) (had : aq = 0 ∨ aq = 1) : Ct G l yX11_flush wsX11_flush ({ frames := 6, cells := 0, slots := 0, locals := 146 }) 0 0 [.ref x] Φ sz (fun v Φ1 sz1 => (∃ (F8 : Nat → Fl) (u8 : Int64) (p8 : Nat → Nat), v = some (.int (nI n)) ∧ Φ1 (x + 80) = some (o_ 4 [.ref (x + 3), .ref (x + 74), .ref (x + 81), .ref (x + 95), .int (nI tm), .int (nI r), .int (nI w), .int aq, .int (xp + nI n), .int xb, .long ob, .long sm, .long u8]) ∧ Φ1 (x + 81) = some (o_ 6 [.ref (x + 82), .int (nI 0)]) ∧ TbC G x 0 99 F8 p8 Φ1 ∧ (exI c (n, Fs, un) n = (0, F8, u8))) ∧ sz1 = sz ∧ In G x (ca) Φ1 ∧ Fr x (fun j9 => 46 ≤ j9 ∧ j9 < 95) Φ Φ1) := by
  refine Ct.of (cc := cX11_flush) (maxL := 1) (ret := (some .int)) (by decide) rfl (Nat.le_of_ble_eq_true rfl) ?_
  intro p9 e9 s9 m9 w9 t9 k9 B
  show Z p9 l e9 _ s9 m9 _ w9 t9 k9 _ G 1 0 [(0, .ref x)] [] Φ sz 0 0
  refine z_aload_n B dX11_flush_0 rfl 0 rfl ?_
  have h_1 := in0 (k := 0) hI rfl
  have h_2 : Φ x = some (o_ 13 [.ref (x + 1), .ref (x + 3), .ref (x + 24), .ref (x + 46), .ref (x + 74), .ref (x + 80), .ref (x + 132), .ref (x + 121)]) := h_1
  refine z_get (ref := "FlowExporter") (C := RX11) (T := TX11) (N := 8) (ci := 13) (v := .ref (x + 80)) B hu_X11_flush_X11 rfl 5 (Nat.le_of_ble_eq_true rfl) hv_X11_flush_55 rfl h_2 rfl dX11_flush_1 ?_
  refine z_callV (As := []) (rest := []) B (s_X2_exportAllAndSendX G l Φ sz x (ca) tm r w aq xp xb ob sm un n Fs pp t s c hx hI hc0 hc1 hcf0 hcf1 (show n ≤ 12 by omega) hg had) (cwV 0 B.1.2.2.2.2 gX11_flush_X2_exportAllAndSend rfl rfl rfl (by decide +kernel) ⟨Nat.le_of_ble_eq_true rfl, Nat.le_of_ble_eq_true rfl⟩) hc0 rfl rfl rfl rfl (Nat.le_of_ble_eq_true rfl) dX11_flush_4 ⟨Nat.le_of_ble_eq_true rfl, Nat.le_of_ble_eq_true rfl⟩ (fun r_1 Φ1 sz1 st1 hp1 hs1 => ?_)
  obtain ⟨⟨f_1, v_1, f_2, rfl, h_3, h_4, hcg1, e_1⟩, hq1, hI1, hF1⟩ := hp1
  subst sz1
  replace hs1 : st1 = [.int (nI n)] := hs1
  subst st1
  replace hI1 : In G x (ca) Φ1 := hI1
  replace e_1 : exI c (n, Fs, un) n = (0, f_1, v_1) := e_1
  exact z_ret_i B dX11_flush_7 ⟨⟨f_1, v_1, f_2, rfl, h_3, h_4, hcg1, e_1⟩, rfl, hI1, (fun b9 h9 => ((hF1 b9 h9).trans rfl))⟩

set_option maxHeartbeats 4000000 in
set_option maxRecDepth 100000 in
theorem s_X11_setRateX (G : EnvG) (l : Launch) (Φ : Hm) (sz x ca : Nat) (tm : Nat) (r : Nat) (w : Nat) (aq : Int32) (xp : Int32) (xb : Int32) (ob : Int64) (sm : Int64) (un : Int64) (n : Nat) (Fs : Nat → Fl) (pp : Nat → Nat) (t : Nat) (s : Nat) (c : Cf) (a : Int32) (hx : G.2.2.2 ≤ x) (hI : In G x ca Φ) (hc0 : Φ (x + 80) = some (o_ 4 [.ref (x + 3), .ref (x + 74), .ref (x + 81), .ref (x + 95), .int (nI tm), .int (nI r), .int (nI w), .int aq, .int xp, .int xb, .long ob, .long sm, .long un])) (hc1 : Φ (x + 81) = some (o_ 6 [.ref (x + 82), .int (nI n)])) (hcf0 : TbC G x n 99 Fs pp Φ) (hcf1 : CfA G x t s c Φ) (hn : n ≤ 12) (hr : 1 ≤ r ∧ r ≤ 1024) (hg : CfG c) (had : aq = 0 ∨ aq = 1) : Ct G l yX11_setRate wsX11_setRate ({ frames := 6, cells := 0, slots := 0, locals := 146 }) 0 0 [.ref x, .int a] Φ sz (fun v Φ1 sz1 => (∃ (v8 : Int32) (n8 : Nat) (F8 : Nat → Fl) (u8 : Int64) (r8 : Nat) (d8 : Nat) (p8 : Nat → Nat), v = some (.int v8) ∧ Φ1 (x + 80) = some (o_ 4 [.ref (x + 3), .ref (x + 74), .ref (x + 81), .ref (x + 95), .int (nI tm), .int (nI r8), .int (nI w), .int aq, .int (xp + nI d8), .int xb, .long ob, .long sm, .long u8]) ∧ Φ1 (x + 81) = some (o_ 6 [.ref (x + 82), .int (nI n8)]) ∧ TbC G x n8 99 F8 p8 Φ1 ∧ (srS c a (n, Fs, un) r = (v8, (n8, F8, u8), r8, d8)) ∧ (n8 ≤ 12) ∧ (1 ≤ r8 ∧ r8 ≤ 1024)) ∧ sz1 = sz ∧ In G x (ca) Φ1 ∧ Fr x (fun j9 => 46 ≤ j9 ∧ j9 < 95) Φ Φ1) := by
  refine Ct.of (cc := cX11_setRate) (maxL := 3) (ret := (some .int)) (by decide) rfl (Nat.le_of_ble_eq_true rfl) ?_
  intro p9 e9 s9 m9 w9 t9 k9 B
  show Z p9 l e9 _ s9 m9 _ w9 t9 k9 _ G 3 0 [(0, .ref x), (1, .int a)] [] Φ sz 0 0
  refine z_iload_n B dX11_setRate_0 rfl 1 rfl ?_
  refine z_iconst (v := 1) B dX11_setRate_1 rfl ?_
  refine z_icmp_lt (tgt := 12) B dX11_setRate_2 rfl (fun c_1 => ?_) (fun c_1 => ?_)
  · refine z_iconst (v := (-1)) B dX11_setRate_12 rfl ?_
    have k_1 : (1 : Int32).toInt = 1 := by decide
    have q_1 : (a.toInt < (1 : Int32).toInt) := Int32.lt_iff_toInt_lt.mp c_1
    exact z_ret_i B dX11_setRate_13 ⟨⟨_, n, Fs, un, r, 0, pp, rfl, (hc0.trans (congrArg (fun w9 : Int32 => some (o_ 4 [.ref (x + 3), .ref (x + 74), .ref (x + 81), .ref (x + 95), .int (nI tm), .int (nI r), .int (nI w), .int aq, .int w9, .int xb, .long ob, .long sm, .long un])) nadd_0)), hc1, hcf0, srS_no (fun h9 => by omega), by omega, hr⟩, rfl, hI, (fun b9 h9 => rfl)⟩
  · obtain ⟨n_1, e_2, e_1, rfl⟩ := nI_ofge (c := 1) (by omega) c_1
    refine z_iload_n B dX11_setRate_5 rfl 1 rfl ?_
    refine z_sipush (v := 1024) B dX11_setRate_6 rfl ?_
    refine z_icmp_le (tgt := 14) B dX11_setRate_9 rfl (fun c_2 => ?_) (fun c_2 => ?_)
    · have e_3 : n_1 ≤ 1024 := (nI_leI (a := n_1) (b := 1024) (by omega) (by omega)).mp c_2
      refine z_iload_n B dX11_setRate_14 rfl 1 rfl ?_
      refine z_aload_n B dX11_setRate_15 rfl 0 rfl ?_
      have h_1 := in0 (k := 0) hI rfl
      have h_2 : Φ x = some (o_ 13 [.ref (x + 1), .ref (x + 3), .ref (x + 24), .ref (x + 46), .ref (x + 74), .ref (x + 80), .ref (x + 132), .ref (x + 121)]) := h_1
      refine z_get (ref := "FlowExporter") (C := RX11) (T := TX11) (N := 8) (ci := 13) (v := .ref (x + 80)) B hu_X11_setRate_X11 rfl 5 (Nat.le_of_ble_eq_true rfl) hv_X11_setRate_55 rfl h_2 rfl dX11_setRate_16 ?_
      refine z_get (ref := "FlowExporter$Exporter") (C := RX2) (T := TX2) (N := 13) (ci := 4) (v := .int (nI r)) B hu_X11_setRate_X2 rfl 5 (Nat.le_of_ble_eq_true rfl) hv_X11_setRate_164 rfl hc0 rfl dX11_setRate_19 ?_
      refine z_icmp_ne (tgt := 27) B dX11_setRate_22 rfl (fun c_3 => ?_) (fun c_3 => ?_)
      · have e_4 : ¬ (n_1 = r) := fun h9 => c_3 ((nI_eq (a := n_1) (b := r) (by omega) (by omega)).mpr h9)
        refine z_aload_n B dX11_setRate_27 rfl 0 rfl ?_
        refine z_get (ref := "FlowExporter") (C := RX11) (T := TX11) (N := 8) (ci := 13) (v := .ref (x + 80)) B hu_X11_setRate_X11 rfl 5 (Nat.le_of_ble_eq_true rfl) hv_X11_setRate_55 rfl h_2 rfl dX11_setRate_28 ?_
        refine z_callV (As := []) (rest := []) B (s_X2_exportAllAndSendX G l Φ sz x (ca) tm r w aq xp xb ob sm un n Fs pp t s c hx hI hc0 hc1 hcf0 hcf1 (show n ≤ 12 by omega) hg had) (cwV 0 B.1.2.2.2.2 gX11_setRate_X2_exportAllAndSend rfl rfl rfl (by decide +kernel) ⟨Nat.le_of_ble_eq_true rfl, Nat.le_of_ble_eq_true rfl⟩) hc0 rfl rfl rfl rfl (Nat.le_of_ble_eq_true rfl) dX11_setRate_31 ⟨Nat.le_of_ble_eq_true rfl, Nat.le_of_ble_eq_true rfl⟩ (fun r_1 Φ1 sz1 st1 hp1 hs1 => ?_)
        obtain ⟨⟨f_1, v_1, f_2, rfl, h_3, h_4, hcg1, e_5⟩, hq1, hI1, hF1⟩ := hp1
        subst sz1
        replace hs1 : st1 = [.int (nI n)] := hs1
        subst st1
        replace hI1 : In G x (ca) Φ1 := hI1
        replace e_5 : exI c (n, Fs, un) n = (0, f_1, v_1) := e_5
        refine z_istore_n (lv' := [(2, .int (nI n)), (0, .ref x), (1, .int (nI n_1))]) B dX11_setRate_34 rfl (Nat.le_of_ble_eq_true rfl) rfl ?_
        refine z_aload_n B dX11_setRate_35 rfl 1 rfl ?_
        have h_5 : Φ1 x = some (o_ 13 [.ref (x + 1), .ref (x + 3), .ref (x + 24), .ref (x + 46), .ref (x + 74), .ref (x + 80), .ref (x + 132), .ref (x + 121)]) := ((hF1 x fq_505).trans h_2)
        refine z_get (ref := "FlowExporter") (C := RX11) (T := TX11) (N := 8) (ci := 13) (v := .ref (x + 80)) B hu_X11_setRate_X11 rfl 5 (Nat.le_of_ble_eq_true rfl) hv_X11_setRate_55 rfl h_5 rfl dX11_setRate_36 ?_
        refine z_iload_n B dX11_setRate_39 rfl 2 rfl ?_
        refine z_put (ref := "FlowExporter$Exporter") (C := RX2) (T := TX2) (N := 13) (ci := 4) (v := .int (nI n_1)) B hu_X11_setRate_X2 tyX2 tyX2_ok nmX2 rfl 5 (Nat.le_of_ble_eq_true rfl) hv_X11_setRate_164 rfl (Or.inl rfl) h_3 (Nat.le_trans hx (Nat.le_add_right x 80)) rfl rfl (Nat.le_of_ble_eq_true rfl) dX11_setRate_40 (fun Φ2 hΦ1 => ?_)
        have h_6 : Φ2 (x + 80) = some (o_ 4 [.ref (x + 3), .ref (x + 74), .ref (x + 81), .ref (x + 95), .int (nI tm), .int (nI n_1), .int (nI w), .int aq, .int (xp + nI n), .int xb, .long ob, .long sm, .long v_1]) := fset_at hΦ1
        have hI2 : In G x (ca) Φ2 := In.put (k := 80) hI1 hΦ1 (ok16 (k := 80) rfl ⟨nI tm, nI n_1, nI w, aq, xp + nI n, xb, ob, sm, v_1, rfl, had⟩)
        refine z_iload_n B dX11_setRate_43 rfl 0 rfl ?_
        have hcg2 : TbC G x 0 99 f_1 f_2 Φ2 := (TbC.off (k := 80) hcg1 hΦ1 (by omega))
        have h_7 : Φ2 (x + 81) = some (o_ 6 [.ref (x + 82), .int (nI 0)]) := ((fset_fr hΦ1 (ne_off (x := x) (i := 81) (j := 80) rfl)).trans h_4)
        exact z_ret_i B dX11_setRate_44 ⟨⟨_, 0, f_1, v_1, n_1, n, f_2, rfl, h_6, h_7, hcg2, srS_ne (by omega) (by omega) e_5, by omega, by omega⟩, rfl, hI2, (fun b9 h9 => ((fset_fr hΦ1 (fun h8 => h9 (80) h8 (show 46 ≤ 80 ∧ 80 < 95 by decide))).trans ((hF1 b9 h9).trans rfl)))⟩
      · have e_6 : n_1 = r := (nI_eq (a := n_1) (b := r) (by omega) (by omega)).mp c_3
        refine z_iconst (v := 0) B dX11_setRate_25 rfl ?_
        exact z_ret_i B dX11_setRate_26 ⟨⟨_, n, Fs, un, r, 0, pp, rfl, (hc0.trans (congrArg (fun w9 : Int32 => some (o_ 4 [.ref (x + 3), .ref (x + 74), .ref (x + 81), .ref (x + 95), .int (nI tm), .int (nI r), .int (nI w), .int aq, .int w9, .int xb, .long ob, .long sm, .long un])) nadd_0)), hc1, hcf0, srS_eq (by omega) (by omega), by omega, hr⟩, rfl, hI, (fun b9 h9 => rfl)⟩
    · have e_7 : ¬ (n_1 ≤ 1024) := fun h9 => c_2 ((nI_leI (a := n_1) (b := 1024) (by omega) (by omega)).mpr h9)
      refine z_iconst (v := (-1)) B dX11_setRate_12 rfl ?_
      have k_2 : (nI n_1).toInt = ((n_1 : Nat) : Int) := nI_toInt (by omega)
      have k_3 : (1 : Int32).toInt = 1 := by decide
      have q_2 : ¬ ((nI n_1).toInt < (1 : Int32).toInt) := fun h9 => c_1 (Int32.lt_iff_toInt_lt.mpr h9)
      have k_4 : (1024 : Int32).toInt = 1024 := by decide
      have q_3 : ¬ ((nI n_1).toInt ≤ (1024 : Int32).toInt) := fun h9 => c_2 (Int32.le_iff_toInt_le.mpr h9)
      exact z_ret_i B dX11_setRate_13 ⟨⟨_, n, Fs, un, r, 0, pp, rfl, (hc0.trans (congrArg (fun w9 : Int32 => some (o_ 4 [.ref (x + 3), .ref (x + 74), .ref (x + 81), .ref (x + 95), .int (nI tm), .int (nI r), .int (nI w), .int aq, .int w9, .int xb, .long ob, .long sm, .long un])) nadd_0)), hc1, hcf0, srS_no (fun h9 => by omega), by omega, hr⟩, rfl, hI, (fun b9 h9 => rfl)⟩

theorem fq_740 {x : Nat} : ∀ j9 : Nat, x + 81 = x + j9 → (74 ≤ j9 ∧ j9 < 80) → False := by
  intro j9 h1 h2
  omega

theorem fq_741 : ∀ j9 : Nat, (74 ≤ j9 ∧ j9 < 80) → ¬ (82 ≤ j9 ∧ j9 < 95) := by
  intro j9 h
  omega

set_option maxHeartbeats 4000000 in
set_option maxRecDepth 100000 in
theorem s_X11_restartExporterX (G : EnvG) (l : Launch) (Φ : Hm) (sz x ca : Nat) (tm : Nat) (r : Nat) (w : Nat) (aq : Int32) (xp : Int32) (xb : Int32) (ob : Int64) (sm : Int64) (un : Int64) (n : Nat) (Fs : Nat → Fl) (pp : Nat → Nat) (hx : G.2.2.2 ≤ x) (hI : In G x ca Φ) (hc0 : Φ (x + 80) = some (o_ 4 [.ref (x + 3), .ref (x + 74), .ref (x + 81), .ref (x + 95), .int (nI tm), .int (nI r), .int (nI w), .int aq, .int xp, .int xb, .long ob, .long sm, .long un])) (hc1 : Φ (x + 81) = some (o_ 6 [.ref (x + 82), .int (nI n)])) (hcf0 : TbC G x n 99 Fs pp Φ) (had : aq = 0 ∨ aq = 1) : Ct G l yX11_restartExporter wsX11_restartExporter ({ frames := 3, cells := 0, slots := 0, locals := 63 }) 0 0 [.ref x] Φ sz (fun v Φ1 sz1 => (v = some (.int (nI n)) ∧ Φ1 (x + 80) = some (o_ 4 [.ref (x + 3), .ref (x + 74), .ref (x + 81), .ref (x + 95), .int (nI tm), .int (nI r), .int (nI w), .int aq, .int xp, .int xb, .long ob, .long sm, .long un]) ∧ Φ1 (x + 81) = some (o_ 6 [.ref (x + 82), .int (nI 0)]) ∧ TbC G x 0 99 Fs pp Φ1) ∧ sz1 = sz ∧ In G x (ca) Φ1 ∧ Fr x (fun j9 => 74 ≤ j9 ∧ j9 < 82) Φ Φ1) := by
  refine Ct.of (cc := cX11_restartExporter) (maxL := 2) (ret := (some .int)) (by decide) rfl (Nat.le_of_ble_eq_true rfl) ?_
  intro p9 e9 s9 m9 w9 t9 k9 B
  show Z p9 l e9 _ s9 m9 _ w9 t9 k9 _ G 2 0 [(0, .ref x)] [] Φ sz 0 0
  refine z_aload_n B dX11_restartExporter_0 rfl 0 rfl ?_
  have h_1 := in0 (k := 0) hI rfl
  have h_2 : Φ x = some (o_ 13 [.ref (x + 1), .ref (x + 3), .ref (x + 24), .ref (x + 46), .ref (x + 74), .ref (x + 80), .ref (x + 132), .ref (x + 121)]) := h_1
  refine z_get (ref := "FlowExporter") (C := RX11) (T := TX11) (N := 8) (ci := 13) (v := .ref (x + 80)) B hu_X11_restartExporter_X11 rfl 5 (Nat.le_of_ble_eq_true rfl) hv_X11_restartExporter_55 rfl h_2 rfl dX11_restartExporter_1 ?_
  refine z_get (ref := "FlowExporter$Exporter") (C := RX2) (T := TX2) (N := 13) (ci := 4) (v := .ref (x + 81)) B hu_X11_restartExporter_X2 rfl 2 (Nat.le_of_ble_eq_true rfl) hv_X11_restartExporter_146 rfl hc0 rfl dX11_restartExporter_4 ?_
  refine z_get (ref := "FlowExporter$FlowTable") (C := RX4) (T := TX4) (N := 2) (ci := 6) (v := .int (nI n)) B hu_X11_restartExporter_X4 rfl 1 (Nat.le_of_ble_eq_true rfl) hv_X11_restartExporter_150 rfl hc1 rfl dX11_restartExporter_7 ?_
  refine z_istore_n (lv' := [(1, .int (nI n)), (0, .ref x)]) B dX11_restartExporter_10 rfl (Nat.le_of_ble_eq_true rfl) rfl ?_
  refine z_aload_n B dX11_restartExporter_11 rfl 1 rfl ?_
  refine z_get (ref := "FlowExporter") (C := RX11) (T := TX11) (N := 8) (ci := 13) (v := .ref (x + 80)) B hu_X11_restartExporter_X11 rfl 5 (Nat.le_of_ble_eq_true rfl) hv_X11_restartExporter_55 rfl h_2 rfl dX11_restartExporter_12 ?_
  refine z_get (ref := "FlowExporter$Exporter") (C := RX2) (T := TX2) (N := 13) (ci := 4) (v := .ref (x + 81)) B hu_X11_restartExporter_X2 rfl 2 (Nat.le_of_ble_eq_true rfl) hv_X11_restartExporter_146 rfl hc0 rfl dX11_restartExporter_15 ?_
  refine z_iconst (v := 0) B dX11_restartExporter_18 rfl ?_
  refine z_put (ref := "FlowExporter$FlowTable") (C := RX4) (T := TX4) (N := 2) (ci := 6) (v := .int 0) B hu_X11_restartExporter_X4 tyX4 tyX4_ok nmX4 rfl 1 (Nat.le_of_ble_eq_true rfl) hv_X11_restartExporter_150 rfl (Or.inl rfl) hc1 (Nat.le_trans hx (Nat.le_add_right x 81)) rfl rfl (Nat.le_of_ble_eq_true rfl) dX11_restartExporter_19 (fun Φ1 hΦ1 => ?_)
  have h_3 : Φ1 (x + 81) = some (o_ 6 [.ref (x + 82), .int 0]) := fset_at hΦ1
  have hI1 : In G x (ca) Φ1 := In.put (k := 81) hI hΦ1 (ok17 (k := 81) rfl ⟨0, rfl, (show 0 ≤ 12 by omega)⟩)
  refine z_aload_n B dX11_restartExporter_22 rfl 1 rfl ?_
  have h_4 : Φ1 x = some (o_ 13 [.ref (x + 1), .ref (x + 3), .ref (x + 24), .ref (x + 46), .ref (x + 74), .ref (x + 80), .ref (x + 132), .ref (x + 121)]) := ((fset_fr hΦ1 (ne_off (x := x) (i := 0) (j := 81) rfl)).trans h_2)
  refine z_get (ref := "FlowExporter") (C := RX11) (T := TX11) (N := 8) (ci := 13) (v := .ref (x + 74)) B hu_X11_restartExporter_X11 rfl 4 (Nat.le_of_ble_eq_true rfl) hv_X11_restartExporter_46 rfl h_4 rfl dX11_restartExporter_23 ?_
  obtain ⟨n_1, v_1, v_2, v_3, h_5, b_1⟩ := in13 (k := 74) hI1 rfl
  have h_6 : Φ1 (x + 74) = some (o_ 10 [.ref (x + 3), .ref (x + 46), .ref (x + 75), .ref (x + 77), .int (nI n_1), .ref (x + 78), .ref (x + 79), .int v_1, .long v_2, .int v_3]) := h_5
  refine z_callV (As := []) (rest := []) B (s_X8_restart G l Φ1 sz x (ca)  hx hI1 ) (cwV 0 B.1.2.2.2.2 gX11_restartExporter_X8_restart rfl rfl rfl (by decide +kernel) ⟨Nat.le_of_ble_eq_true rfl, Nat.le_of_ble_eq_true rfl⟩) h_6 rfl rfl rfl rfl (Nat.le_of_ble_eq_true rfl) dX11_restartExporter_26 ⟨Nat.le_of_ble_eq_true rfl, Nat.le_of_ble_eq_true rfl⟩ (fun r_1 Φ2 sz1 st1 hp1 hs1 => ?_)
  obtain ⟨rfl, hq1, hI2, hF1⟩ := hp1
  subst sz1
  replace hs1 : st1 = [] := hs1
  subst st1
  replace hI2 : In G x (ca) Φ2 := hI2
  refine z_iload_n B dX11_restartExporter_29 rfl 0 rfl ?_
  have h_7 : Φ2 (x + 80) = some (o_ 4 [.ref (x + 3), .ref (x + 74), .ref (x + 81), .ref (x + 95), .int (nI tm), .int (nI r), .int (nI w), .int aq, .int xp, .int xb, .long ob, .long sm, .long un]) := ((hF1 (x + 80) fq_394).trans ((fset_fr hΦ1 (ne_off (x := x) (i := 80) (j := 81) rfl)).trans hc0))
  have h_8 : Φ2 (x + 81) = some (o_ 6 [.ref (x + 82), .int 0]) := ((hF1 (x + 81) fq_740).trans h_3)
  have hcg1 : TbC G x n 99 Fs pp Φ2 := (TbC.fr (TbC.off (k := 81) hcf0 hΦ1 (by omega)) hF1 (fun j9 h7 => fq_741 j9 h7))
  exact z_ret_i B dX11_restartExporter_30 ⟨⟨rfl, h_7, h_8, (TbR.less hcg1 (Nat.zero_le _))⟩, rfl, hI2, (fun b9 h9 => ((hF1 b9 (fun j9 h8 h7 => h9 j9 h8 (fq_441 j9 h7))).trans ((fset_fr hΦ1 (fun h8 => h9 (81) h8 (show 74 ≤ 81 ∧ 81 < 82 by decide))).trans rfl)))⟩

set_option maxHeartbeats 4000000 in
set_option maxRecDepth 100000 in
theorem s_X11_setSeedX (G : EnvG) (l : Launch) (Φ : Hm) (sz x ca : Nat) (tm : Nat) (r : Nat) (w : Nat) (aq : Int32) (xp : Int32) (xb : Int32) (ob : Int64) (sm : Int64) (un : Int64) (a : Int32) (hx : G.2.2.2 ≤ x) (hI : In G x ca Φ) (hc0 : Φ (x + 80) = some (o_ 4 [.ref (x + 3), .ref (x + 74), .ref (x + 81), .ref (x + 95), .int (nI tm), .int (nI r), .int (nI w), .int aq, .int xp, .int xb, .long ob, .long sm, .long un])) (hw : w < 2147483648) (had : aq = 0 ∨ aq = 1) : Ct G l yX11_setSeed wsX11_setSeed ({ frames := 0, cells := 0, slots := 0, locals := 0 }) 0 0 [.ref x, .int a] Φ sz (fun v Φ1 sz1 => (∃ r9 : Int32, v = some (.int r9) ∧ (r9 = 0 ∨ r9 = 1) ∧ Φ1 (x + 80) = some (o_ 4 [.ref (x + 3), .ref (x + 74), .ref (x + 81), .ref (x + 95), .int (nI tm), .int (nI r), .int (nI (sdN a w)), .int aq, .int xp, .int xb, .long ob, .long sm, .long un])) ∧ sz1 = sz ∧ In G x (ca) Φ1 ∧ Fr x (fun j9 => j9 = 80) Φ Φ1) := by
  refine Ct.of (cc := cX11_setSeed) (maxL := 2) (ret := (some .boolean)) (by decide) rfl (Nat.le_of_ble_eq_true rfl) ?_
  intro p9 e9 s9 m9 w9 t9 k9 B
  show Z p9 l e9 _ s9 m9 _ w9 t9 k9 _ G 2 0 [(0, .ref x), (1, .int a)] [] Φ sz 0 0
  refine z_iload_n B dX11_setSeed_0 rfl 1 rfl ?_
  refine z_if_ge (tgt := 6) B dX11_setSeed_1 rfl (fun c_1 => ?_) (fun c_1 => ?_)
  · obtain ⟨n_1, e_1, rfl⟩ := nI_of (Int32.not_lt.mpr c_1)
    refine z_aload_n B dX11_setSeed_6 rfl 0 rfl ?_
    have h_1 := in0 (k := 0) hI rfl
    have h_2 : Φ x = some (o_ 13 [.ref (x + 1), .ref (x + 3), .ref (x + 24), .ref (x + 46), .ref (x + 74), .ref (x + 80), .ref (x + 132), .ref (x + 121)]) := h_1
    refine z_get (ref := "FlowExporter") (C := RX11) (T := TX11) (N := 8) (ci := 13) (v := .ref (x + 80)) B hu_X11_setSeed_X11 rfl 5 (Nat.le_of_ble_eq_true rfl) hv_X11_setSeed_55 rfl h_2 rfl dX11_setSeed_7 ?_
    refine z_iload_n B dX11_setSeed_10 rfl 1 rfl ?_
    refine z_put (ref := "FlowExporter$Exporter") (C := RX2) (T := TX2) (N := 13) (ci := 4) (v := .int (nI n_1)) B hu_X11_setSeed_X2 tyX2 tyX2_ok nmX2 rfl 6 (Nat.le_of_ble_eq_true rfl) hv_X11_setSeed_175 rfl (Or.inl rfl) hc0 (Nat.le_trans hx (Nat.le_add_right x 80)) rfl rfl (Nat.le_of_ble_eq_true rfl) dX11_setSeed_11 (fun Φ1 hΦ1 => ?_)
    have h_3 : Φ1 (x + 80) = some (o_ 4 [.ref (x + 3), .ref (x + 74), .ref (x + 81), .ref (x + 95), .int (nI tm), .int (nI r), .int (nI n_1), .int aq, .int xp, .int xb, .long ob, .long sm, .long un]) := fset_at hΦ1
    have hI1 : In G x (ca) Φ1 := In.put (k := 80) hI hΦ1 (ok16 (k := 80) rfl ⟨nI tm, nI r, nI n_1, aq, xp, xb, ob, sm, un, rfl, had⟩)
    refine z_iconst (v := 1) B dX11_setSeed_14 rfl ?_
    have k_1 : (nI n_1).toInt = ((n_1 : Nat) : Int) := nI_toInt (by omega)
    have k_2 : (0 : Int32).toInt = 0 := by decide
    have q_1 : ((0 : Int32).toInt ≤ (nI n_1).toInt) := Int32.le_iff_toInt_le.mp c_1
    exact z_ret_z B dX11_setSeed_15 (by decide) ⟨⟨1, rfl, Or.inr rfl, (h_3.trans (congrArg (fun w9 : Nat => some (o_ 4 [.ref (x + 3), .ref (x + 74), .ref (x + 81), .ref (x + 95), .int (nI tm), .int (nI r), .int (nI w9), .int aq, .int xp, .int xb, .long ob, .long sm, .long un])) (sdN_ok (by omega)).symm))⟩, rfl, hI1, (fun b9 h9 => ((fset_fr hΦ1 (fun h8 => h9 (80) h8 (show 80 = 80 by decide))).trans rfl))⟩
  · refine z_iconst (v := 0) B dX11_setSeed_4 rfl ?_
    have k_3 : (0 : Int32).toInt = 0 := by decide
    have q_2 : ¬ ((0 : Int32).toInt ≤ a.toInt) := fun h9 => c_1 (Int32.le_iff_toInt_le.mpr h9)
    exact z_ret_z B dX11_setSeed_5 (by decide) ⟨⟨0, rfl, Or.inl rfl, (hc0.trans (congrArg (fun w9 : Nat => some (o_ 4 [.ref (x + 3), .ref (x + 74), .ref (x + 81), .ref (x + 95), .int (nI tm), .int (nI r), .int (nI w9), .int aq, .int xp, .int xb, .long ob, .long sm, .long un])) (sdN_no (by omega)).symm))⟩, rfl, hI, (fun b9 h9 => rfl)⟩

theorem rq_by {a : Int64} {b d : Int32} (h : ¬ RqP a b d) : ∃ n : Nat, (1 ≤ n ∧ n ≤ 65535) ∧ b = nI n := by
  unfold RqP at h
  refine ⟨b.toInt.toNat, by omega, ?_⟩
  apply Int32.toInt_inj.mp
  rw [nI_toInt (by omega)]
  omega

theorem hu_X11_observeMany_X11 : ∀ w ∈ u_ws RX11 TX11 8, w ∈ wsX11_observeMany := fun _ h => List.mem_cons_of_mem _ (List.mem_append_left _ (List.mem_append_left _ (List.mem_append_left _ (List.mem_append_left _ (List.mem_append_left _ (List.mem_append_left _ (List.mem_append_left _ (List.mem_append_left _ (List.mem_append_left _ (List.mem_append_left _ (List.mem_append_left _ (List.mem_append_right _ (h)))))))))))))

theorem hv_X11_observeMany_55 : Cond.fieldLink RX11 55 "FlowExporter" (TX11 5).2.1 (TX11 5).2.2.1 ∈ wsX11_observeMany := List.mem_cons_of_mem _ (List.mem_append_left _ (List.mem_append_left _ (List.mem_append_left _ (List.mem_append_left _ (List.mem_append_left _ (List.mem_append_left _ (List.mem_append_left _ (List.mem_append_left _ (List.mem_append_left _ (List.mem_append_left _ (List.mem_append_left _ (List.mem_append_left _ (List.mem_append_left _ (List.mem_of_getElem? (i := 0) rfl))))))))))))))

set_option maxHeartbeats 4000000 in
set_option maxRecDepth 100000 in
theorem s_X11_observeManyX (G : EnvG) (l : Launch) (hl9 : l.stackTraces = false) (Φ : Hm) (sz x ca : Nat) (tm : Nat) (r : Nat) (w : Nat) (aq : Int32) (xp : Int32) (xb : Int32) (ob : Int64) (sm : Int64) (un : Int64) (n : Nat) (Fs : Nat → Fl) (pp : Nat → Nat) (nT : Nat) (Ft : Nat → Fl) (pt : Nat → Nat) (t : Nat) (s : Nat) (c : Cf) (a : Int32) (b : Int32) (d : Int32) (f : Int32) (g : Int32) (h : Int32) (hx : G.2.2.2 ≤ x) (hI : In G x ca Φ) (hc0 : Φ (x + 80) = some (o_ 4 [.ref (x + 3), .ref (x + 74), .ref (x + 81), .ref (x + 95), .int (nI tm), .int (nI r), .int (nI w), .int aq, .int xp, .int xb, .long ob, .long sm, .long un])) (hc1 : Φ (x + 81) = some (o_ 6 [.ref (x + 82), .int (nI n)])) (hc2 : Φ (x + 95) = some (o_ 6 [.ref (x + 96), .int (nI nT)])) (hcf0 : TbC G x n 99 Fs pp Φ) (hcf1 : TbT G x nT 99 Ft pt Φ) (hcf2 : CfA G x t s c Φ) (hn : n ≤ 12) (hnT : nT ≤ 24) (htm : tm ≤ 1000000) (hr : 1 ≤ r ∧ r ≤ 1024) (hw : w < 2147483648) (hg : CfG c) (had : aq = 0 ∨ aq = 1) : CtB G l yX11_observeMany wsX11_observeMany ({ frames := 7, cells := 1, slots := 6, locals := 151 }) 1 6 [.ref x, .int a, .int b, .int d, .int f, .int g, .int h] Φ sz (fun v Φ1 sz1 => ((∃ (n8 : Nat) (F8 : Nat → Fl) (u8 : Int64) (w8 : Nat) (k8 : Nat) (d8 : Nat) (p8 : Nat → Nat) (m8 : Nat) (G8 : Nat → Fl) (q8 : Nat → Nat), v = some (.int (nI k8)) ∧ Φ1 (x + 80) = some (o_ 4 [.ref (x + 3), .ref (x + 74), .ref (x + 81), .ref (x + 95), .int (nI tm), .int (nI r), .int (nI w8), .int aq, .int (xp + nI d8), .int xb, .long (ob + h.toInt64), .long (sm + (nI k8).toInt64), .long u8]) ∧ Φ1 (x + 81) = some (o_ 6 [.ref (x + 82), .int (nI n8)]) ∧ Φ1 (x + 95) = some (o_ 6 [.ref (x + 96), .int (nI m8)]) ∧ TbC G x n8 99 F8 p8 Φ1 ∧ TbT G x m8 99 G8 q8 Φ1 ∧ (tkI c (kyN a b d f) g.toInt64 tm r ((n, Fs, un), w, 0, 0) h.toNatClampNeg = ((n8, F8, u8), w8, k8, d8)) ∧ (rmS (kyN a b d f) g.toInt64 h.toNatClampNeg tm (nT, Ft) = (m8, G8)) ∧ (n8 ≤ 12) ∧ (m8 ≤ 24) ∧ (w8 < 2147483648)) ∧ ¬ RqP (keyF a b d f) g h) ∧ sz1 = sz ∧ In G x (ca) Φ1 ∧ Fr x (fun j9 => 46 ≤ j9 ∧ j9 < 121) Φ Φ1) (fun Φ1 => (RqP (keyF a b d f) g h) ∧ In G x ca Φ1 ∧ Fr x (fun j9 => False) Φ Φ1) [xIA] := by
  refine CtB.of (cc := cX11_observeMany) (maxL := 9) (ret := (some .int)) (by decide) rfl (Nat.le_of_ble_eq_true rfl) ?_
  intro p9 e9 s9 m9 w9 t9 k9 B htab9
  show Z p9 l e9 _ s9 m9 _ w9 t9 k9 _ G 9 0 [(0, .ref x), (1, .int a), (2, .int b), (3, .int d), (4, .int f), (5, .int g), (6, .int h)] [] Φ sz 0 0
  refine z_iload_n B dX11_observeMany_0 rfl 1 rfl ?_
  refine z_iload_n B dX11_observeMany_1 rfl 2 rfl ?_
  refine z_iload_n B dX11_observeMany_2 rfl 3 rfl ?_
  refine z_iload B dX11_observeMany_3 4 rfl ?_
  refine z_callS (As := [.int a, .int b, .int d, .int f]) (rest := []) B (s_X3_keyOf G l Φ sz x (ca) a b d f hx hI ) (va_cwS 4 B.1.2.2.2.2 gX11_observeMany_X3_keyOf rfl rfl rfl (by decide +kernel) ⟨Nat.le_of_ble_eq_true rfl, Nat.le_of_ble_eq_true rfl⟩) rfl rfl (Nat.le_of_ble_eq_true rfl) dX11_observeMany_5 ⟨Nat.le_of_ble_eq_true rfl, Nat.le_of_ble_eq_true rfl⟩ (fun r_1 Φ1 sz1 st1 hp1 hs1 => ?_)
  obtain ⟨rfl, hq1, hI1, hF1⟩ := hp1
  subst sz1
  replace hs1 : st1 = [.long (keyF a b d f)] := hs1
  subst st1
  replace hI1 : In G x (ca) Φ1 := hI1
  refine z_lstore (lv' := [(7, .long (keyF a b d f)), (0, .ref x), (1, .int a), (2, .int b), (3, .int d), (4, .int f), (5, .int g), (6, .int h)]) B dX11_observeMany_8 (Nat.le_of_ble_eq_true rfl) rfl ?_
  refine z_lload B dX11_observeMany_10 0 rfl ?_
  refine z_iload B dX11_observeMany_12 6 rfl ?_
  refine z_iload B dX11_observeMany_14 7 rfl ?_
  refine zb_callS (As := [.long (keyF a b d f), .int g, .int h]) (rest := []) B htab9 (s_X11_requirePackets G l hl9 Φ1 sz x (ca) (keyF a b d f) g h hx hI1 ) (va_cwS 3 B.1.2.2.2.2 gX11_observeMany_X11_requirePackets rfl rfl rfl (by decide +kernel) ⟨Nat.le_of_ble_eq_true rfl, Nat.le_of_ble_eq_true rfl⟩) rfl rfl (Nat.le_of_ble_eq_true rfl) dX11_observeMany_16 ⟨Nat.le_of_ble_eq_true rfl, Nat.le_of_ble_eq_true rfl⟩ ⟨Nat.le_of_ble_eq_true rfl, Nat.le_of_ble_eq_true rfl⟩ (by decide) (fun Φ9 h9 => ⟨h9.1, h9.2.1, fun b9 h8 => ((h9.2.2 b9 h8).trans ((fun b9 h9 => ((hF1 b9 (fun j9 h8 h7 => (show False from h7).elim)).trans rfl)) b9 h8))⟩) (fun r_2 Φ2 sz2 st2 hp2 hs2 => ?_)
  obtain ⟨⟨rfl, ⟨n_1, b_1, rfl⟩, hq3⟩, hq2, hI2, hF2⟩ := hp2
  subst sz2
  replace hs2 : st2 = [] := hs2
  subst st2
  replace hI2 : In G x (ca) Φ2 := hI2
  replace b_1 : n_1 ≤ 200 := b_1
  replace hq3 : ¬ RqP (keyF a b d f) g (nI n_1) := hq3
  refine z_aload_n B dX11_observeMany_19 rfl 1 rfl ?_
  have h_1 := in0 (k := 0) hI2 rfl
  have h_2 : Φ2 x = some (o_ 13 [.ref (x + 1), .ref (x + 3), .ref (x + 24), .ref (x + 46), .ref (x + 74), .ref (x + 80), .ref (x + 132), .ref (x + 121)]) := h_1
  refine z_get (ref := "FlowExporter") (C := RX11) (T := TX11) (N := 8) (ci := 13) (v := .ref (x + 80)) B hu_X11_observeMany_X11 rfl 5 (Nat.le_of_ble_eq_true rfl) hv_X11_observeMany_55 rfl h_2 rfl dX11_observeMany_20 ?_
  refine z_lload B dX11_observeMany_23 0 rfl ?_
  have hk9 : KyP a b d f := Classical.byContradiction (fun h9 => hq3 (Or.inl (keyF_no h9)))
  have hk8 := keyF_N hk9
  obtain ⟨n_2, b_2, rfl⟩ := rq_by hq3
  refine z_top (st1 := [.long (Int64.ofNat (kyN a b d f)), .ref (x + 80)]) (congrArg (fun w9 : Int64 => ([.long w9, .ref (x + 80)] : List Value)) hk8.1) ?_
  refine z_iload B dX11_observeMany_25 6 rfl ?_
  refine z_iload B dX11_observeMany_27 7 rfl ?_
  have h_3 : Φ2 (x + 80) = some (o_ 4 [.ref (x + 3), .ref (x + 74), .ref (x + 81), .ref (x + 95), .int (nI tm), .int (nI r), .int (nI w), .int aq, .int xp, .int xb, .long ob, .long sm, .long un]) := ((hF2 (x + 80) (fun j9 h8 h7 => (show False from h7).elim)).trans ((hF1 (x + 80) (fun j9 h8 h7 => (show False from h7).elim)).trans hc0))
  have h_4 : Φ2 (x + 81) = some (o_ 6 [.ref (x + 82), .int (nI n)]) := ((hF2 (x + 81) (fun j9 h8 h7 => (show False from h7).elim)).trans ((hF1 (x + 81) (fun j9 h8 h7 => (show False from h7).elim)).trans hc1))
  have h_5 : Φ2 (x + 95) = some (o_ 6 [.ref (x + 96), .int (nI nT)]) := ((hF2 (x + 95) (fun j9 h8 h7 => (show False from h7).elim)).trans ((hF1 (x + 95) (fun j9 h8 h7 => (show False from h7).elim)).trans hc2))
  have hcg1 : TbC G x n 99 Fs pp Φ2 := (TbC.fr (TbC.fr hcf0 hF1 (fun j9 h7 => (show False from h7).elim)) hF2 (fun j9 h7 => (show False from h7).elim))
  have hcg2 : TbT G x nT 99 Ft pt Φ2 := (TbT.fr (TbT.fr hcf1 hF1 (fun j9 h7 => (show False from h7).elim)) hF2 (fun j9 h7 => (show False from h7).elim))
  have hcg3 : CfA G x t s c Φ2 := (CfA.fr (CfA.fr hcf2 hF1 (fun j9 h7 => (show False from h7).elim)) hF2 (fun j9 h7 => (show False from h7).elim))
  refine z_callV (As := [.long (Int64.ofNat (kyN a b d f)), .int (nI n_2), .int (nI n_1)]) (rest := []) B (s_X2_takePacketsX G l Φ2 sz x (ca) tm r w aq xp xb ob sm un n Fs pp nT Ft pt t s c (kyN a b d f) n_2 n_1 hx hI2 h_3 h_4 h_5 hcg1 hcg2 hcg3 (show n ≤ 12 by omega) (show nT ≤ 24 by omega) hk8.2 (show tm ≤ 1000000 by omega) (show 1 ≤ r ∧ r ≤ 1024 by omega) (show w < 2147483648 by omega) (show n_1 ≤ 200 by omega) hg had) (cwV 3 B.1.2.2.2.2 gX11_observeMany_X2_takePackets rfl rfl rfl (by decide +kernel) ⟨Nat.le_of_ble_eq_true rfl, Nat.le_of_ble_eq_true rfl⟩) h_3 rfl rfl rfl rfl (Nat.le_of_ble_eq_true rfl) dX11_observeMany_29 ⟨Nat.le_of_ble_eq_true rfl, Nat.le_of_ble_eq_true rfl⟩ (fun r_3 Φ3 sz3 st3 hp3 hs3 => ?_)
  obtain ⟨⟨n_3, f_1, v_1, n_4, n_5, n_6, f_2, n_7, f_3, f_4, rfl, h_6, h_7, h_8, hcg4, hcg5, e_1, e_2, e_3, e_4, e_5, e_6⟩, hq4, hI3, hF3⟩ := hp3
  subst sz3
  replace hs3 : st3 = [.int (nI n_5)] := hs3
  subst st3
  replace hI3 : In G x (ca) Φ3 := hI3
  replace e_1 : tkI c (kyN a b d f) (nI n_2).toInt64 tm r ((n, Fs, un), w, 0, 0) n_1 = ((n_3, f_1, v_1), n_4, n_5, n_6) := e_1
  replace e_2 : rmS (kyN a b d f) (nI n_2).toInt64 n_1 tm (nT, Ft) = (n_7, f_3) := e_2
  replace e_3 : n_3 ≤ 12 := e_3
  replace e_4 : n_7 ≤ 24 := e_4
  replace e_5 : n_4 < 2147483648 := e_5
  replace e_6 : n_5 ≤ n_1 := e_6
  exact zb_ret (Nat.le_of_ble_eq_true rfl) (Nat.le_of_ble_eq_true rfl) (z_ret_i B dX11_observeMany_32 ⟨⟨⟨n_3, f_1, v_1, n_4, n_5, n_6, f_2, n_7, f_3, f_4, rfl, h_6, h_7, h_8, hcg4, hcg5, (tkI_c e_1 (by omega)), (rmS_c e_2 (by omega)), by omega, by omega, by omega⟩, hq3⟩, rfl, hI3, (fun b9 h9 => ((hF3 b9 h9).trans ((hF2 b9 (fun j9 h8 h7 => (show False from h7).elim)).trans ((hF1 b9 (fun j9 h8 h7 => (show False from h7).elim)).trans rfl))))⟩)

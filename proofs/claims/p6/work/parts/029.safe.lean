set_option maxRecDepth 20000 in
theorem ggX6_readSetting_X6_fail : GoodIn wsX6_readSetting wsX6_fail := (goodIn_ca (goodIn_r _ [7, 8, 9, 10] rfl (by decide +kernel)) (goodIn_sub (fun _ h => List.mem_cons_of_mem _ (List.mem_append_left _ (List.mem_append_left _ (List.mem_append_left _ (List.mem_append_right _ h))))) gw_wsX60))
set_option maxRecDepth 20000 in
theorem gX6_readSetting_X6_fail : GoodIn wsX6_readSetting (wsV RX6 63 RX6 yX6_fail wsX6_fail) := goodIn_app (goodIn_m (mem_cA (List.mem_cons_of_mem _ (List.mem_append_left _ (List.mem_append_left _ (List.mem_append_left _ (List.mem_append_left _ (List.mem_append_left _ (List.mem_of_getElem? (i := 2) rfl))))))) (mem_cA (List.mem_cons_of_mem _ (List.mem_append_left _ (List.mem_append_left _ (List.mem_append_left _ (List.mem_append_left _ (List.mem_append_left _ (List.mem_of_getElem? (i := 3) rfl))))))) (mem_cA (List.mem_cons_of_mem _ (List.mem_append_left _ (List.mem_append_left _ (List.mem_append_left _ (List.mem_append_left _ (List.mem_append_left _ (List.mem_of_getElem? (i := 4) rfl))))))) (mem_cA (List.mem_cons_of_mem _ (List.mem_append_left _ (List.mem_append_left _ (List.mem_append_left _ (List.mem_append_left _ (List.mem_append_left _ (List.mem_of_getElem? (i := 5) rfl))))))) mem_cZ)))) (by decide +kernel)) ggX6_readSetting_X6_fail
set_option maxRecDepth 20000 in
theorem ggX6_readSetting_X6_readNumber : GoodIn wsX6_readSetting wsX6_readNumber := goodIn_ca ((goodIn_ca (goodIn_ca (goodIn_r _ [14, 15, 2, 9, 16, 17, 18, 19, 20, 6, 21, 22, 23, 24, 25, 26, 27, 28, 29, 30, 31, 32, 3, 4, 5, 7, 8, 10] rfl (by decide +kernel)) (goodIn_sub (fun _ h => List.mem_cons_of_mem _ (List.mem_append_left _ (List.mem_append_left _ (List.mem_append_left _ (List.mem_append_right _ h))))) gw_wsX60)) (goodIn_sub (fun _ h => List.mem_cons_of_mem _ (List.mem_append_left _ (List.mem_append_left _ (List.mem_append_right _ h)))) gw_wsX50))) (goodIn_sub (fun _ h => List.mem_cons_of_mem _ (List.mem_append_right _ h)) (all_fg _))
set_option maxRecDepth 20000 in
theorem gX6_readSetting_X6_readNumber : GoodIn wsX6_readSetting (wsV RX6 89 RX6 yX6_readNumber wsX6_readNumber) := goodIn_app (goodIn_m (mem_cA (List.mem_cons_of_mem _ (List.mem_append_left _ (List.mem_append_left _ (List.mem_append_left _ (List.mem_append_left _ (List.mem_append_left _ (List.mem_of_getElem? (i := 10) rfl))))))) (mem_cA (List.mem_cons_of_mem _ (List.mem_append_left _ (List.mem_append_left _ (List.mem_append_left _ (List.mem_append_left _ (List.mem_append_left _ (List.mem_of_getElem? (i := 11) rfl))))))) (mem_cA (List.mem_cons_of_mem _ (List.mem_append_left _ (List.mem_append_left _ (List.mem_append_left _ (List.mem_append_left _ (List.mem_append_left _ (List.mem_of_getElem? (i := 12) rfl))))))) (mem_cA (List.mem_cons_of_mem _ (List.mem_append_left _ (List.mem_append_left _ (List.mem_append_left _ (List.mem_append_left _ (List.mem_append_left _ (List.mem_of_getElem? (i := 5) rfl))))))) mem_cZ)))) (by decide +kernel)) ggX6_readSetting_X6_readNumber
set_option maxRecDepth 20000 in
theorem ggX6_readSetting_X1_set : GoodIn wsX6_readSetting wsX1_set := goodIn_ca ((goodIn_ca (goodIn_r _ [37, 38] rfl (by decide +kernel)) (goodIn_sub (fun _ h => List.mem_cons_of_mem _ (List.mem_append_left _ (List.mem_append_right _ h))) gw_wsX10))) (goodIn_sub (fun _ h => List.mem_cons_of_mem _ (List.mem_append_right _ h)) (all_fg _))
set_option maxRecDepth 20000 in
theorem gX6_readSetting_X1_set : GoodIn wsX6_readSetting (wsV RX6 93 RX1 yX1_set wsX1_set) := goodIn_app (goodIn_m (mem_cA (List.mem_cons_of_mem _ (List.mem_append_left _ (List.mem_append_left _ (List.mem_append_left _ (List.mem_append_left _ (List.mem_append_right _ (List.mem_of_getElem? (i := 8) rfl))))))) (mem_cA (List.mem_cons_of_mem _ (List.mem_append_left _ (List.mem_append_left _ (List.mem_append_left _ (List.mem_append_left _ (List.mem_append_right _ (List.mem_of_getElem? (i := 9) rfl))))))) (mem_cA (List.mem_cons_of_mem _ (List.mem_append_left _ (List.mem_append_left _ (List.mem_append_left _ (List.mem_append_left _ (List.mem_append_right _ (List.mem_of_getElem? (i := 10) rfl))))))) (mem_cA (List.mem_cons_of_mem _ (List.mem_append_left _ (List.mem_append_left _ (List.mem_append_left _ (List.mem_append_left _ (List.mem_append_right _ (List.mem_of_getElem? (i := 11) rfl))))))) mem_cZ)))) (by decide +kernel)) ggX6_readSetting_X1_set
theorem dX6_readSetting_0 : decode cX6_readSetting 0 = .ok (.iload_n 1, 1) := by decide +kernel
theorem dX6_readSetting_1 : decode cX6_readSetting 1 = .ok (.ifCond .lt 19, 3) := by decide +kernel
theorem dX6_readSetting_4 : decode cX6_readSetting 4 = .ok (.iload_n 1, 1) := by decide +kernel
theorem dX6_readSetting_5 : decode cX6_readSetting 5 = .ok (.getstatic 82, 3) := by decide +kernel
theorem dX6_readSetting_8 : decode cX6_readSetting 8 = .ok (.arraylength, 1) := by decide +kernel
theorem dX6_readSetting_9 : decode cX6_readSetting 9 = .ok (.if_icmp .ge 11, 3) := by decide +kernel
theorem dX6_readSetting_12 : decode cX6_readSetting 12 = .ok (.iload_n 1, 1) := by decide +kernel
theorem dX6_readSetting_13 : decode cX6_readSetting 13 = .ok (.getstatic 86, 3) := by decide +kernel
theorem dX6_readSetting_16 : decode cX6_readSetting 16 = .ok (.arraylength, 1) := by decide +kernel
theorem dX6_readSetting_17 : decode cX6_readSetting 17 = .ok (.if_icmp .lt 9, 3) := by decide +kernel
theorem dX6_readSetting_20 : decode cX6_readSetting 20 = .ok (.aload_n 0, 1) := by decide +kernel
theorem dX6_readSetting_21 : decode cX6_readSetting 21 = .ok (.iconst 1, 1) := by decide +kernel
theorem dX6_readSetting_22 : decode cX6_readSetting 22 = .ok (.invokevirtual 63, 3) := by decide +kernel
theorem dX6_readSetting_25 : decode cX6_readSetting 25 = .ok (.ireturn, 1) := by decide +kernel
theorem dX6_readSetting_26 : decode cX6_readSetting 26 = .ok (.aload_n 0, 1) := by decide +kernel
theorem dX6_readSetting_27 : decode cX6_readSetting 27 = .ok (.getstatic 82, 3) := by decide +kernel
theorem dX6_readSetting_30 : decode cX6_readSetting 30 = .ok (.iload_n 1, 1) := by decide +kernel
theorem dX6_readSetting_31 : decode cX6_readSetting 31 = .ok (.iaload, 1) := by decide +kernel
theorem dX6_readSetting_32 : decode cX6_readSetting 32 = .ok (.getstatic 86, 3) := by decide +kernel
theorem dX6_readSetting_35 : decode cX6_readSetting 35 = .ok (.iload_n 1, 1) := by decide +kernel
theorem dX6_readSetting_36 : decode cX6_readSetting 36 = .ok (.iaload, 1) := by decide +kernel
theorem dX6_readSetting_37 : decode cX6_readSetting 37 = .ok (.invokevirtual 89, 3) := by decide +kernel
theorem dX6_readSetting_40 : decode cX6_readSetting 40 = .ok (.ifCond .ne 5, 3) := by decide +kernel
theorem dX6_readSetting_43 : decode cX6_readSetting 43 = .ok (.iconst 0, 1) := by decide +kernel
theorem dX6_readSetting_44 : decode cX6_readSetting 44 = .ok (.ireturn, 1) := by decide +kernel
theorem dX6_readSetting_45 : decode cX6_readSetting 45 = .ok (.aload_n 0, 1) := by decide +kernel
theorem dX6_readSetting_46 : decode cX6_readSetting 46 = .ok (.getfield 12, 3) := by decide +kernel
theorem dX6_readSetting_49 : decode cX6_readSetting 49 = .ok (.iload_n 1, 1) := by decide +kernel
theorem dX6_readSetting_50 : decode cX6_readSetting 50 = .ok (.aload_n 0, 1) := by decide +kernel
theorem dX6_readSetting_51 : decode cX6_readSetting 51 = .ok (.getfield 34, 3) := by decide +kernel
theorem dX6_readSetting_54 : decode cX6_readSetting 54 = .ok (.invokevirtual 93, 3) := by decide +kernel
theorem dX6_readSetting_57 : decode cX6_readSetting 57 = .ok (.iconst 1, 1) := by decide +kernel
theorem dX6_readSetting_58 : decode cX6_readSetting 58 = .ok (.ireturn, 1) := by decide +kernel
/-! the class's configuration that is being read: what is told of it -/
noncomputable def pcN (m : Nat) : Nat := (List.range 9).foldl (fun a k => a + m / 2 ^ k % 2) 0
theorem mskC_all : ∀ m, m < 512 → ∀ j, j < 9 → ((nI m >>> (nI j &&& 31)) &&& 1 = 1 ∨ (nI m ||| ((1 : Int32) <<< (nI j &&& 31)) = nI (m + 2 ^ j) ∧ m + 2 ^ j < 512 ∧ pcN (m + 2 ^ j) = pcN m + 1 ∧ pcN m ≤ 8)) := by decide +kernel
theorem mskC {m j : Nat} (hm : m < 512) (hj : j < 9) (h : ¬ (nI m >>> (nI j &&& 31)) &&& 1 = 1) : nI m ||| ((1 : Int32) <<< (nI j &&& 31)) = nI (m + 2 ^ j) ∧ m + 2 ^ j < 512 ∧ pcN (m + 2 ^ j) = pcN m + 1 ∧ pcN m ≤ 8 := (mskC_all m hm j hj).resolve_left h
theorem pcN_le : ∀ m, m < 512 → pcN m ≤ 9 := by decide +kernel
theorem and1C (v : Int32) : v &&& 1 = 0 ∨ v &&& 1 = 1 := by
  obtain ⟨j, hj, e⟩ := pk_andE v (m := 1) 1 (by decide)
  rcases (show j = 0 ∨ j = 1 by omega) with rfl | rfl
  · exact Or.inl e
  · exact Or.inr e
/-- the configuration's object: t templates -/
noncomputable def CfO (G : EnvG) (x t : Nat) (Φ : Hm) : Prop := ∃ sp : Int32, Φ (x + 25) = some (o_ 3 [.ref (x + 26), .ref (x + 27), .ref (x + 28), .ref (x + 29), .int (nI t), .int sp])
/-- the templates from t on are empty -/
noncomputable def CfZ (G : EnvG) (x t : Nat) (Φ : Hm) : Prop := ∀ u, t ≤ u → u < 4 → Φ (x + (30 + 4 * u)) = some (o_ 12 [.ref (x + (30 + 4 * u + 1)), .int (nI 0), .int (nI 0), .int 0])
/-- the template that is being read: m fields, their set mm -/
noncomputable def CfT (G : EnvG) (x t m mm : Nat) (Φ : Hm) : Prop := ∃ rb : Int32, Φ (x + (30 + 4 * t)) = some (o_ 12 [.ref (x + (30 + 4 * t + 1)), .int (nI m), .int (nI mm), .int rb])
theorem CfO.fr {G : EnvG} {x t : Nat} {md : Nat → Prop} {Φ Φ1 : Hm} (h : CfO G x t Φ) (hF : Fr x md Φ Φ1) (hm : ∀ j, md j → ¬ j = 25) : CfO G x t Φ1 := by
  obtain ⟨sp, h⟩ := h
  exact ⟨sp, (hF (x + 25) (fun j q hj => hm j hj (by omega))).trans h⟩
theorem CfO.off {G : EnvG} {x t k : Nat} {e : va_E} {Φ Φ1 : Hm} (h : CfO G x t Φ) (h1 : Φ1 = fset Φ (x + k) e) (hk : ¬ k = 25) : CfO G x t Φ1 := by
  obtain ⟨sp, h⟩ := h
  exact ⟨sp, (fset_fr h1 (by omega)).trans h⟩
theorem CfZ.fr {G : EnvG} {x t : Nat} {md : Nat → Prop} {Φ Φ1 : Hm} (h : CfZ G x t Φ) (hF : Fr x md Φ Φ1) (hm : ∀ j, md j → ∀ u, t ≤ u → u < 4 → ¬ j = 30 + 4 * u) : CfZ G x t Φ1 := fun u h1 h2 => (hF _ (fun j q hj => hm j hj u h1 h2 (by omega))).trans (h u h1 h2)
theorem CfZ.off {G : EnvG} {x t k : Nat} {e : va_E} {Φ Φ1 : Hm} (h : CfZ G x t Φ) (h1 : Φ1 = fset Φ (x + k) e) (hk : ∀ u, t ≤ u → u < 4 → ¬ k = 30 + 4 * u) : CfZ G x t Φ1 := fun u h2 h3 => (fset_fr h1 (by have := hk u h2 h3; omega)).trans (h u h2 h3)
theorem CfT.fr {G : EnvG} {x t m mm : Nat} {md : Nat → Prop} {Φ Φ1 : Hm} (h : CfT G x t m mm Φ) (hF : Fr x md Φ Φ1) (hm : ∀ j, md j → ¬ j = 30 + 4 * t) : CfT G x t m mm Φ1 := by
  obtain ⟨rb, h⟩ := h
  exact ⟨rb, (hF _ (fun j e hj => hm j hj (by omega))).trans h⟩
theorem CfT.off {G : EnvG} {x t m mm k : Nat} {e : va_E} {Φ Φ1 : Hm} (h : CfT G x t m mm Φ) (h1 : Φ1 = fset Φ (x + k) e) (hk : ¬ k = 30 + 4 * t) : CfT G x t m mm Φ1 := by
  obtain ⟨rb, h⟩ := h
  exact ⟨rb, (fset_fr h1 (by omega)).trans h⟩
theorem CfZ.up {G : EnvG} {x t : Nat} {Φ : Hm} (h : CfZ G x t Φ) : CfZ G x (t + 1) Φ := fun u h1 h2 => h u (by omega) h2
theorem CfZ.at {G : EnvG} {x t : Nat} {Φ : Hm} (h : CfZ G x t Φ) (ht : t < 4) : CfT G x t 0 0 Φ := ⟨0, h t (Nat.le_refl _) ht⟩
theorem leT_lo : ∀ w, w < 9 → (leT w).toInt = loS w := by decide
theorem moT_hi : ∀ w, w < 9 → (moT w).toInt = hiS w := by decide
theorem wd_nat {L : List (List Nat)} {k s e : Nat} {b : Nat → Int32} (h : ¬ wd L b k s e = -1) : ∃ j, j < L.length ∧ wd L b k s e = nI j := by
  by_cases hk : k = 2
  · obtain ⟨r, hr⟩ := WI_ex L b s (e - s)
    have e1 := wd_of hk hr
    rcases hr with ⟨j, h1, h2, -, -⟩ | ⟨h1, -⟩
    · exact ⟨j, h1, e1.trans h2⟩
    · exact absurd (e1.trans h1) h
  · exact absurd (wd_no hk) h
theorem wd_2 {L : List (List Nat)} {k s e : Nat} {b : Nat → Int32} (h : ¬ wd L b k s e = -1) : k = 2 := by
  by_cases hk : k = 2
  · exact hk
  · exact absurd (wd_no hk) h
theorem use_hi {t : Nat} (ht : t ≤ 4) : (nI t - 1).toInt = (nI t).toInt - 1 := by
  rcases (show t = 0 ∨ t = 1 ∨ t = 2 ∨ t = 3 ∨ t = 4 by omega) with rfl | rfl | rfl | rfl | rfl <;> decide
/-- the fields of a template, one by one -/
theorem tplF {b : Nat → Int32} {p m mm : Nat} {c : Cf} {X : RS} (h : X = tplA b (10 - m) p c m (nI mm)) (hm : m ≤ 9) : X = tplA b (9 - m + 1) p c m (nI mm) := by
  rw [show 9 - m + 1 = 10 - m by omega]
  exact h
theorem tplS {b : Nat → Int32} {p q s e m mm j : Nat} {c : Cf} {X : RS} (h : X = tplA b (10 - m) p c m (nI mm)) (hm : m ≤ 9) (hT : Tk b p q s e) (hn : ¬ (¬ m = 0 ∧ q = 4)) (hw : wd fdW b q s e = nI j) (hj : j < 9) (hb : ¬ (nI mm >>> (nI j &&& 31)) &&& 1 = 1) (hmm : mm < 512) : X = tplA b (10 - (m + 1)) e (upd c (15 + 9 * (c 10).toNatClampNeg + m) (nI j)) (m + 1) (nI (mm + 2 ^ j)) := by
  rw [tplF h hm, tplA_s hT hn hw (nI_nm1x (by omega)) hb, (mskC hmm hj hb).1, show 10 - (m + 1) = 9 - m by omega]
theorem clr_s {x i : Nat} {Φ Φ1 : Hm} {md : Nat → Prop} (h : ∀ u, u < i → Φ (x + (30 + 4 * u)) = some (o_ 12 [.ref (x + (30 + 4 * u + 1)), .int (nI 0), .int (nI 0), .int 0])) (hF : Fr x md Φ Φ1) (hm : ∀ j, md j → j = 28 + 2 + 4 * i) (h1 : Φ1 (x + (28 + 2 + 4 * i)) = some (o_ 12 [.ref (x + (28 + 2 + 4 * i + 1)), .int (nI 0), .int (nI 0), .int 0])) : ∀ u, u < i + 1 → Φ1 (x + (30 + 4 * u)) = some (o_ 12 [.ref (x + (30 + 4 * u + 1)), .int (nI 0), .int (nI 0), .int 0]) := by
  intro u hu
  by_cases e : u = i
  · subst e
    exact h1
  · exact (hF _ (fun j q hj => by have := hm j hj; omega)).trans (h u (by omega))
theorem clr_mv {x i : Nat} {Φ Φ1 : Hm} {md : Nat → Prop} (h : ∀ u, u < i → Φ (x + (30 + 4 * u)) = some (o_ 12 [.ref (x + (30 + 4 * u + 1)), .int (nI 0), .int (nI 0), .int 0])) (hF : Fr x md Φ Φ1) (hm : ∀ j, md j → ∀ u, u < i → ¬ j = 30 + 4 * u) : ∀ u, u < i → Φ1 (x + (30 + 4 * u)) = some (o_ 12 [.ref (x + (30 + 4 * u + 1)), .int (nI 0), .int (nI 0), .int 0]) := fun u hu => (hF _ (fun j q hj => hm j hj u hu (by omega))).trans (h u hu)

set_option maxHeartbeats 4000000 in
set_option maxRecDepth 100000 in
theorem s_X10_hasE (G : EnvG) (l : Launch) (Φ : Hm) (sz x ca : Nat) (m : Nat) (ms : Int32) (rb : Int32) (k : Nat) (j : Nat) (hx : G.2.2.2 ≤ x) (hI : In G x ca Φ) (hk_k : kd k = 8) (hc0 : Φ (x + (k)) = some (o_ 12 [.ref (x + (k + 1)), .int (nI m), .int ms, .int rb])) (hj : j < 9) : Ct G l yX10_has wsX10_has ({ frames := 0, cells := 0, slots := 0, locals := 0 }) 0 0 [.ref (x + (k)), .int (nI j)] Φ sz (fun v Φ1 sz1 => ((v = some (.int 1) ∧ (ms >>> (nI j &&& 31)) &&& 1 = 1) ∨ (v = some (.int 0) ∧ ¬ (ms >>> (nI j &&& 31)) &&& 1 = 1)) ∧ sz1 = sz ∧ In G x (ca) Φ1 ∧ Fr x (fun j9 => False) Φ Φ1) := by
  refine Ct.of (cc := cX10_has) (maxL := 2) (ret := (some .boolean)) (by decide) rfl (Nat.le_of_ble_eq_true rfl) ?_
  intro p9 e9 s9 m9 w9 t9 k9 B
  show Z p9 l e9 _ s9 m9 _ w9 t9 k9 _ G 2 0 [(0, .ref (x + (k))), (1, .int (nI j))] [] Φ sz 0 0
  refine z_iload_n B dX10_has_0 rfl 1 rfl ?_
  refine z_if_lt (tgt := 26) B dX10_has_1 rfl (fun c_1 => ?_) (fun c_1 => ?_)
  · have e_1 : j < 0 := (nI_ltI (a := j) (b := 0) (by omega) (by omega)).mp c_1
    refine z_iconst (v := 0) B dX10_has_26 rfl ?_
    exact z_ret_z B dX10_has_27 (by decide) ⟨((show False by omega).elim), rfl, hI, (fun b9 h9 => rfl)⟩
  · have e_2 : ¬ (j < 0) := fun h9 => c_1 ((nI_ltI (a := j) (b := 0) (by omega) (by omega)).mpr h9)
    refine z_iload_n B dX10_has_4 rfl 1 rfl ?_
    refine z_bipush (v := 9) B dX10_has_5 rfl ?_
    refine z_icmp_ge (tgt := 26) B dX10_has_7 rfl (fun c_2 => ?_) (fun c_2 => ?_)
    · have e_3 : 9 ≤ j := (nI_leI (a := 9) (b := j) (by omega) (by omega)).mp c_2
      refine z_iconst (v := 0) B dX10_has_26 rfl ?_
      exact z_ret_z B dX10_has_27 (by decide) ⟨((show False by omega).elim), rfl, hI, (fun b9 h9 => rfl)⟩
    · have e_4 : ¬ (9 ≤ j) := fun h9 => c_2 ((nI_leI (a := 9) (b := j) (by omega) (by omega)).mpr h9)
      refine z_aload_n B dX10_has_10 rfl 0 rfl ?_
      refine z_get (ref := "FlowExporter$Template") (C := RX10) (T := TX10) (N := 4) (ci := 12) (v := .int ms) B hu_X10_has_X10 rfl 2 (Nat.le_of_ble_eq_true rfl) hv_X10_has_19 rfl hc0 rfl dX10_has_11 ?_
      refine z_iload_n B dX10_has_14 rfl 1 rfl ?_
      refine z_ishr B dX10_has_15 ?_
      refine z_iconst (v := 1) B dX10_has_16 rfl ?_
      refine z_iand B dX10_has_17 ?_
      refine z_iconst (v := 1) B dX10_has_18 rfl ?_
      refine z_icmp_ne (tgt := 26) B dX10_has_19 rfl (fun c_3 => ?_) (fun c_3 => ?_)
      · refine z_iconst (v := 0) B dX10_has_26 rfl ?_
        exact z_ret_z B dX10_has_27 (by decide) ⟨(Or.inr ⟨rfl, c_3⟩), rfl, hI, (fun b9 h9 => rfl)⟩
      · refine z_iconst (v := 1) B dX10_has_22 rfl ?_
        refine z_goto (tgt := 27) B dX10_has_23 rfl ?_
        exact z_ret_z B dX10_has_27 (by decide) ⟨(Or.inl ⟨rfl, c_3⟩), rfl, hI, (fun b9 h9 => rfl)⟩

set_option maxHeartbeats 4000000 in
set_option maxRecDepth 100000 in
theorem s_X10_addFieldE (G : EnvG) (l : Launch) (Φ : Hm) (sz x ca : Nat) (m : Nat) (ms : Int32) (rb : Int32) (k : Nat) (j : Nat) (hx : G.2.2.2 ≤ x) (hI : In G x ca Φ) (hk_k : kd k = 8) (hc0 : Φ (x + (k)) = some (o_ 12 [.ref (x + (k + 1)), .int (nI m), .int ms, .int rb])) (hj : j < 9) (hm : m < 9) (hb : ¬ ((ms >>> (nI j &&& 31)) &&& 1 = 1)) : Ct G l yX10_addField wsX10_addField ({ frames := 0, cells := 0, slots := 0, locals := 0 }) 0 0 [.ref (x + (k)), .int (nI j)] Φ sz (fun v Φ1 sz1 => (v = none ∧ ∃ rb8 : Int32, Φ1 (x + (k)) = some (o_ 12 [.ref (x + (k + 1)), .int (nI (m + 1)), .int (ms ||| ((1 : Int32) <<< (nI j &&& 31))), .int rb8])) ∧ sz1 = sz ∧ In G x (ca) Φ1 ∧ Fr x (fun j9 => j9 = k ∨ j9 = k + 1) Φ Φ1) := by
  refine Ct.of (cc := cX10_addField) (maxL := 2) (ret := none) (by decide) rfl (Nat.le_of_ble_eq_true rfl) ?_
  intro p9 e9 s9 m9 w9 t9 k9 B
  show Z p9 l e9 _ s9 m9 _ w9 t9 k9 _ G 2 0 [(0, .ref (x + (k))), (1, .int (nI j))] [] Φ sz 0 0
  refine z_iload_n B dX10_addField_0 rfl 1 rfl ?_
  refine z_if_lt (tgt := 76) B dX10_addField_1 rfl (fun c_1 => ?_) (fun c_1 => ?_)
  · have e_1 : j < 0 := (nI_ltI (a := j) (b := 0) (by omega) (by omega)).mp c_1
    exact z_ret_v B dX10_addField_76 ⟨((show False by omega).elim), rfl, hI, (fun b9 h9 => rfl)⟩
  · have e_2 : ¬ (j < 0) := fun h9 => c_1 ((nI_ltI (a := j) (b := 0) (by omega) (by omega)).mpr h9)
    refine z_iload_n B dX10_addField_4 rfl 1 rfl ?_
    refine z_bipush (v := 9) B dX10_addField_5 rfl ?_
    refine z_icmp_ge (tgt := 76) B dX10_addField_7 rfl (fun c_2 => ?_) (fun c_2 => ?_)
    · have e_3 : 9 ≤ j := (nI_leI (a := 9) (b := j) (by omega) (by omega)).mp c_2
      exact z_ret_v B dX10_addField_76 ⟨((show False by omega).elim), rfl, hI, (fun b9 h9 => rfl)⟩
    · have e_4 : ¬ (9 ≤ j) := fun h9 => c_2 ((nI_leI (a := 9) (b := j) (by omega) (by omega)).mpr h9)
      refine z_aload_n B dX10_addField_10 rfl 0 rfl ?_
      refine z_get (ref := "FlowExporter$Template") (C := RX10) (T := TX10) (N := 4) (ci := 12) (v := .int (nI m)) B hu_X10_addField_X10 rfl 1 (Nat.le_of_ble_eq_true rfl) hv_X10_addField_15 rfl hc0 rfl dX10_addField_11 ?_
      refine z_bipush (v := 9) B dX10_addField_14 rfl ?_
      refine z_icmp_ge (tgt := 76) B dX10_addField_16 rfl (fun c_3 => ?_) (fun c_3 => ?_)
      · have e_5 : 9 ≤ m := (nI_leI (a := 9) (b := m) (by omega) (by omega)).mp c_3
        exact z_ret_v B dX10_addField_76 ⟨((show False by omega).elim), rfl, hI, (fun b9 h9 => rfl)⟩
      · have e_6 : ¬ (9 ≤ m) := fun h9 => c_3 ((nI_leI (a := 9) (b := m) (by omega) (by omega)).mpr h9)
        refine z_aload_n B dX10_addField_19 rfl 0 rfl ?_
        refine z_get (ref := "FlowExporter$Template") (C := RX10) (T := TX10) (N := 4) (ci := 12) (v := .int ms) B hu_X10_addField_X10 rfl 2 (Nat.le_of_ble_eq_true rfl) hv_X10_addField_19 rfl hc0 rfl dX10_addField_20 ?_
        refine z_iload_n B dX10_addField_23 rfl 1 rfl ?_
        refine z_ishr B dX10_addField_24 ?_
        refine z_iconst (v := 1) B dX10_addField_25 rfl ?_
        refine z_iand B dX10_addField_26 ?_
        refine z_if_ne (tgt := 76) B dX10_addField_27 rfl (fun c_4 => ?_) (fun c_4 => ?_)
        · exact z_ret_v B dX10_addField_76 ⟨((and1C _).elim (fun h9 => absurd h9 c_4) (fun h9 => absurd h9 hb)), rfl, hI, (fun b9 h9 => rfl)⟩
        · refine z_aload_n B dX10_addField_30 rfl 0 rfl ?_
          refine z_get (ref := "FlowExporter$Template") (C := RX10) (T := TX10) (N := 4) (ci := 12) (v := .ref (x + (k + 1))) B hu_X10_addField_X10 rfl 0 (Nat.le_of_ble_eq_true rfl) hv_X10_addField_9 rfl hc0 rfl dX10_addField_31 ?_
          refine z_aload_n B dX10_addField_34 rfl 0 rfl ?_
          refine z_get (ref := "FlowExporter$Template") (C := RX10) (T := TX10) (N := 4) (ci := 12) (v := .int (nI m)) B hu_X10_addField_X10 rfl 1 (Nat.le_of_ble_eq_true rfl) hv_X10_addField_15 rfl hc0 rfl dX10_addField_35 ?_
          refine z_iload_n B dX10_addField_38 rfl 1 rfl ?_
          obtain ⟨f_1, h_1⟩ := in9 (k := k + 1) hI (kd_t hk_k)
          have h_2 : Φ (x + (k + 1)) = some (ai_ G 9 f_1) := h_1
          refine z_iast B h_2 (by omega) (vp_in_nI (by omega) (by omega)) dX10_addField_39 (fun Φ1 hΦ1 => ?_)
          have h_3 : Φ1 (x + (k + 1)) = some (ai_ G 9 (upd f_1 (nI m).toNatClampNeg (nI j))) := fset_at hΦ1
          have hI1 : In G x (ca) Φ1 := In.put (k := k + 1) hI hΦ1 (ok9 (k := k + 1) (kd_t hk_k) ⟨_, rfl⟩)
          refine z_aload_n B dX10_addField_40 rfl 0 rfl ?_
          refine z_dup B dX10_addField_41 rfl ?_
          have h_4 : Φ1 (x + (k)) = some (o_ 12 [.ref (x + (k + 1)), .int (nI m), .int ms, .int rb]) := ((fset_fr hΦ1 (by omega)).trans hc0)
          refine z_get (ref := "FlowExporter$Template") (C := RX10) (T := TX10) (N := 4) (ci := 12) (v := .int (nI m)) B hu_X10_addField_X10 rfl 1 (Nat.le_of_ble_eq_true rfl) hv_X10_addField_15 rfl h_4 rfl dX10_addField_42 ?_
          refine z_iconst (v := 1) B dX10_addField_45 rfl ?_
          refine z_iadd B dX10_addField_46 ?_
          refine z_top (st1 := [.int (nI (m + 1)), .ref (x + (k))]) (congrArg (fun w9 : Int32 => ([.int w9, .ref (x + (k))] : List Value)) (nI_add m 1)) ?_
          refine z_put (ref := "FlowExporter$Template") (C := RX10) (T := TX10) (N := 4) (ci := 12) (v := .int (nI (m + 1))) B hu_X10_addField_X10 tyX10 tyX10_ok nmX10 rfl 1 (Nat.le_of_ble_eq_true rfl) hv_X10_addField_15 rfl (Or.inl rfl) h_4 (by omega) rfl rfl (Nat.le_of_ble_eq_true rfl) dX10_addField_47 (fun Φ2 hΦ2 => ?_)
          have h_5 : Φ2 (x + (k)) = some (o_ 12 [.ref (x + (k + 1)), .int (nI (m + 1)), .int ms, .int rb]) := fset_at hΦ2
          have hI2 : In G x (ca) Φ2 := In.put (k := k) hI1 hΦ2 (ok8 (k := k) hk_k ⟨m + 1, ms, rb, rfl, (show m + 1 ≤ 9 by omega)⟩)
          refine z_aload_n B dX10_addField_50 rfl 0 rfl ?_
          refine z_dup B dX10_addField_51 rfl ?_
          refine z_get (ref := "FlowExporter$Template") (C := RX10) (T := TX10) (N := 4) (ci := 12) (v := .int ms) B hu_X10_addField_X10 rfl 2 (Nat.le_of_ble_eq_true rfl) hv_X10_addField_19 rfl h_5 rfl dX10_addField_52 ?_
          refine z_iconst (v := 1) B dX10_addField_55 rfl ?_
          refine z_iload_n B dX10_addField_56 rfl 1 rfl ?_
          refine z_ishl B dX10_addField_57 ?_
          refine z_ior B dX10_addField_58 ?_
          refine z_put (ref := "FlowExporter$Template") (C := RX10) (T := TX10) (N := 4) (ci := 12) (v := .int (ms ||| (1 <<< ((nI j) &&& 31)))) B hu_X10_addField_X10 tyX10 tyX10_ok nmX10 rfl 2 (Nat.le_of_ble_eq_true rfl) hv_X10_addField_19 rfl (Or.inl rfl) h_5 (by omega) rfl rfl (Nat.le_of_ble_eq_true rfl) dX10_addField_59 (fun Φ3 hΦ3 => ?_)
          have h_6 : Φ3 (x + (k)) = some (o_ 12 [.ref (x + (k + 1)), .int (nI (m + 1)), .int (ms ||| (1 <<< ((nI j) &&& 31))), .int rb]) := fset_at hΦ3
          have hI3 : In G x (ca) Φ3 := In.put (k := k) hI2 hΦ3 (ok8 (k := k) hk_k ⟨m + 1, ms ||| (1 <<< ((nI j) &&& 31)), rb, rfl, (show m + 1 ≤ 9 by omega)⟩)
          refine z_aload_n B dX10_addField_62 rfl 0 rfl ?_
          refine z_dup B dX10_addField_63 rfl ?_
          refine z_get (ref := "FlowExporter$Template") (C := RX10) (T := TX10) (N := 4) (ci := 12) (v := .int rb) B hu_X10_addField_X10 rfl 3 (Nat.le_of_ble_eq_true rfl) hv_X10_addField_22 rfl h_6 rfl dX10_addField_64 ?_
          refine z_staN (n := "FIELD_BYTES") B B.2.2.2.2.2.1.1.1 (by decide +kernel) dX10_addField_67 ?_
          refine z_iload_n B dX10_addField_70 rfl 1 rfl ?_
          refine z_sald B B.2.2.2.2.2.1.2.2.2.1.1 (B.2.2.2.2.2.1.2.2.2.2 0 (by decide)) (vp_in_nI (by omega) (by omega)) dX10_addField_71 ?_
          refine z_fi (fun v_1 => ?_)
          refine z_iadd B dX10_addField_72 ?_
          refine z_fi (fun v_2 => ?_)
          refine z_put (ref := "FlowExporter$Template") (C := RX10) (T := TX10) (N := 4) (ci := 12) (v := .int v_2) B hu_X10_addField_X10 tyX10 tyX10_ok nmX10 rfl 3 (Nat.le_of_ble_eq_true rfl) hv_X10_addField_22 rfl (Or.inl rfl) h_6 (by omega) rfl rfl (Nat.le_of_ble_eq_true rfl) dX10_addField_73 (fun Φ4 hΦ4 => ?_)
          have h_7 : Φ4 (x + (k)) = some (o_ 12 [.ref (x + (k + 1)), .int (nI (m + 1)), .int (ms ||| (1 <<< ((nI j) &&& 31))), .int v_2]) := fset_at hΦ4
          have hI4 : In G x (ca) Φ4 := In.put (k := k) hI3 hΦ4 (ok8 (k := k) hk_k ⟨m + 1, ms ||| (1 <<< ((nI j) &&& 31)), v_2, rfl, (show m + 1 ≤ 9 by omega)⟩)
          exact z_ret_v B dX10_addField_76 ⟨⟨rfl, _, h_7⟩, rfl, hI4, (fun b9 h9 => ((fset_fr hΦ4 (fun h8 => h9 (k) h8 (show k = k ∨ k = k + 1 by omega))).trans ((fset_fr hΦ3 (fun h8 => h9 (k) h8 (show k = k ∨ k = k + 1 by omega))).trans ((fset_fr hΦ2 (fun h8 => h9 (k) h8 (show k = k ∨ k = k + 1 by omega))).trans ((fset_fr hΦ1 (fun h8 => h9 (k + 1) h8 (show (k + 1) = k ∨ (k + 1) = k + 1 by omega))).trans rfl)))))⟩

set_option maxHeartbeats 4000000 in
set_option maxRecDepth 100000 in
theorem s_X1_templateE (G : EnvG) (l : Launch) (Φ : Hm) (sz x ca : Nat) (t : Nat) (hx : G.2.2.2 ≤ x) (hI : In G x ca Φ) (ht : t < 4) : Ct G l yX1_template wsX1_template ({ frames := 0, cells := 0, slots := 0, locals := 0 }) 0 0 [.ref (x + 25), .int (nI t)] Φ sz (fun v Φ1 sz1 => (v = some (.ref (x + (30 + 4 * t)))) ∧ sz1 = sz ∧ In G x (ca) Φ1 ∧ Fr x (fun j9 => False) Φ Φ1) := by
  refine Ct.of (cc := cX1_template) (maxL := 2) (ret := (some (.object "FlowExporter$Template"))) (by decide) rfl (Nat.le_of_ble_eq_true rfl) ?_
  intro p9 e9 s9 m9 w9 t9 k9 B
  show Z p9 l e9 _ s9 m9 _ w9 t9 k9 _ G 2 0 [(0, .ref (x + 25)), (1, .int (nI t))] [] Φ sz 0 0
  refine z_aload_n B dX1_template_0 rfl 0 rfl ?_
  obtain ⟨v_1, v_2, h_1⟩ := in3 (k := 25) hI rfl
  have h_2 : Φ (x + 25) = some (o_ 3 [.ref (x + 26), .ref (x + 27), .ref (x + 28), .ref (x + 29), .int v_1, .int v_2]) := h_1
  refine z_get (ref := "FlowExporter$Config") (C := RX1) (T := TX1) (N := 6) (ci := 3) (v := .ref (x + 28)) B hu_X1_template_X1 rfl 2 (Nat.le_of_ble_eq_true rfl) hv_X1_template_20 rfl h_2 rfl dX1_template_1 ?_
  refine z_iload_n B dX1_template_4 rfl 1 rfl ?_
  refine z_if_lt (tgt := 17) B dX1_template_5 rfl (fun c_1 => ?_) (fun c_1 => ?_)
  · have e_1 : t < 0 := (nI_ltI (a := t) (b := 0) (by omega) (by omega)).mp c_1
    refine z_iconst (v := 0) B dX1_template_17 rfl ?_
    obtain ⟨f_1, h_3, r_1⟩ := in6 (k := 28) hI rfl
    have h_4 : Φ (x + 28) = some (aq_ G 4 4 f_1) := h_3
    refine z_aald (b := x + 30) B rfl h_4 (vin rfl) ((r_1 0 (by omega))) dX1_template_18 ?_
    exact z_ret_a B dX1_template_19 ⟨((show False by omega).elim), rfl, hI, (fun b9 h9 => rfl)⟩
  · have e_2 : ¬ (t < 0) := fun h9 => c_1 ((nI_ltI (a := t) (b := 0) (by omega) (by omega)).mpr h9)
    refine z_iload_n B dX1_template_8 rfl 1 rfl ?_
    refine z_iconst (v := 4) B dX1_template_9 rfl ?_
    refine z_icmp_ge (tgt := 17) B dX1_template_10 rfl (fun c_2 => ?_) (fun c_2 => ?_)
    · have e_3 : 4 ≤ t := (nI_leI (a := 4) (b := t) (by omega) (by omega)).mp c_2
      refine z_iconst (v := 0) B dX1_template_17 rfl ?_
      obtain ⟨f_2, h_5, r_2⟩ := in6 (k := 28) hI rfl
      have h_6 : Φ (x + 28) = some (aq_ G 4 4 f_2) := h_5
      refine z_aald (b := x + 30) B rfl h_6 (vin rfl) ((r_2 0 (by omega))) dX1_template_18 ?_
      exact z_ret_a B dX1_template_19 ⟨((show False by omega).elim), rfl, hI, (fun b9 h9 => rfl)⟩
    · have e_4 : ¬ (4 ≤ t) := fun h9 => c_2 ((nI_leI (a := 4) (b := t) (by omega) (by omega)).mpr h9)
      refine z_iload_n B dX1_template_13 rfl 1 rfl ?_
      refine z_goto (tgt := 18) B dX1_template_14 rfl ?_
      obtain ⟨f_3, h_7, r_3⟩ := in6 (k := 28) hI rfl
      have h_8 : Φ (x + 28) = some (aq_ G 4 4 f_3) := h_7
      refine z_aald (b := x + (28 + 2 + 4 * t)) B rfl h_8 (vp_in_nI (by omega) (by omega)) ((congrArg f_3 (nI_clamp (by omega))).trans (r_3 t (by omega))) dX1_template_18 ?_
      exact z_ret_a B dX1_template_19 ⟨(congrArg (fun w9 : Nat => some (Value.ref (x + w9))) (show 28 + 2 + 4 * t = 30 + 4 * t by omega)), rfl, hI, (fun b9 h9 => rfl)⟩

theorem fq_559 : ∀ j9 : Nat, (j9 = 24) → (24 ≤ j9 ∧ j9 < 46) := by
  intro j9 h
  omega

theorem hu_X6_readSetting_X6 : ∀ w ∈ u_ws RX6 TX6 8, w ∈ wsX6_readSetting := fun _ h => List.mem_cons_of_mem _ (List.mem_append_left _ (List.mem_append_left _ (List.mem_append_left _ (List.mem_append_right _ (h)))))

theorem hv_X6_readSetting_12 : Cond.fieldLink RX6 12 "FlowExporter$Parser" (TX6 0).2.1 (TX6 0).2.2.1 ∈ wsX6_readSetting := List.mem_cons_of_mem _ (List.mem_append_left _ (List.mem_append_left _ (List.mem_append_left _ (List.mem_append_left _ (List.mem_append_left _ (List.mem_of_getElem? (i := 0) rfl))))))

theorem hv_X6_readSetting_34 : Cond.fieldLink RX6 34 "FlowExporter$Parser" (TX6 7).2.1 (TX6 7).2.2.1 ∈ wsX6_readSetting := List.mem_cons_of_mem _ (List.mem_append_left _ (List.mem_append_left _ (List.mem_append_left _ (List.mem_append_left _ (List.mem_append_left _ (List.mem_of_getElem? (i := 1) rfl))))))

theorem fq_563 {x : Nat} : ∀ j9 : Nat, x + 24 = x + j9 → (j9 = 25 + 1) → False := by
  intro j9 h1 h2
  omega

theorem fq_564 : ∀ j9 : Nat, (j9 = 25 + 1) → (24 ≤ j9 ∧ j9 < 46) := by
  intro j9 h
  omega

set_option maxHeartbeats 4000000 in
set_option maxRecDepth 100000 in
theorem s_X6_readSetting (G : EnvG) (l : Launch) (Φ : Hm) (sz x ca : Nat) (n : Nat) (f : Nat → Int32) (co : Int32) (po : Int32) (nx : Nat) (ki : Nat) (sa : Nat) (nu : Nat) (t : Nat) (c : Cf) (w : Nat) (hx : G.2.2.2 ≤ x) (hI : In G x ca Φ) (hc0 : Φ (x + 1) = some (o_ 7 [.ref (x + 2), .int (nI n)])) (hc1 : Φ (x + 2) = some (ab_ G 700 f)) (hc2 : Φ (x + 24) = some (o_ 8 [.ref (x + 25), .int co, .int po, .ref (x + 1), .int (nI nx), .int (nI ki), .int (nI sa), .int (nI nu)])) (hcf0 : CfO G x t Φ) (hcf1 : CfZ G x t Φ) (hn : n ≤ 700) (hnx : nx ≤ n) (hsx : sa ≤ nx) (hki : ki ≤ 5) (hct : c 10 = nI t) (ht : t ≤ 4) (hw : w < 9) : Ct G l yX6_readSetting wsX6_readSetting ({ frames := 3, cells := 0, slots := 0, locals := 65 }) 0 0 [.ref (x + 24), .int (nI w)] Φ sz (fun v Φ1 sz1 => ((∃ (e8 k8 s8 u8 t8 : Nat) (c8 : Cf), v = some (.int 1) ∧ setA (bA f n) nx w c = (0, e8, c8) ∧ Φ1 (x + 24) = some (o_ 8 [.ref (x + 25), .int co, .int po, .ref (x + 1), .int (nI e8), .int (nI k8), .int (nI s8), .int (nI u8)]) ∧ nx < e8 ∧ s8 ≤ e8 ∧ e8 ≤ n ∧ k8 ≤ 5 ∧ c8 10 = nI t8 ∧ t8 ≤ 4 ∧ CfO G x t8 Φ1 ∧ CfZ G x t8 Φ1) ∨ (∃ (er8 s8 e8 k8 u8 : Nat) (c8 : Cf), v = some (.int 0) ∧ setA (bA f n) nx w c = (er8, s8, c8) ∧ ¬ er8 = 0 ∧ Φ1 (x + 24) = some (o_ 8 [.ref (x + 25), .int (nI er8), .int (nI s8), .ref (x + 1), .int (nI e8), .int (nI k8), .int (nI s8), .int (nI u8)]))) ∧ sz1 = sz ∧ In G x (ca) Φ1 ∧ Fr x (fun j9 => 24 ≤ j9 ∧ j9 < 46) Φ Φ1) := by
  refine Ct.of (cc := cX6_readSetting) (maxL := 2) (ret := (some .boolean)) (by decide) rfl (Nat.le_of_ble_eq_true rfl) ?_
  intro p9 e9 s9 m9 w9 t9 k9 B
  show Z p9 l e9 _ s9 m9 _ w9 t9 k9 _ G 2 0 [(0, .ref (x + 24)), (1, .int (nI w))] [] Φ sz 0 0
  refine z_iload_n B dX6_readSetting_0 rfl 1 rfl ?_
  refine z_if_lt (tgt := 20) B dX6_readSetting_1 rfl (fun c_1 => ?_) (fun c_1 => ?_)
  · have e_1 : w < 0 := (nI_ltI (a := w) (b := 0) (by omega) (by omega)).mp c_1
    refine z_aload_n B dX6_readSetting_20 rfl 0 rfl ?_
    refine z_iconst (v := 1) B dX6_readSetting_21 rfl ?_
    refine z_callV (As := [.int 1]) (rest := []) B (s_X6_fail G l Φ sz x (ca) co po nx ki sa nu 1 hx hI hc2) (cwV 1 B.1.2.2.2.2 gX6_readSetting_X6_fail rfl rfl rfl (by decide +kernel) ⟨Nat.le_of_ble_eq_true rfl, Nat.le_of_ble_eq_true rfl⟩) hc2 rfl rfl rfl rfl (Nat.le_of_ble_eq_true rfl) dX6_readSetting_22 ⟨Nat.le_of_ble_eq_true rfl, Nat.le_of_ble_eq_true rfl⟩ (fun r_1 Φ1 sz1 st1 hp1 hs1 => ?_)
    obtain ⟨⟨rfl, h_1⟩, hq1, hI1, hF1⟩ := hp1
    subst sz1
    replace hs1 : st1 = [.int 0] := hs1
    subst st1
    replace hI1 : In G x (ca) Φ1 := hI1
    exact z_ret_z B dX6_readSetting_25 (by decide) ⟨((show False by omega).elim), rfl, hI1, (fun b9 h9 => ((hF1 b9 (fun j9 h8 h7 => h9 j9 h8 (fq_559 j9 h7))).trans rfl))⟩
  · have e_2 : ¬ (w < 0) := fun h9 => c_1 ((nI_ltI (a := w) (b := 0) (by omega) (by omega)).mpr h9)
    refine z_iload_n B dX6_readSetting_4 rfl 1 rfl ?_
    refine z_staN (n := "LEAST") B B.2.2.2.2.2.1.1.2.2.1 (by decide +kernel) dX6_readSetting_5 ?_
    refine z_slen (v := 9) B B.2.2.2.2.2.1.2.2.2.1.2.2.1 (B.2.2.2.2.2.1.2.2.2.2 2 (by decide)) rfl dX6_readSetting_8 ?_
    refine z_icmp_ge (tgt := 20) B dX6_readSetting_9 rfl (fun c_2 => ?_) (fun c_2 => ?_)
    · have e_3 : 9 ≤ w := (nI_leI (a := 9) (b := w) (by omega) (by omega)).mp c_2
      refine z_aload_n B dX6_readSetting_20 rfl 0 rfl ?_
      refine z_iconst (v := 1) B dX6_readSetting_21 rfl ?_
      refine z_callV (As := [.int 1]) (rest := []) B (s_X6_fail G l Φ sz x (ca) co po nx ki sa nu 1 hx hI hc2) (cwV 1 B.1.2.2.2.2 gX6_readSetting_X6_fail rfl rfl rfl (by decide +kernel) ⟨Nat.le_of_ble_eq_true rfl, Nat.le_of_ble_eq_true rfl⟩) hc2 rfl rfl rfl rfl (Nat.le_of_ble_eq_true rfl) dX6_readSetting_22 ⟨Nat.le_of_ble_eq_true rfl, Nat.le_of_ble_eq_true rfl⟩ (fun r_2 Φ2 sz2 st2 hp2 hs2 => ?_)
      obtain ⟨⟨rfl, h_2⟩, hq2, hI2, hF2⟩ := hp2
      subst sz2
      replace hs2 : st2 = [.int 0] := hs2
      subst st2
      replace hI2 : In G x (ca) Φ2 := hI2
      exact z_ret_z B dX6_readSetting_25 (by decide) ⟨((show False by omega).elim), rfl, hI2, (fun b9 h9 => ((hF2 b9 (fun j9 h8 h7 => h9 j9 h8 (fq_559 j9 h7))).trans rfl))⟩
    · have e_4 : ¬ (9 ≤ w) := fun h9 => c_2 ((nI_leI (a := 9) (b := w) (by omega) (by omega)).mpr h9)
      refine z_iload_n B dX6_readSetting_12 rfl 1 rfl ?_
      refine z_staN (n := "MOST") B B.2.2.2.2.2.1.1.2.2.2.1 (by decide +kernel) dX6_readSetting_13 ?_
      refine z_slen (v := 9) B B.2.2.2.2.2.1.2.2.2.1.2.2.2.1 (B.2.2.2.2.2.1.2.2.2.2 3 (by decide)) rfl dX6_readSetting_16 ?_
      refine z_icmp_lt (tgt := 26) B dX6_readSetting_17 rfl (fun c_3 => ?_) (fun c_3 => ?_)
      · have e_5 : w < 9 := (nI_ltI (a := w) (b := 9) (by omega) (by omega)).mp c_3
        refine z_aload_n B dX6_readSetting_26 rfl 0 rfl ?_
        refine z_staN (n := "LEAST") B B.2.2.2.2.2.1.1.2.2.1 (by decide +kernel) dX6_readSetting_27 ?_
        refine z_iload_n B dX6_readSetting_30 rfl 1 rfl ?_
        refine z_sald B B.2.2.2.2.2.1.2.2.2.1.2.2.1 (B.2.2.2.2.2.1.2.2.2.2 2 (by decide)) (vp_in_nI (by omega) (by omega)) dX6_readSetting_31 ?_
        refine z_staN (n := "MOST") B B.2.2.2.2.2.1.1.2.2.2.1 (by decide +kernel) dX6_readSetting_32 ?_
        refine z_iload_n B dX6_readSetting_35 rfl 1 rfl ?_
        refine z_sald B B.2.2.2.2.2.1.2.2.2.1.2.2.2.1 (B.2.2.2.2.2.1.2.2.2.2 3 (by decide)) (vp_in_nI (by omega) (by omega)) dX6_readSetting_36 ?_
        refine z_callV (As := [.int (leT (nI w).toNatClampNeg), .int (moT (nI w).toNatClampNeg)]) (rest := []) B (s_X6_readNumber G l Φ sz x (ca) n f co po nx ki sa nu (leT (nI w).toNatClampNeg) (moT (nI w).toNatClampNeg) hx hI hc0 hc1 hc2 (show n ≤ 700 by omega) (show nx ≤ n by omega)) (cwV 2 B.1.2.2.2.2 gX6_readSetting_X6_readNumber rfl rfl rfl (by decide +kernel) ⟨Nat.le_of_ble_eq_true rfl, Nat.le_of_ble_eq_true rfl⟩) hc2 rfl rfl rfl rfl (Nat.le_of_ble_eq_true rfl) dX6_readSetting_37 ⟨Nat.le_of_ble_eq_true rfl, Nat.le_of_ble_eq_true rfl⟩ (fun r_3 Φ3 sz3 st3 hp3 hs3 => ?_)
        obtain ⟨ha1, hq3, hI3, hF3⟩ := hp3
        subst sz3
        replace hI3 : In G x (ca) Φ3 := hI3
        rcases ha1 with ⟨s_1, e_6, w_1, rfl, hN1, h_3, b_1, b_2, b_3, b_4⟩ | ⟨er_1, s_2, e_7, k_1, u_1, rfl, hN2, he1, h_4⟩
        · replace hN1 : numAt (bA f n) nx (leT (nI w).toNatClampNeg : Int32).toInt (moT (nI w).toNatClampNeg : Int32).toInt = (0, e_6, w_1) := hN1
          replace b_1 : nx < e_6 := b_1
          replace b_3 : e_6 ≤ n := b_3
          replace hs3 : st3 = [.int 1] := hs3
          subst st3
          refine z_if_ne (tgt := 45) B dX6_readSetting_40 rfl (fun c_4 => ?_) (fun h9 => absurd h9 (by decide))
          refine z_aload_n B dX6_readSetting_45 rfl 0 rfl ?_
          refine z_get (ref := "FlowExporter$Parser") (C := RX6) (T := TX6) (N := 8) (ci := 8) (v := .ref (x + 25)) B hu_X6_readSetting_X6 rfl 0 (Nat.le_of_ble_eq_true rfl) hv_X6_readSetting_12 rfl h_3 rfl dX6_readSetting_46 ?_
          refine z_iload_n B dX6_readSetting_49 rfl 1 rfl ?_
          refine z_aload_n B dX6_readSetting_50 rfl 0 rfl ?_
          refine z_get (ref := "FlowExporter$Parser") (C := RX6) (T := TX6) (N := 8) (ci := 8) (v := .int (nI w_1)) B hu_X6_readSetting_X6 rfl 7 (Nat.le_of_ble_eq_true rfl) hv_X6_readSetting_34 rfl h_3 rfl dX6_readSetting_51 ?_
          obtain ⟨v_1, v_2, h_5⟩ := in3 (k := 25) hI3 rfl
          have h_6 : Φ3 (x + 25) = some (o_ 3 [.ref (x + 26), .ref (x + 27), .ref (x + 28), .ref (x + 29), .int v_1, .int v_2]) := h_5
          refine z_callV (As := [.int (nI w), .int (nI w_1)]) (rest := []) B (s_X1_set G l Φ3 sz x (ca) 25 (nI w) w_1 hx hI3 rfl (show w_1 < 2 ^ 31 by omega)) (cwV 2 B.1.2.2.2.2 gX6_readSetting_X1_set rfl rfl rfl (by decide +kernel) ⟨Nat.le_of_ble_eq_true rfl, Nat.le_of_ble_eq_true rfl⟩) h_6 rfl rfl rfl rfl (Nat.le_of_ble_eq_true rfl) dX6_readSetting_54 ⟨Nat.le_of_ble_eq_true rfl, Nat.le_of_ble_eq_true rfl⟩ (fun r_4 Φ4 sz4 st4 hp4 hs4 => ?_)
          obtain ⟨rfl, hq4, hI4, hF4⟩ := hp4
          subst sz4
          replace hs4 : st4 = [] := hs4
          subst st4
          replace hI4 : In G x (ca) Φ4 := hI4
          refine z_iconst (v := 1) B dX6_readSetting_57 rfl ?_
          have hN3 := hN1
          rw [nI_clamp (by omega), leT_lo w (by omega), moT_hi w (by omega)] at hN3
          have h_7 : Φ4 (x + 24) = some (o_ 8 [.ref (x + 25), .int co, .int po, .ref (x + 1), .int (nI e_6), .int (nI 3), .int (nI s_1), .int (nI w_1)]) := ((hF4 (x + 24) fq_563).trans h_3)
          have hcg1 : CfO G x t Φ4 := (CfO.fr (CfO.fr hcf0 hF3 (fun j9 h7 => by have h6 : j9 = 24 := h7; intros; omega)) hF4 (fun j9 h7 => by have h6 : j9 = 25 + 1 := h7; intros; omega))
          have hcg2 : CfZ G x t Φ4 := (CfZ.fr (CfZ.fr hcf1 hF3 (fun j9 h7 => by have h6 : j9 = 24 := h7; intros; omega)) hF4 (fun j9 h7 => by have h6 : j9 = 25 + 1 := h7; intros; omega))
          exact z_ret_z B dX6_readSetting_58 (by decide) ⟨(Or.inl ⟨e_6, 3, s_1, w_1, t, upd c w (nI w_1), rfl, setA_0 hN3, h_7, by omega, by omega, by omega, by omega, (upd_ne (by omega)).trans hct, by omega, hcg1, hcg2⟩), rfl, hI4, (fun b9 h9 => ((hF4 b9 (fun j9 h8 h7 => h9 j9 h8 (fq_564 j9 h7))).trans ((hF3 b9 (fun j9 h8 h7 => h9 j9 h8 (fq_559 j9 h7))).trans rfl)))⟩
        · replace hN2 : numAt (bA f n) nx (leT (nI w).toNatClampNeg : Int32).toInt (moT (nI w).toNatClampNeg : Int32).toInt = (er_1, s_2, 0) := hN2
          replace hs3 : st3 = [.int 0] := hs3
          subst st3
          refine z_if_ne (tgt := 45) B dX6_readSetting_40 rfl (fun h9 => absurd (by decide) h9) (fun c_5 => ?_)
          refine z_iconst (v := 0) B dX6_readSetting_43 rfl ?_
          have hN4 := hN2
          rw [nI_clamp (by omega), leT_lo w (by omega), moT_hi w (by omega)] at hN4
          exact z_ret_z B dX6_readSetting_44 (by decide) ⟨(Or.inr ⟨er_1, s_2, e_7, k_1, u_1, c, rfl, setA_e hN4 he1, he1, h_4⟩), rfl, hI3, (fun b9 h9 => ((hF3 b9 (fun j9 h8 h7 => h9 j9 h8 (fq_559 j9 h7))).trans rfl))⟩
      · have e_8 : ¬ (w < 9) := fun h9 => c_3 ((nI_ltI (a := w) (b := 9) (by omega) (by omega)).mpr h9)
        refine z_aload_n B dX6_readSetting_20 rfl 0 rfl ?_
        refine z_iconst (v := 1) B dX6_readSetting_21 rfl ?_
        refine z_callV (As := [.int 1]) (rest := []) B (s_X6_fail G l Φ sz x (ca) co po nx ki sa nu 1 hx hI hc2) (cwV 1 B.1.2.2.2.2 gX6_readSetting_X6_fail rfl rfl rfl (by decide +kernel) ⟨Nat.le_of_ble_eq_true rfl, Nat.le_of_ble_eq_true rfl⟩) hc2 rfl rfl rfl rfl (Nat.le_of_ble_eq_true rfl) dX6_readSetting_22 ⟨Nat.le_of_ble_eq_true rfl, Nat.le_of_ble_eq_true rfl⟩ (fun r_5 Φ5 sz5 st5 hp5 hs5 => ?_)
        obtain ⟨⟨rfl, h_8⟩, hq5, hI5, hF5⟩ := hp5
        subst sz5
        replace hs5 : st5 = [.int 0] := hs5
        subst st5
        replace hI5 : In G x (ca) Φ5 := hI5
        exact z_ret_z B dX6_readSetting_25 (by decide) ⟨((show False by omega).elim), rfl, hI5, (fun b9 h9 => ((hF5 b9 (fun j9 h8 h7 => h9 j9 h8 (fq_559 j9 h7))).trans rfl))⟩

theorem hu_X6_readTemplate_X6 : ∀ w ∈ u_ws RX6 TX6 8, w ∈ wsX6_readTemplate := fun _ h => List.mem_cons_of_mem _ (List.mem_append_left _ (List.mem_append_left _ (List.mem_append_left _ (List.mem_append_left _ (List.mem_append_left _ (List.mem_append_right _ (h)))))))

theorem hv_X6_readTemplate_12 : Cond.fieldLink RX6 12 "FlowExporter$Parser" (TX6 0).2.1 (TX6 0).2.2.1 ∈ wsX6_readTemplate := List.mem_cons_of_mem _ (List.mem_append_left _ (List.mem_append_left _ (List.mem_append_left _ (List.mem_append_left _ (List.mem_append_left _ (List.mem_append_left _ (List.mem_append_left _ (List.mem_of_getElem? (i := 0) rfl))))))))

theorem hu_X6_readTemplate_X1 : ∀ w ∈ u_ws RX1 TX1 6, w ∈ wsX6_readTemplate := fun _ h => List.mem_cons_of_mem _ (List.mem_append_left _ (List.mem_append_left _ (List.mem_append_left _ (List.mem_append_left _ (List.mem_append_right _ (h))))))

theorem hv_X6_readTemplate_47 : Cond.fieldLink RX6 47 "FlowExporter$Config" (TX1 4).2.1 (TX1 4).2.2.1 ∈ wsX6_readTemplate := List.mem_cons_of_mem _ (List.mem_append_left _ (List.mem_append_left _ (List.mem_append_left _ (List.mem_append_left _ (List.mem_append_left _ (List.mem_append_left _ (List.mem_append_left _ (List.mem_of_getElem? (i := 1) rfl))))))))

theorem fq_569 {x : Nat} : ∀ j9 : Nat, x + 1 = x + j9 → (24 ≤ j9 ∧ j9 < 46) → False := by
  intro j9 h1 h2
  omega

theorem fq_570 {x : Nat} : ∀ j9 : Nat, x + 2 = x + j9 → (24 ≤ j9 ∧ j9 < 46) → False := by
  intro j9 h1 h2
  omega

theorem hv_X6_readTemplate_28 : Cond.fieldLink RX6 28 "FlowExporter$Parser" (TX6 5).2.1 (TX6 5).2.2.1 ∈ wsX6_readTemplate := List.mem_cons_of_mem _ (List.mem_append_left _ (List.mem_append_left _ (List.mem_append_left _ (List.mem_append_left _ (List.mem_append_left _ (List.mem_append_left _ (List.mem_append_left _ (List.mem_of_getElem? (i := 2) rfl))))))))

theorem fq_572 {x : Nat} : ∀ j9 : Nat, x + 25 = x + j9 → (j9 = 24) → False := by
  intro j9 h1 h2
  omega

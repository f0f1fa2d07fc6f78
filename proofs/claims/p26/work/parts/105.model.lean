theorem dX12_beginConfiguration_0 : decode cX12_beginConfiguration 0 = .ok (.iconst 0, 1) := by decide +kernel
theorem dX12_beginConfiguration_1 : decode cX12_beginConfiguration 1 = .ok (.istore_n 1, 1) := by decide +kernel
theorem dX12_beginConfiguration_2 : decode cX12_beginConfiguration 2 = .ok (.iload_n 1, 1) := by decide +kernel
theorem dX12_beginConfiguration_3 : decode cX12_beginConfiguration 3 = .ok (.sipush 307, 3) := by decide +kernel
theorem dX12_beginConfiguration_6 : decode cX12_beginConfiguration 6 = .ok (.if_icmp .ge 16, 3) := by decide +kernel
theorem dX12_beginConfiguration_9 : decode cX12_beginConfiguration 9 = .ok (.aload_n 0, 1) := by decide +kernel
theorem dX12_beginConfiguration_10 : decode cX12_beginConfiguration 10 = .ok (.getfield 13, 3) := by decide +kernel
theorem dX12_beginConfiguration_13 : decode cX12_beginConfiguration 13 = .ok (.iload_n 1, 1) := by decide +kernel
theorem dX12_beginConfiguration_14 : decode cX12_beginConfiguration 14 = .ok (.iconst 0, 1) := by decide +kernel
theorem dX12_beginConfiguration_15 : decode cX12_beginConfiguration 15 = .ok (.iastore, 1) := by decide +kernel
theorem dX12_beginConfiguration_16 : decode cX12_beginConfiguration 16 = .ok (.iinc 1 1, 3) := by decide +kernel
theorem dX12_beginConfiguration_19 : decode cX12_beginConfiguration 19 = .ok (.goto (-17), 3) := by decide +kernel
theorem dX12_beginConfiguration_22 : decode cX12_beginConfiguration 22 = .ok (.aload_n 0, 1) := by decide +kernel
theorem dX12_beginConfiguration_23 : decode cX12_beginConfiguration 23 = .ok (.getfield 13, 3) := by decide +kernel
theorem dX12_beginConfiguration_26 : decode cX12_beginConfiguration 26 = .ok (.iconst 0, 1) := by decide +kernel
theorem dX12_beginConfiguration_27 : decode cX12_beginConfiguration 27 = .ok (.iconst 1, 1) := by decide +kernel
theorem dX12_beginConfiguration_28 : decode cX12_beginConfiguration 28 = .ok (.iastore, 1) := by decide +kernel
theorem dX12_beginConfiguration_29 : decode cX12_beginConfiguration 29 = .ok (.aload_n 0, 1) := by decide +kernel
theorem dX12_beginConfiguration_30 : decode cX12_beginConfiguration 30 = .ok (.getfield 13, 3) := by decide +kernel
theorem dX12_beginConfiguration_33 : decode cX12_beginConfiguration 33 = .ok (.iconst 1, 1) := by decide +kernel
theorem dX12_beginConfiguration_34 : decode cX12_beginConfiguration 34 = .ok (.bipush 100, 2) := by decide +kernel
theorem dX12_beginConfiguration_36 : decode cX12_beginConfiguration 36 = .ok (.iastore, 1) := by decide +kernel
theorem dX12_beginConfiguration_37 : decode cX12_beginConfiguration 37 = .ok (.aload_n 0, 1) := by decide +kernel
theorem dX12_beginConfiguration_38 : decode cX12_beginConfiguration 38 = .ok (.getfield 13, 3) := by decide +kernel
theorem dX12_beginConfiguration_41 : decode cX12_beginConfiguration 41 = .ok (.iconst 2, 1) := by decide +kernel
theorem dX12_beginConfiguration_42 : decode cX12_beginConfiguration 42 = .ok (.sipush 1000, 3) := by decide +kernel
theorem dX12_beginConfiguration_45 : decode cX12_beginConfiguration 45 = .ok (.iastore, 1) := by decide +kernel
theorem dX12_beginConfiguration_46 : decode cX12_beginConfiguration 46 = .ok (.aload_n 0, 1) := by decide +kernel
theorem dX12_beginConfiguration_47 : decode cX12_beginConfiguration 47 = .ok (.getfield 13, 3) := by decide +kernel
theorem dX12_beginConfiguration_50 : decode cX12_beginConfiguration 50 = .ok (.iconst 3, 1) := by decide +kernel
theorem dX12_beginConfiguration_51 : decode cX12_beginConfiguration 51 = .ok (.bipush 100, 2) := by decide +kernel
theorem dX12_beginConfiguration_53 : decode cX12_beginConfiguration 53 = .ok (.iastore, 1) := by decide +kernel
theorem dX12_beginConfiguration_54 : decode cX12_beginConfiguration 54 = .ok (.aload_n 0, 1) := by decide +kernel
theorem dX12_beginConfiguration_55 : decode cX12_beginConfiguration 55 = .ok (.getfield 13, 3) := by decide +kernel
theorem dX12_beginConfiguration_58 : decode cX12_beginConfiguration 58 = .ok (.iconst 4, 1) := by decide +kernel
theorem dX12_beginConfiguration_59 : decode cX12_beginConfiguration 59 = .ok (.bipush 20, 2) := by decide +kernel
theorem dX12_beginConfiguration_61 : decode cX12_beginConfiguration 61 = .ok (.iastore, 1) := by decide +kernel
theorem dX12_beginConfiguration_62 : decode cX12_beginConfiguration 62 = .ok (.aload_n 0, 1) := by decide +kernel
theorem dX12_beginConfiguration_63 : decode cX12_beginConfiguration 63 = .ok (.getfield 13, 3) := by decide +kernel
theorem dX12_beginConfiguration_66 : decode cX12_beginConfiguration 66 = .ok (.iconst 5, 1) := by decide +kernel
theorem dX12_beginConfiguration_67 : decode cX12_beginConfiguration 67 = .ok (.sipush 1000, 3) := by decide +kernel
theorem dX12_beginConfiguration_70 : decode cX12_beginConfiguration 70 = .ok (.iastore, 1) := by decide +kernel
theorem dX12_beginConfiguration_71 : decode cX12_beginConfiguration 71 = .ok (.aload_n 0, 1) := by decide +kernel
theorem dX12_beginConfiguration_72 : decode cX12_beginConfiguration 72 = .ok (.getfield 13, 3) := by decide +kernel
theorem dX12_beginConfiguration_75 : decode cX12_beginConfiguration 75 = .ok (.bipush 6, 2) := by decide +kernel
theorem dX12_beginConfiguration_77 : decode cX12_beginConfiguration 77 = .ok (.sipush 5000, 3) := by decide +kernel
theorem dX12_beginConfiguration_80 : decode cX12_beginConfiguration 80 = .ok (.iastore, 1) := by decide +kernel
theorem dX12_beginConfiguration_81 : decode cX12_beginConfiguration 81 = .ok (.aload_n 0, 1) := by decide +kernel
theorem dX12_beginConfiguration_82 : decode cX12_beginConfiguration 82 = .ok (.getfield 13, 3) := by decide +kernel
theorem dX12_beginConfiguration_85 : decode cX12_beginConfiguration 85 = .ok (.bipush 7, 2) := by decide +kernel
theorem dX12_beginConfiguration_87 : decode cX12_beginConfiguration 87 = .ok (.sipush 512, 3) := by decide +kernel
theorem dX12_beginConfiguration_90 : decode cX12_beginConfiguration 90 = .ok (.iastore, 1) := by decide +kernel
theorem dX12_beginConfiguration_91 : decode cX12_beginConfiguration 91 = .ok (.aload_n 0, 1) := by decide +kernel
theorem dX12_beginConfiguration_92 : decode cX12_beginConfiguration 92 = .ok (.getfield 13, 3) := by decide +kernel
theorem dX12_beginConfiguration_95 : decode cX12_beginConfiguration 95 = .ok (.bipush 8, 2) := by decide +kernel
theorem dX12_beginConfiguration_97 : decode cX12_beginConfiguration 97 = .ok (.iconst 1, 1) := by decide +kernel
theorem dX12_beginConfiguration_98 : decode cX12_beginConfiguration 98 = .ok (.iastore, 1) := by decide +kernel
theorem dX12_beginConfiguration_99 : decode cX12_beginConfiguration 99 = .ok (.aload_n 0, 1) := by decide +kernel
theorem dX12_beginConfiguration_100 : decode cX12_beginConfiguration 100 = .ok (.getfield 13, 3) := by decide +kernel
theorem dX12_beginConfiguration_103 : decode cX12_beginConfiguration 103 = .ok (.bipush 9, 2) := by decide +kernel
theorem dX12_beginConfiguration_105 : decode cX12_beginConfiguration 105 = .ok (.sipush 511, 3) := by decide +kernel
theorem dX12_beginConfiguration_108 : decode cX12_beginConfiguration 108 = .ok (.iastore, 1) := by decide +kernel
theorem dX12_beginConfiguration_109 : decode cX12_beginConfiguration 109 = .ok (.return_, 1) := by decide +kernel
theorem zs {f : Nat → Int32} {i k : Nat} (h : ∀ j, j < i → f j = 0) (hk : k = i) : ∀ j, j < i + 1 → upd f k 0 j = 0 := by
  subst hk
  intro j hj
  show (if j = k then (0 : Int32) else f j) = 0
  by_cases e : j = k
  · rw [if_pos e]
  · rw [if_neg e]
    exact h j (by omega)
theorem cps {f g : Nat → Int32} {i k k2 : Nat} (h : ∀ j, j < i → g j = f j) (hk : k = i) (hk2 : k2 = i) : ∀ j, j < i + 1 → upd g k (f k2) j = f j := by
  subst hk
  subst hk2
  intro j hj
  show (if j = k2 then f k2 else g j) = f j
  by_cases e : j = k2
  · rw [if_pos e, e]
  · rw [if_neg e]
    exact h j (by omega)
theorem NN_begin {f : Nat → Int32} (h : ∀ j, j < 307 → f j = 0) : NN (upd (upd (upd (upd (upd (upd (upd (upd (upd (upd f 0 1) 1 100) 2 1000) 3 100) 4 20) 5 1000) 6 5000) 7 512) 8 1) 9 511) := by
  have e : ∀ j, 10 ≤ j → j < 307 → upd (upd (upd (upd (upd (upd (upd (upd (upd (upd f 0 1) 1 100) 2 1000) 3 100) 4 20) 5 1000) 6 5000) 7 512) 8 1) 9 511 j = 0 := by
    intro j h1 h2
    have q : ∀ k : Nat, k < 10 → ¬ j = k := fun k hk => by omega
    simp only [upd, if_neg (q 0 (by decide)), if_neg (q 1 (by decide)), if_neg (q 2 (by decide)), if_neg (q 3 (by decide)), if_neg (q 4 (by decide)), if_neg (q 5 (by decide)), if_neg (q 6 (by decide)), if_neg (q 7 (by decide)), if_neg (q 8 (by decide)), if_neg (q 9 (by decide))]
    exact h j h2
  refine ⟨fun j a b => ⟨0, by omega, e j (by omega) (by omega)⟩, fun j a b => ⟨0, by omega, e j (by omega) (by omega)⟩, fun j a b => ⟨0, by omega, e j (by omega) (by omega)⟩, ⟨512, by decide, by decide, rfl⟩, ⟨0, by decide, e 10 (by decide) (by decide)⟩, ⟨1, by decide, by decide, rfl⟩, ⟨1, by decide, rfl⟩, fun t ht => ?_, fun t n ht _ _ => e (11 + t) (by omega) (by omega)⟩
  rw [e (11 + t) (by omega) (by omega)]
  exact Nat.zero_le _
/-- the usual template, written up to field i -/
noncomputable def UsR (f : Nat → Int32) (i : Nat) (g : Nat → Int32) : Prop := (∀ j, ¬ (15 ≤ j ∧ j < 15 + i) → g j = upd (upd f 10 1) 11 9 j) ∧ ∀ j, j < i → g (15 + j) = nI j
theorem UsR.s {f g : Nat → Int32} {i k : Nat} (h : UsR f i g) (hk : k = 15 + i) : UsR f (i + 1) (upd g k (nI i)) := by
  subst hk
  refine ⟨fun j hj => ?_, fun j hj => ?_⟩
  · show (if j = 15 + i then _ else g j) = _
    rw [if_neg (by omega)]
    exact h.1 j (by omega)
  · show (if 15 + j = 15 + i then nI i else g (15 + j)) = _
    by_cases e : j = i
    · subst e
      rw [if_pos rfl]
    · rw [if_neg (by omega)]
      exact h.2 j (by omega)
theorem UsR.nn {f g : Nat → Int32} {i : Nat} (hf : NN f) (h0 : f 10 = nI 0) (hi : i = 9) (h : UsR f i g) : NN g := by
  subst hi
  obtain ⟨k1, k2, k3, k4, k5, k6, k7, k8, k9⟩ := hf
  have e : ∀ j, j ≠ 10 → j ≠ 11 → ¬ (15 ≤ j ∧ j < 24) → g j = f j := fun j a b hj => by
    rw [h.1 j hj]
    show (if j = 11 then _ else if j = 10 then _ else f j) = _
    rw [if_neg b, if_neg a]
  have e10 : g 10 = nI 1 := by rw [h.1 10 (by omega)]; rfl
  have e11 : g 11 = nI 9 := by rw [h.1 11 (by omega)]; rfl
  have hz : ∀ t, t < 4 → f (11 + t) = 0 := fun t ht => k9 t 0 ht h0 (Nat.zero_le _)
  have hs : lsm g 15 9 = 29 := by
    have q : lsm g 15 9 = lsm (fun j => nI (j - 15)) 15 9 := lsm_ext (fun j hj => by
      show g (15 + j) = nI (15 + j - 15)
      rw [h.2 j hj]
      exact congrArg nI (by omega))
    rw [q]
    decide +kernel
  refine ⟨fun j a b => ?_, fun j a b => ?_, fun j a b => ?_, ?_, ⟨1, by decide, e10⟩, ?_, ?_, fun t ht => ?_, fun t n ht hn hl => ?_⟩
  · by_cases hj : j = 11
    · subst hj
      exact ⟨9, by decide, e11⟩
    · rw [e j (by omega) hj (by omega)]; exact k1 j a b
  · by_cases hj : j < 24
    · have q := h.2 (j - 15) (by omega)
      rw [show 15 + (j - 15) = j by omega] at q
      exact ⟨j - 15, by omega, q⟩
    · rw [e j (by omega) (by omega) (by omega)]; exact k2 j a b
  · rw [e j (by omega) (by omega) (by omega)]; exact k3 j a b
  · rw [e 7 (by omega) (by omega) (by omega)]; exact k4
  · rw [e 0 (by omega) (by omega) (by omega)]; exact k6
  · rw [e 8 (by omega) (by omega) (by omega)]; exact k7
  · by_cases ht0 : t = 0
    · subst ht0
      show lsm g 15 (g 11).toNatClampNeg ≤ 29
      rw [e11, nI_clamp (by decide), hs]
      decide
    · rw [e (11 + t) (by omega) (by omega) (by omega), hz t ht]
      exact Nat.zero_le _
  · rw [e10] at hn
    by_cases ht0 : t = 0
    · subst ht0
      have hn0 : n = 0 := by omega
      subst hn0
      exact absurd hn (by decide)
    · rw [e (11 + t) (by omega) (by omega) (by omega)]
      exact hz t ht

/-! the configuration at its beginning, and as it is taken -/
theorem cB_begin {f : Nat → Int32} (h : ∀ j, j < 307 → f j = 0) : ∀ j, j < 307 → upd (upd (upd (upd (upd (upd (upd (upd (upd (upd f 0 1) 1 100) 2 1000) 3 100) 4 20) 5 1000) 6 5000) 7 512) 8 1) 9 511 j = cB j := by
  intro j hj
  by_cases h10 : 10 ≤ j
  · rw [cB_hi h10]
    have q : ∀ k : Nat, k < 10 → ¬ j = k := fun k hk => by omega
    simp only [upd, if_neg (q 0 (by decide)), if_neg (q 1 (by decide)), if_neg (q 2 (by decide)), if_neg (q 3 (by decide)), if_neg (q 4 (by decide)), if_neg (q 5 (by decide)), if_neg (q 6 (by decide)), if_neg (q 7 (by decide)), if_neg (q 8 (by decide)), if_neg (q 9 (by decide))]
    exact h j hj
  · rcases (show j = 0 ∨ j = 1 ∨ j = 2 ∨ j = 3 ∨ j = 4 ∨ j = 5 ∨ j = 6 ∨ j = 7 ∨ j = 8 ∨ j = 9 by omega) with rfl | rfl | rfl | rfl | rfl | rfl | rfl | rfl | rfl | rfl <;> rfl
theorem NNq_fin {t n : Nat} {c : Cf} {g : Nat → Int32} (h : AndC (NNt t) c g) (e : g 10 = nI n) (hn : ¬ n = 0) (hb : n ≤ 4) : NNq (finC c) g := by
  obtain ⟨⟨h1, h2⟩, h3⟩ := h
  have e4 : finC c = c := if_neg (fun q => by
    have h5 : nI n = nI 0 := e.symm.trans ((h3 10 (by decide)).trans q)
    have h6 := (nI_eq (a := n) (b := 0) (by omega) (by omega)).mp h5
    exact hn h6)
  rw [e4]
  exact ⟨h1, h3⟩
theorem UsR.nnq {f g : Nat → Int32} {i t : Nat} {c : Cf} (hf : AndC (NNt t) c f) (h0 : f 10 = nI 0) (hi : i = 9) (h : UsR f i g) : NNq (finC c) g := by
  have e4 : finC c = usC c := if_pos ((hf.2 10 (by decide)).symm.trans h0)
  rw [e4]
  refine ⟨UsR.nn hf.1.1 h0 hi h, fun j hj => ?_⟩
  subst hi
  unfold usC
  by_cases hj2 : 15 ≤ j ∧ j < 24
  · rw [if_neg (by omega), if_neg (by omega), if_pos hj2]
    have q := h.2 (j - 15) (by omega)
    rw [show 15 + (j - 15) = j by omega] at q
    exact q
  · rw [h.1 j (by omega)]
    show (if j = 11 then _ else if j = 10 then _ else f j) = _
    by_cases e11 : j = 11
    · subst e11
      rfl
    · rw [if_neg e11]
      by_cases e10 : j = 10
      · subst e10
        rfl
      · rw [if_neg e10, if_neg e10, if_neg e11, if_neg hj2]
        exact hf.2 j hj

theorem hu_X12_beginConfiguration_X12 : ∀ w ∈ u_ws RX12 TX12 54, w ∈ wsX12_beginConfiguration := fun _ h => List.mem_cons_of_mem _ (List.mem_append_left _ (List.mem_append_right _ (h)))

theorem hv_X12_beginConfiguration_13 : Cond.fieldLink RX12 13 "FlowExporterModel" (TX12 1).2.1 (TX12 1).2.2.1 ∈ wsX12_beginConfiguration := List.mem_cons_of_mem _ (List.mem_append_left _ (List.mem_append_left _ (List.mem_of_getElem? (i := 0) rfl)))

set_option maxHeartbeats 4000000 in
set_option maxRecDepth 100000 in
theorem r_beginConfiguration (G : EnvG) (l : Launch) (Φ : Hm) (sz x : Nat) (rd : (Nat → Int32) → Prop) (nw : (Nat → Int32) → Prop) (cr : (Nat → Int64) → Prop) (tp : (Nat → Int32) → Prop) (tt : (Nat → Int64) → Prop) (sI : (Nat → Int32) → Prop) (sT : (Nat → Int32) → Prop) (pt : (Nat → Int32) → Prop) (ql : (Nat → Int32) → Prop) (fl : Nat) (pe : Nat) (le : Nat) (nx : Nat) (il : Nat) (qu : Nat) (kn : Int32) (ec : Int32) (nu : Int32) (va : Int64) (st : Nat) (ep : Int32) (ti : Int32) (ad : Int32) (ob : Int64) (ra : Int32) (rt : Nat) (ex : Int32) (sa : Int64) (us : Int64) (tk : Nat) (th : Int32) (me : Int32) (dr : Int32) (se : Int64) (sn : Int64)  (hx : G.2.2.2 ≤ x) (hI : Im G x (rd, nw, cr, tp, tt, sI, sT, pt, ql, fl, pe, le, nx, il, qu, kn, ec, nu, va, st, ep, ti, ad, ob, ra, rt, ex, sa, us, tk, th, me, dr, se, sn) Φ)  : Ct G l yX12_beginConfiguration wsX12_beginConfiguration ({ frames := 0, cells := 0, slots := 0, locals := 0 }) 0 0 [.ref x] Φ sz (fun v Φ1 sz1 => (v = none) ∧ sz1 = sz ∧ (Im G x ((NNc 0 cB), nw, cr, tp, tt, sI, sT, pt, ql, fl, pe, le, nx, il, qu, kn, ec, nu, va, st, ep, ti, ad, ob, ra, rt, ex, sa, us, tk, th, me, dr, se, sn) Φ1) ∧ Fr x (fun j9 => j9 = 1) Φ Φ1) := by
  refine Ct.of (cc := cX12_beginConfiguration) (maxL := 2) (ret := none) (by decide) rfl (Nat.le_of_ble_eq_true rfl) ?_
  intro p9 e9 s9 m9 w9 t9 k9 B
  show Z p9 l e9 _ s9 m9 _ w9 t9 k9 _ G 2 0 [(0, .ref x)] [] Φ sz 0 0
  refine z_iconst (v := 0) B dX12_beginConfiguration_0 rfl ?_
  refine z_istore_n (lv' := [(1, .int 0), (0, .ref x)]) B dX12_beginConfiguration_1 rfl (Nat.le_of_ble_eq_true rfl) rfl ?_
  refine z_lv [0, 1] rfl ?_
  refine z_loop (α := Nat) (fun (a9 : Nat) Φi => Im G x ((fun f9 => ∀ j9, j9 < a9 → f9 j9 = 0), nw, cr, tp, tt, sI, sT, pt, ql, fl, pe, le, nx, il, qu, kn, ec, nu, va, st, ep, ti, ad, ob, ra, rt, ex, sa, us, tk, th, me, dr, se, sn) Φi ∧ Fr x (fun j9 => j9 = 1) Φ Φi ∧ (a9 ≤ 307) ∧ True) (fun a9 => [(1, .int (nI a9)), (0, .ref x)]) (fun a9 => 307 - a9) ?_ (0) ⟨(Im.weak5 hI (fun f9 _ j9 h9 => absurd h9 (Nat.not_lt_zero _)) (fun _ q9 => q9) (fun _ q9 => q9) (fun _ q9 => q9) (fun _ q9 => q9) (fun _ q9 => q9) (fun _ q9 => q9) (fun _ q9 => q9) (fun _ q9 => q9)), fun _ _ => rfl, (show 0 ≤ 307 by omega), trivial⟩
  rintro i_1 Φl1 ⟨hI1, hF1, b_1, -⟩ ih1
  replace hI1 : Im G x ((fun f9 => ∀ j9, j9 < i_1 → f9 j9 = 0), nw, cr, tp, tt, sI, sT, pt, ql, fl, pe, le, nx, il, qu, kn, ec, nu, va, st, ep, ti, ad, ob, ra, rt, ex, sa, us, tk, th, me, dr, se, sn) Φl1 := hI1
  replace b_1 : i_1 ≤ 307 := b_1
  show Z p9 l e9 _ s9 m9 _ w9 t9 k9 _ G 2 2 [(1, .int (nI i_1)), (0, .ref x)] [] Φl1 _ _ _
  refine z_iload_n B dX12_beginConfiguration_2 rfl 0 rfl ?_
  refine z_sipush (v := 307) B dX12_beginConfiguration_3 rfl ?_
  refine z_icmp_ge (tgt := 22) B dX12_beginConfiguration_6 rfl (fun c_1 => ?_) (fun c_1 => ?_)
  · have e_1 : 307 ≤ i_1 := (nI_leI (a := 307) (b := i_1) (by omega) (by omega)).mp c_1
    obtain ⟨f_1, h_1, r_1⟩ := imk (k := 1) hI1
    replace r_1 : (fun f9 => ∀ j9, j9 < i_1 → f9 j9 = 0) f_1 := r_1
    have h_2 : Φl1 (x + 1) = some (ai_ G 307 f_1) := h_1
    refine z_aload_n B dX12_beginConfiguration_22 rfl 1 rfl ?_
    obtain ⟨n_1, v_1, n_2, h_3, b_14, b_2, b_3, b_4, b_5, b_6, b_7, b_8, b_9, b_10, b_11, b_12, b_13⟩ := im0 hI1
    replace b_2 : 1 ≤ rt := b_2
    replace b_3 : rt ≤ 1024 := b_3
    replace b_4 : fl ≤ 12 := b_4
    replace b_5 : pe ≤ 24 := b_5
    replace b_6 : le ≤ 700 := b_6
    replace b_7 : qu ≤ 12 := b_7
    replace b_8 : n_1 ≤ 8 := b_8
    replace b_9 : n_2 ≤ 24 := b_9
    replace b_10 : tk ≤ 24 := b_10
    replace b_11 : il ≤ 700 := b_11
    replace b_12 : nx ≤ 701 := b_12
    replace b_13 : st ≤ 701 := b_13
    have h_4 : Φl1 x = some (o_ 14 [.int th, .ref (x + 1), .ref (x + 2), .int ti, .int ra, .int (nI rt), .int ex, .int ad, .ref (x + 3), .ref (x + 4), .int me, .long se, .ref (x + 5), .int (nI fl), .int dr, .long ob, .long sa, .long sn, .long us, .ref (x + 6), .ref (x + 7), .int (nI pe), .ref (x + 8), .int (nI le), .ref (x + 9), .ref (x + 10), .int (nI qu), .ref (x + 11), .ref (x + 12), .ref (x + 13), .ref (x + 14), .ref (x + 15), .ref (x + 16), .int (nI n_1), .long v_1, .ref (x + 17), .ref (x + 18), .ref (x + 19), .ref (x + 20), .ref (x + 21), .ref (x + 22), .int (nI n_2), .ref (x + 23), .ref (x + 24), .int (nI tk), .ref (x + 25), .int (nI il), .int (nI nx), .int ec, .int ep, .int kn, .int (nI st), .int nu, .long va]) := h_3
    refine z_get (ref := "FlowExporterModel") (C := RX12) (T := TX12) (N := 54) (ci := 14) (v := .ref (x + 1)) B hu_X12_beginConfiguration_X12 rfl 1 (Nat.le_of_ble_eq_true rfl) hv_X12_beginConfiguration_13 rfl h_4 rfl dX12_beginConfiguration_23 ?_
    refine z_iconst (v := 0) B dX12_beginConfiguration_26 rfl ?_
    refine z_iconst (v := 1) B dX12_beginConfiguration_27 rfl ?_
    refine z_iast B h_2 (Nat.le_trans hx (Nat.le_add_right x 1)) (vin rfl) dX12_beginConfiguration_28 (fun Φ1 hΦ1 => ?_)
    have h_5 : Φ1 (x + 1) = some (ai_ G 307 (upd f_1 (0 : Int32).toNatClampNeg 1)) := fset_at hΦ1
    have hI2 : Im G x ((fun g9 => g9 = (upd f_1 (0 : Int32).toNatClampNeg 1)), nw, cr, tp, tt, sI, sT, pt, ql, fl, pe, le, nx, il, qu, kn, ec, nu, va, st, ep, ti, ad, ob, ra, rt, ex, sa, us, tk, th, me, dr, se, sn) Φ1 := Im.put1 (rd1 := (fun g9 => g9 = (upd f_1 (0 : Int32).toNatClampNeg 1))) hI1 hΦ1 rfl
    refine z_aload_n B dX12_beginConfiguration_29 rfl 1 rfl ?_
    have h_6 : Φ1 x = some (o_ 14 [.int th, .ref (x + 1), .ref (x + 2), .int ti, .int ra, .int (nI rt), .int ex, .int ad, .ref (x + 3), .ref (x + 4), .int me, .long se, .ref (x + 5), .int (nI fl), .int dr, .long ob, .long sa, .long sn, .long us, .ref (x + 6), .ref (x + 7), .int (nI pe), .ref (x + 8), .int (nI le), .ref (x + 9), .ref (x + 10), .int (nI qu), .ref (x + 11), .ref (x + 12), .ref (x + 13), .ref (x + 14), .ref (x + 15), .ref (x + 16), .int (nI n_1), .long v_1, .ref (x + 17), .ref (x + 18), .ref (x + 19), .ref (x + 20), .ref (x + 21), .ref (x + 22), .int (nI n_2), .ref (x + 23), .ref (x + 24), .int (nI tk), .ref (x + 25), .int (nI il), .int (nI nx), .int ec, .int ep, .int kn, .int (nI st), .int nu, .long va]) := ((fset_fr hΦ1 (ne_off (x := x) (i := 0) (j := 1) rfl)).trans h_4)
    refine z_get (ref := "FlowExporterModel") (C := RX12) (T := TX12) (N := 54) (ci := 14) (v := .ref (x + 1)) B hu_X12_beginConfiguration_X12 rfl 1 (Nat.le_of_ble_eq_true rfl) hv_X12_beginConfiguration_13 rfl h_6 rfl dX12_beginConfiguration_30 ?_
    refine z_iconst (v := 1) B dX12_beginConfiguration_33 rfl ?_
    refine z_bipush (v := 100) B dX12_beginConfiguration_34 rfl ?_
    refine z_iast B h_5 (Nat.le_trans hx (Nat.le_add_right x 1)) (vin rfl) dX12_beginConfiguration_36 (fun Φ2 hΦ2 => ?_)
    have h_7 : Φ2 (x + 1) = some (ai_ G 307 (upd (upd f_1 (0 : Int32).toNatClampNeg 1) (1 : Int32).toNatClampNeg 100)) := fset_at hΦ2
    have hI3 : Im G x ((fun g9 => g9 = (upd (upd f_1 (0 : Int32).toNatClampNeg 1) (1 : Int32).toNatClampNeg 100)), nw, cr, tp, tt, sI, sT, pt, ql, fl, pe, le, nx, il, qu, kn, ec, nu, va, st, ep, ti, ad, ob, ra, rt, ex, sa, us, tk, th, me, dr, se, sn) Φ2 := Im.put1 (rd1 := (fun g9 => g9 = (upd (upd f_1 (0 : Int32).toNatClampNeg 1) (1 : Int32).toNatClampNeg 100))) hI2 hΦ2 rfl
    refine z_aload_n B dX12_beginConfiguration_37 rfl 1 rfl ?_
    have h_8 : Φ2 x = some (o_ 14 [.int th, .ref (x + 1), .ref (x + 2), .int ti, .int ra, .int (nI rt), .int ex, .int ad, .ref (x + 3), .ref (x + 4), .int me, .long se, .ref (x + 5), .int (nI fl), .int dr, .long ob, .long sa, .long sn, .long us, .ref (x + 6), .ref (x + 7), .int (nI pe), .ref (x + 8), .int (nI le), .ref (x + 9), .ref (x + 10), .int (nI qu), .ref (x + 11), .ref (x + 12), .ref (x + 13), .ref (x + 14), .ref (x + 15), .ref (x + 16), .int (nI n_1), .long v_1, .ref (x + 17), .ref (x + 18), .ref (x + 19), .ref (x + 20), .ref (x + 21), .ref (x + 22), .int (nI n_2), .ref (x + 23), .ref (x + 24), .int (nI tk), .ref (x + 25), .int (nI il), .int (nI nx), .int ec, .int ep, .int kn, .int (nI st), .int nu, .long va]) := ((fset_fr hΦ2 (ne_off (x := x) (i := 0) (j := 1) rfl)).trans h_6)
    refine z_get (ref := "FlowExporterModel") (C := RX12) (T := TX12) (N := 54) (ci := 14) (v := .ref (x + 1)) B hu_X12_beginConfiguration_X12 rfl 1 (Nat.le_of_ble_eq_true rfl) hv_X12_beginConfiguration_13 rfl h_8 rfl dX12_beginConfiguration_38 ?_
    refine z_iconst (v := 2) B dX12_beginConfiguration_41 rfl ?_
    refine z_sipush (v := 1000) B dX12_beginConfiguration_42 rfl ?_
    refine z_iast B h_7 (Nat.le_trans hx (Nat.le_add_right x 1)) (vin rfl) dX12_beginConfiguration_45 (fun Φ3 hΦ3 => ?_)
    have h_9 : Φ3 (x + 1) = some (ai_ G 307 (upd (upd (upd f_1 (0 : Int32).toNatClampNeg 1) (1 : Int32).toNatClampNeg 100) (2 : Int32).toNatClampNeg 1000)) := fset_at hΦ3
    have hI4 : Im G x ((fun g9 => g9 = (upd (upd (upd f_1 (0 : Int32).toNatClampNeg 1) (1 : Int32).toNatClampNeg 100) (2 : Int32).toNatClampNeg 1000)), nw, cr, tp, tt, sI, sT, pt, ql, fl, pe, le, nx, il, qu, kn, ec, nu, va, st, ep, ti, ad, ob, ra, rt, ex, sa, us, tk, th, me, dr, se, sn) Φ3 := Im.put1 (rd1 := (fun g9 => g9 = (upd (upd (upd f_1 (0 : Int32).toNatClampNeg 1) (1 : Int32).toNatClampNeg 100) (2 : Int32).toNatClampNeg 1000))) hI3 hΦ3 rfl
    refine z_aload_n B dX12_beginConfiguration_46 rfl 1 rfl ?_
    have h_10 : Φ3 x = some (o_ 14 [.int th, .ref (x + 1), .ref (x + 2), .int ti, .int ra, .int (nI rt), .int ex, .int ad, .ref (x + 3), .ref (x + 4), .int me, .long se, .ref (x + 5), .int (nI fl), .int dr, .long ob, .long sa, .long sn, .long us, .ref (x + 6), .ref (x + 7), .int (nI pe), .ref (x + 8), .int (nI le), .ref (x + 9), .ref (x + 10), .int (nI qu), .ref (x + 11), .ref (x + 12), .ref (x + 13), .ref (x + 14), .ref (x + 15), .ref (x + 16), .int (nI n_1), .long v_1, .ref (x + 17), .ref (x + 18), .ref (x + 19), .ref (x + 20), .ref (x + 21), .ref (x + 22), .int (nI n_2), .ref (x + 23), .ref (x + 24), .int (nI tk), .ref (x + 25), .int (nI il), .int (nI nx), .int ec, .int ep, .int kn, .int (nI st), .int nu, .long va]) := ((fset_fr hΦ3 (ne_off (x := x) (i := 0) (j := 1) rfl)).trans h_8)
    refine z_get (ref := "FlowExporterModel") (C := RX12) (T := TX12) (N := 54) (ci := 14) (v := .ref (x + 1)) B hu_X12_beginConfiguration_X12 rfl 1 (Nat.le_of_ble_eq_true rfl) hv_X12_beginConfiguration_13 rfl h_10 rfl dX12_beginConfiguration_47 ?_
    refine z_iconst (v := 3) B dX12_beginConfiguration_50 rfl ?_
    refine z_bipush (v := 100) B dX12_beginConfiguration_51 rfl ?_
    refine z_iast B h_9 (Nat.le_trans hx (Nat.le_add_right x 1)) (vin rfl) dX12_beginConfiguration_53 (fun Φ4 hΦ4 => ?_)
    have h_11 : Φ4 (x + 1) = some (ai_ G 307 (upd (upd (upd (upd f_1 (0 : Int32).toNatClampNeg 1) (1 : Int32).toNatClampNeg 100) (2 : Int32).toNatClampNeg 1000) (3 : Int32).toNatClampNeg 100)) := fset_at hΦ4
    have hI5 : Im G x ((fun g9 => g9 = (upd (upd (upd (upd f_1 (0 : Int32).toNatClampNeg 1) (1 : Int32).toNatClampNeg 100) (2 : Int32).toNatClampNeg 1000) (3 : Int32).toNatClampNeg 100)), nw, cr, tp, tt, sI, sT, pt, ql, fl, pe, le, nx, il, qu, kn, ec, nu, va, st, ep, ti, ad, ob, ra, rt, ex, sa, us, tk, th, me, dr, se, sn) Φ4 := Im.put1 (rd1 := (fun g9 => g9 = (upd (upd (upd (upd f_1 (0 : Int32).toNatClampNeg 1) (1 : Int32).toNatClampNeg 100) (2 : Int32).toNatClampNeg 1000) (3 : Int32).toNatClampNeg 100))) hI4 hΦ4 rfl
    refine z_aload_n B dX12_beginConfiguration_54 rfl 1 rfl ?_
    have h_12 : Φ4 x = some (o_ 14 [.int th, .ref (x + 1), .ref (x + 2), .int ti, .int ra, .int (nI rt), .int ex, .int ad, .ref (x + 3), .ref (x + 4), .int me, .long se, .ref (x + 5), .int (nI fl), .int dr, .long ob, .long sa, .long sn, .long us, .ref (x + 6), .ref (x + 7), .int (nI pe), .ref (x + 8), .int (nI le), .ref (x + 9), .ref (x + 10), .int (nI qu), .ref (x + 11), .ref (x + 12), .ref (x + 13), .ref (x + 14), .ref (x + 15), .ref (x + 16), .int (nI n_1), .long v_1, .ref (x + 17), .ref (x + 18), .ref (x + 19), .ref (x + 20), .ref (x + 21), .ref (x + 22), .int (nI n_2), .ref (x + 23), .ref (x + 24), .int (nI tk), .ref (x + 25), .int (nI il), .int (nI nx), .int ec, .int ep, .int kn, .int (nI st), .int nu, .long va]) := ((fset_fr hΦ4 (ne_off (x := x) (i := 0) (j := 1) rfl)).trans h_10)
    refine z_get (ref := "FlowExporterModel") (C := RX12) (T := TX12) (N := 54) (ci := 14) (v := .ref (x + 1)) B hu_X12_beginConfiguration_X12 rfl 1 (Nat.le_of_ble_eq_true rfl) hv_X12_beginConfiguration_13 rfl h_12 rfl dX12_beginConfiguration_55 ?_
    refine z_iconst (v := 4) B dX12_beginConfiguration_58 rfl ?_
    refine z_bipush (v := 20) B dX12_beginConfiguration_59 rfl ?_
    refine z_iast B h_11 (Nat.le_trans hx (Nat.le_add_right x 1)) (vin rfl) dX12_beginConfiguration_61 (fun Φ5 hΦ5 => ?_)
    have h_13 : Φ5 (x + 1) = some (ai_ G 307 (upd (upd (upd (upd (upd f_1 (0 : Int32).toNatClampNeg 1) (1 : Int32).toNatClampNeg 100) (2 : Int32).toNatClampNeg 1000) (3 : Int32).toNatClampNeg 100) (4 : Int32).toNatClampNeg 20)) := fset_at hΦ5
    have hI6 : Im G x ((fun g9 => g9 = (upd (upd (upd (upd (upd f_1 (0 : Int32).toNatClampNeg 1) (1 : Int32).toNatClampNeg 100) (2 : Int32).toNatClampNeg 1000) (3 : Int32).toNatClampNeg 100) (4 : Int32).toNatClampNeg 20)), nw, cr, tp, tt, sI, sT, pt, ql, fl, pe, le, nx, il, qu, kn, ec, nu, va, st, ep, ti, ad, ob, ra, rt, ex, sa, us, tk, th, me, dr, se, sn) Φ5 := Im.put1 (rd1 := (fun g9 => g9 = (upd (upd (upd (upd (upd f_1 (0 : Int32).toNatClampNeg 1) (1 : Int32).toNatClampNeg 100) (2 : Int32).toNatClampNeg 1000) (3 : Int32).toNatClampNeg 100) (4 : Int32).toNatClampNeg 20))) hI5 hΦ5 rfl
    refine z_aload_n B dX12_beginConfiguration_62 rfl 1 rfl ?_
    have h_14 : Φ5 x = some (o_ 14 [.int th, .ref (x + 1), .ref (x + 2), .int ti, .int ra, .int (nI rt), .int ex, .int ad, .ref (x + 3), .ref (x + 4), .int me, .long se, .ref (x + 5), .int (nI fl), .int dr, .long ob, .long sa, .long sn, .long us, .ref (x + 6), .ref (x + 7), .int (nI pe), .ref (x + 8), .int (nI le), .ref (x + 9), .ref (x + 10), .int (nI qu), .ref (x + 11), .ref (x + 12), .ref (x + 13), .ref (x + 14), .ref (x + 15), .ref (x + 16), .int (nI n_1), .long v_1, .ref (x + 17), .ref (x + 18), .ref (x + 19), .ref (x + 20), .ref (x + 21), .ref (x + 22), .int (nI n_2), .ref (x + 23), .ref (x + 24), .int (nI tk), .ref (x + 25), .int (nI il), .int (nI nx), .int ec, .int ep, .int kn, .int (nI st), .int nu, .long va]) := ((fset_fr hΦ5 (ne_off (x := x) (i := 0) (j := 1) rfl)).trans h_12)
    refine z_get (ref := "FlowExporterModel") (C := RX12) (T := TX12) (N := 54) (ci := 14) (v := .ref (x + 1)) B hu_X12_beginConfiguration_X12 rfl 1 (Nat.le_of_ble_eq_true rfl) hv_X12_beginConfiguration_13 rfl h_14 rfl dX12_beginConfiguration_63 ?_
    refine z_iconst (v := 5) B dX12_beginConfiguration_66 rfl ?_
    refine z_sipush (v := 1000) B dX12_beginConfiguration_67 rfl ?_
    refine z_iast B h_13 (Nat.le_trans hx (Nat.le_add_right x 1)) (vin rfl) dX12_beginConfiguration_70 (fun Φ6 hΦ6 => ?_)
    have h_15 : Φ6 (x + 1) = some (ai_ G 307 (upd (upd (upd (upd (upd (upd f_1 (0 : Int32).toNatClampNeg 1) (1 : Int32).toNatClampNeg 100) (2 : Int32).toNatClampNeg 1000) (3 : Int32).toNatClampNeg 100) (4 : Int32).toNatClampNeg 20) (5 : Int32).toNatClampNeg 1000)) := fset_at hΦ6
    have hI7 : Im G x ((fun g9 => g9 = (upd (upd (upd (upd (upd (upd f_1 (0 : Int32).toNatClampNeg 1) (1 : Int32).toNatClampNeg 100) (2 : Int32).toNatClampNeg 1000) (3 : Int32).toNatClampNeg 100) (4 : Int32).toNatClampNeg 20) (5 : Int32).toNatClampNeg 1000)), nw, cr, tp, tt, sI, sT, pt, ql, fl, pe, le, nx, il, qu, kn, ec, nu, va, st, ep, ti, ad, ob, ra, rt, ex, sa, us, tk, th, me, dr, se, sn) Φ6 := Im.put1 (rd1 := (fun g9 => g9 = (upd (upd (upd (upd (upd (upd f_1 (0 : Int32).toNatClampNeg 1) (1 : Int32).toNatClampNeg 100) (2 : Int32).toNatClampNeg 1000) (3 : Int32).toNatClampNeg 100) (4 : Int32).toNatClampNeg 20) (5 : Int32).toNatClampNeg 1000))) hI6 hΦ6 rfl
    refine z_aload_n B dX12_beginConfiguration_71 rfl 1 rfl ?_
    have h_16 : Φ6 x = some (o_ 14 [.int th, .ref (x + 1), .ref (x + 2), .int ti, .int ra, .int (nI rt), .int ex, .int ad, .ref (x + 3), .ref (x + 4), .int me, .long se, .ref (x + 5), .int (nI fl), .int dr, .long ob, .long sa, .long sn, .long us, .ref (x + 6), .ref (x + 7), .int (nI pe), .ref (x + 8), .int (nI le), .ref (x + 9), .ref (x + 10), .int (nI qu), .ref (x + 11), .ref (x + 12), .ref (x + 13), .ref (x + 14), .ref (x + 15), .ref (x + 16), .int (nI n_1), .long v_1, .ref (x + 17), .ref (x + 18), .ref (x + 19), .ref (x + 20), .ref (x + 21), .ref (x + 22), .int (nI n_2), .ref (x + 23), .ref (x + 24), .int (nI tk), .ref (x + 25), .int (nI il), .int (nI nx), .int ec, .int ep, .int kn, .int (nI st), .int nu, .long va]) := ((fset_fr hΦ6 (ne_off (x := x) (i := 0) (j := 1) rfl)).trans h_14)
    refine z_get (ref := "FlowExporterModel") (C := RX12) (T := TX12) (N := 54) (ci := 14) (v := .ref (x + 1)) B hu_X12_beginConfiguration_X12 rfl 1 (Nat.le_of_ble_eq_true rfl) hv_X12_beginConfiguration_13 rfl h_16 rfl dX12_beginConfiguration_72 ?_
    refine z_bipush (v := 6) B dX12_beginConfiguration_75 rfl ?_
    refine z_sipush (v := 5000) B dX12_beginConfiguration_77 rfl ?_
    refine z_iast B h_15 (Nat.le_trans hx (Nat.le_add_right x 1)) (vin rfl) dX12_beginConfiguration_80 (fun Φ7 hΦ7 => ?_)
    have h_17 : Φ7 (x + 1) = some (ai_ G 307 (upd (upd (upd (upd (upd (upd (upd f_1 (0 : Int32).toNatClampNeg 1) (1 : Int32).toNatClampNeg 100) (2 : Int32).toNatClampNeg 1000) (3 : Int32).toNatClampNeg 100) (4 : Int32).toNatClampNeg 20) (5 : Int32).toNatClampNeg 1000) (6 : Int32).toNatClampNeg 5000)) := fset_at hΦ7
    have hI8 : Im G x ((fun g9 => g9 = (upd (upd (upd (upd (upd (upd (upd f_1 (0 : Int32).toNatClampNeg 1) (1 : Int32).toNatClampNeg 100) (2 : Int32).toNatClampNeg 1000) (3 : Int32).toNatClampNeg 100) (4 : Int32).toNatClampNeg 20) (5 : Int32).toNatClampNeg 1000) (6 : Int32).toNatClampNeg 5000)), nw, cr, tp, tt, sI, sT, pt, ql, fl, pe, le, nx, il, qu, kn, ec, nu, va, st, ep, ti, ad, ob, ra, rt, ex, sa, us, tk, th, me, dr, se, sn) Φ7 := Im.put1 (rd1 := (fun g9 => g9 = (upd (upd (upd (upd (upd (upd (upd f_1 (0 : Int32).toNatClampNeg 1) (1 : Int32).toNatClampNeg 100) (2 : Int32).toNatClampNeg 1000) (3 : Int32).toNatClampNeg 100) (4 : Int32).toNatClampNeg 20) (5 : Int32).toNatClampNeg 1000) (6 : Int32).toNatClampNeg 5000))) hI7 hΦ7 rfl
    refine z_aload_n B dX12_beginConfiguration_81 rfl 1 rfl ?_
    have h_18 : Φ7 x = some (o_ 14 [.int th, .ref (x + 1), .ref (x + 2), .int ti, .int ra, .int (nI rt), .int ex, .int ad, .ref (x + 3), .ref (x + 4), .int me, .long se, .ref (x + 5), .int (nI fl), .int dr, .long ob, .long sa, .long sn, .long us, .ref (x + 6), .ref (x + 7), .int (nI pe), .ref (x + 8), .int (nI le), .ref (x + 9), .ref (x + 10), .int (nI qu), .ref (x + 11), .ref (x + 12), .ref (x + 13), .ref (x + 14), .ref (x + 15), .ref (x + 16), .int (nI n_1), .long v_1, .ref (x + 17), .ref (x + 18), .ref (x + 19), .ref (x + 20), .ref (x + 21), .ref (x + 22), .int (nI n_2), .ref (x + 23), .ref (x + 24), .int (nI tk), .ref (x + 25), .int (nI il), .int (nI nx), .int ec, .int ep, .int kn, .int (nI st), .int nu, .long va]) := ((fset_fr hΦ7 (ne_off (x := x) (i := 0) (j := 1) rfl)).trans h_16)
    refine z_get (ref := "FlowExporterModel") (C := RX12) (T := TX12) (N := 54) (ci := 14) (v := .ref (x + 1)) B hu_X12_beginConfiguration_X12 rfl 1 (Nat.le_of_ble_eq_true rfl) hv_X12_beginConfiguration_13 rfl h_18 rfl dX12_beginConfiguration_82 ?_
    refine z_bipush (v := 7) B dX12_beginConfiguration_85 rfl ?_
    refine z_sipush (v := 512) B dX12_beginConfiguration_87 rfl ?_
    refine z_iast B h_17 (Nat.le_trans hx (Nat.le_add_right x 1)) (vin rfl) dX12_beginConfiguration_90 (fun Φ8 hΦ8 => ?_)
    have h_19 : Φ8 (x + 1) = some (ai_ G 307 (upd (upd (upd (upd (upd (upd (upd (upd f_1 (0 : Int32).toNatClampNeg 1) (1 : Int32).toNatClampNeg 100) (2 : Int32).toNatClampNeg 1000) (3 : Int32).toNatClampNeg 100) (4 : Int32).toNatClampNeg 20) (5 : Int32).toNatClampNeg 1000) (6 : Int32).toNatClampNeg 5000) (7 : Int32).toNatClampNeg 512)) := fset_at hΦ8
    have hI9 : Im G x ((fun g9 => g9 = (upd (upd (upd (upd (upd (upd (upd (upd f_1 (0 : Int32).toNatClampNeg 1) (1 : Int32).toNatClampNeg 100) (2 : Int32).toNatClampNeg 1000) (3 : Int32).toNatClampNeg 100) (4 : Int32).toNatClampNeg 20) (5 : Int32).toNatClampNeg 1000) (6 : Int32).toNatClampNeg 5000) (7 : Int32).toNatClampNeg 512)), nw, cr, tp, tt, sI, sT, pt, ql, fl, pe, le, nx, il, qu, kn, ec, nu, va, st, ep, ti, ad, ob, ra, rt, ex, sa, us, tk, th, me, dr, se, sn) Φ8 := Im.put1 (rd1 := (fun g9 => g9 = (upd (upd (upd (upd (upd (upd (upd (upd f_1 (0 : Int32).toNatClampNeg 1) (1 : Int32).toNatClampNeg 100) (2 : Int32).toNatClampNeg 1000) (3 : Int32).toNatClampNeg 100) (4 : Int32).toNatClampNeg 20) (5 : Int32).toNatClampNeg 1000) (6 : Int32).toNatClampNeg 5000) (7 : Int32).toNatClampNeg 512))) hI8 hΦ8 rfl
    refine z_aload_n B dX12_beginConfiguration_91 rfl 1 rfl ?_
    have h_20 : Φ8 x = some (o_ 14 [.int th, .ref (x + 1), .ref (x + 2), .int ti, .int ra, .int (nI rt), .int ex, .int ad, .ref (x + 3), .ref (x + 4), .int me, .long se, .ref (x + 5), .int (nI fl), .int dr, .long ob, .long sa, .long sn, .long us, .ref (x + 6), .ref (x + 7), .int (nI pe), .ref (x + 8), .int (nI le), .ref (x + 9), .ref (x + 10), .int (nI qu), .ref (x + 11), .ref (x + 12), .ref (x + 13), .ref (x + 14), .ref (x + 15), .ref (x + 16), .int (nI n_1), .long v_1, .ref (x + 17), .ref (x + 18), .ref (x + 19), .ref (x + 20), .ref (x + 21), .ref (x + 22), .int (nI n_2), .ref (x + 23), .ref (x + 24), .int (nI tk), .ref (x + 25), .int (nI il), .int (nI nx), .int ec, .int ep, .int kn, .int (nI st), .int nu, .long va]) := ((fset_fr hΦ8 (ne_off (x := x) (i := 0) (j := 1) rfl)).trans h_18)
    refine z_get (ref := "FlowExporterModel") (C := RX12) (T := TX12) (N := 54) (ci := 14) (v := .ref (x + 1)) B hu_X12_beginConfiguration_X12 rfl 1 (Nat.le_of_ble_eq_true rfl) hv_X12_beginConfiguration_13 rfl h_20 rfl dX12_beginConfiguration_92 ?_
    refine z_bipush (v := 8) B dX12_beginConfiguration_95 rfl ?_
    refine z_iconst (v := 1) B dX12_beginConfiguration_97 rfl ?_
    refine z_iast B h_19 (Nat.le_trans hx (Nat.le_add_right x 1)) (vin rfl) dX12_beginConfiguration_98 (fun Φ9 hΦ9 => ?_)
    have h_21 : Φ9 (x + 1) = some (ai_ G 307 (upd (upd (upd (upd (upd (upd (upd (upd (upd f_1 (0 : Int32).toNatClampNeg 1) (1 : Int32).toNatClampNeg 100) (2 : Int32).toNatClampNeg 1000) (3 : Int32).toNatClampNeg 100) (4 : Int32).toNatClampNeg 20) (5 : Int32).toNatClampNeg 1000) (6 : Int32).toNatClampNeg 5000) (7 : Int32).toNatClampNeg 512) (8 : Int32).toNatClampNeg 1)) := fset_at hΦ9
    have hI10 : Im G x ((fun g9 => g9 = (upd (upd (upd (upd (upd (upd (upd (upd (upd f_1 (0 : Int32).toNatClampNeg 1) (1 : Int32).toNatClampNeg 100) (2 : Int32).toNatClampNeg 1000) (3 : Int32).toNatClampNeg 100) (4 : Int32).toNatClampNeg 20) (5 : Int32).toNatClampNeg 1000) (6 : Int32).toNatClampNeg 5000) (7 : Int32).toNatClampNeg 512) (8 : Int32).toNatClampNeg 1)), nw, cr, tp, tt, sI, sT, pt, ql, fl, pe, le, nx, il, qu, kn, ec, nu, va, st, ep, ti, ad, ob, ra, rt, ex, sa, us, tk, th, me, dr, se, sn) Φ9 := Im.put1 (rd1 := (fun g9 => g9 = (upd (upd (upd (upd (upd (upd (upd (upd (upd f_1 (0 : Int32).toNatClampNeg 1) (1 : Int32).toNatClampNeg 100) (2 : Int32).toNatClampNeg 1000) (3 : Int32).toNatClampNeg 100) (4 : Int32).toNatClampNeg 20) (5 : Int32).toNatClampNeg 1000) (6 : Int32).toNatClampNeg 5000) (7 : Int32).toNatClampNeg 512) (8 : Int32).toNatClampNeg 1))) hI9 hΦ9 rfl
    refine z_aload_n B dX12_beginConfiguration_99 rfl 1 rfl ?_
    have h_22 : Φ9 x = some (o_ 14 [.int th, .ref (x + 1), .ref (x + 2), .int ti, .int ra, .int (nI rt), .int ex, .int ad, .ref (x + 3), .ref (x + 4), .int me, .long se, .ref (x + 5), .int (nI fl), .int dr, .long ob, .long sa, .long sn, .long us, .ref (x + 6), .ref (x + 7), .int (nI pe), .ref (x + 8), .int (nI le), .ref (x + 9), .ref (x + 10), .int (nI qu), .ref (x + 11), .ref (x + 12), .ref (x + 13), .ref (x + 14), .ref (x + 15), .ref (x + 16), .int (nI n_1), .long v_1, .ref (x + 17), .ref (x + 18), .ref (x + 19), .ref (x + 20), .ref (x + 21), .ref (x + 22), .int (nI n_2), .ref (x + 23), .ref (x + 24), .int (nI tk), .ref (x + 25), .int (nI il), .int (nI nx), .int ec, .int ep, .int kn, .int (nI st), .int nu, .long va]) := ((fset_fr hΦ9 (ne_off (x := x) (i := 0) (j := 1) rfl)).trans h_20)
    refine z_get (ref := "FlowExporterModel") (C := RX12) (T := TX12) (N := 54) (ci := 14) (v := .ref (x + 1)) B hu_X12_beginConfiguration_X12 rfl 1 (Nat.le_of_ble_eq_true rfl) hv_X12_beginConfiguration_13 rfl h_22 rfl dX12_beginConfiguration_100 ?_
    refine z_bipush (v := 9) B dX12_beginConfiguration_103 rfl ?_
    refine z_sipush (v := 511) B dX12_beginConfiguration_105 rfl ?_
    refine z_iast B h_21 (Nat.le_trans hx (Nat.le_add_right x 1)) (vin rfl) dX12_beginConfiguration_108 (fun Φ10 hΦ10 => ?_)
    have h_23 : Φ10 (x + 1) = some (ai_ G 307 (upd (upd (upd (upd (upd (upd (upd (upd (upd (upd f_1 (0 : Int32).toNatClampNeg 1) (1 : Int32).toNatClampNeg 100) (2 : Int32).toNatClampNeg 1000) (3 : Int32).toNatClampNeg 100) (4 : Int32).toNatClampNeg 20) (5 : Int32).toNatClampNeg 1000) (6 : Int32).toNatClampNeg 5000) (7 : Int32).toNatClampNeg 512) (8 : Int32).toNatClampNeg 1) (9 : Int32).toNatClampNeg 511)) := fset_at hΦ10
    have hI11 : Im G x ((fun g9 => g9 = (upd (upd (upd (upd (upd (upd (upd (upd (upd (upd f_1 (0 : Int32).toNatClampNeg 1) (1 : Int32).toNatClampNeg 100) (2 : Int32).toNatClampNeg 1000) (3 : Int32).toNatClampNeg 100) (4 : Int32).toNatClampNeg 20) (5 : Int32).toNatClampNeg 1000) (6 : Int32).toNatClampNeg 5000) (7 : Int32).toNatClampNeg 512) (8 : Int32).toNatClampNeg 1) (9 : Int32).toNatClampNeg 511)), nw, cr, tp, tt, sI, sT, pt, ql, fl, pe, le, nx, il, qu, kn, ec, nu, va, st, ep, ti, ad, ob, ra, rt, ex, sa, us, tk, th, me, dr, se, sn) Φ10 := Im.put1 (rd1 := (fun g9 => g9 = (upd (upd (upd (upd (upd (upd (upd (upd (upd (upd f_1 (0 : Int32).toNatClampNeg 1) (1 : Int32).toNatClampNeg 100) (2 : Int32).toNatClampNeg 1000) (3 : Int32).toNatClampNeg 100) (4 : Int32).toNatClampNeg 20) (5 : Int32).toNatClampNeg 1000) (6 : Int32).toNatClampNeg 5000) (7 : Int32).toNatClampNeg 512) (8 : Int32).toNatClampNeg 1) (9 : Int32).toNatClampNeg 511))) hI10 hΦ10 rfl
    have hI12 : Im G x ((NNc 0 cB), nw, cr, tp, tt, sI, sT, pt, ql, fl, pe, le, nx, il, qu, kn, ec, nu, va, st, ep, ti, ad, ob, ra, rt, ex, sa, us, tk, th, me, dr, se, sn) Φ10 := Im.weak hI11 (fun g9 q9 => ⟨⟨Eq.subst (motive := NN) q9.symm (NN_begin (fun j9 h9 => r_1 j9 (by omega))), (congrFun q9 10).trans (r_1 10 (by omega))⟩, fun j9 h9 => (congrFun q9 j9).trans (cB_begin (fun j8 h8 => r_1 j8 (by omega)) j9 h9)⟩) (fun _ q9 => q9)
    exact z_ret_v B dX12_beginConfiguration_109 ⟨rfl, rfl, hI12, (fun b9 h9 => ((fset_fr hΦ10 (fun h8 => h9 (1) h8 (show 1 = 1 by decide))).trans ((fset_fr hΦ9 (fun h8 => h9 (1) h8 (show 1 = 1 by decide))).trans ((fset_fr hΦ8 (fun h8 => h9 (1) h8 (show 1 = 1 by decide))).trans ((fset_fr hΦ7 (fun h8 => h9 (1) h8 (show 1 = 1 by decide))).trans ((fset_fr hΦ6 (fun h8 => h9 (1) h8 (show 1 = 1 by decide))).trans ((fset_fr hΦ5 (fun h8 => h9 (1) h8 (show 1 = 1 by decide))).trans ((fset_fr hΦ4 (fun h8 => h9 (1) h8 (show 1 = 1 by decide))).trans ((fset_fr hΦ3 (fun h8 => h9 (1) h8 (show 1 = 1 by decide))).trans ((fset_fr hΦ2 (fun h8 => h9 (1) h8 (show 1 = 1 by decide))).trans ((fset_fr hΦ1 (fun h8 => h9 (1) h8 (show 1 = 1 by decide))).trans ((hF1 b9 h9).trans rfl))))))))))))⟩
  · have e_2 : ¬ (307 ≤ i_1) := fun h9 => c_1 ((nI_leI (a := 307) (b := i_1) (by omega) (by omega)).mpr h9)
    refine z_aload_n B dX12_beginConfiguration_9 rfl 1 rfl ?_
    obtain ⟨n_3, v_2, n_4, h_24, b_27, b_15, b_16, b_17, b_18, b_19, b_20, b_21, b_22, b_23, b_24, b_25, b_26⟩ := im0 hI1
    replace b_15 : 1 ≤ rt := b_15
    replace b_16 : rt ≤ 1024 := b_16
    replace b_17 : fl ≤ 12 := b_17
    replace b_18 : pe ≤ 24 := b_18
    replace b_19 : le ≤ 700 := b_19
    replace b_20 : qu ≤ 12 := b_20
    replace b_21 : n_3 ≤ 8 := b_21
    replace b_22 : n_4 ≤ 24 := b_22
    replace b_23 : tk ≤ 24 := b_23
    replace b_24 : il ≤ 700 := b_24
    replace b_25 : nx ≤ 701 := b_25
    replace b_26 : st ≤ 701 := b_26
    have h_25 : Φl1 x = some (o_ 14 [.int th, .ref (x + 1), .ref (x + 2), .int ti, .int ra, .int (nI rt), .int ex, .int ad, .ref (x + 3), .ref (x + 4), .int me, .long se, .ref (x + 5), .int (nI fl), .int dr, .long ob, .long sa, .long sn, .long us, .ref (x + 6), .ref (x + 7), .int (nI pe), .ref (x + 8), .int (nI le), .ref (x + 9), .ref (x + 10), .int (nI qu), .ref (x + 11), .ref (x + 12), .ref (x + 13), .ref (x + 14), .ref (x + 15), .ref (x + 16), .int (nI n_3), .long v_2, .ref (x + 17), .ref (x + 18), .ref (x + 19), .ref (x + 20), .ref (x + 21), .ref (x + 22), .int (nI n_4), .ref (x + 23), .ref (x + 24), .int (nI tk), .ref (x + 25), .int (nI il), .int (nI nx), .int ec, .int ep, .int kn, .int (nI st), .int nu, .long va]) := h_24
    refine z_get (ref := "FlowExporterModel") (C := RX12) (T := TX12) (N := 54) (ci := 14) (v := .ref (x + 1)) B hu_X12_beginConfiguration_X12 rfl 1 (Nat.le_of_ble_eq_true rfl) hv_X12_beginConfiguration_13 rfl h_25 rfl dX12_beginConfiguration_10 ?_
    refine z_iload_n B dX12_beginConfiguration_13 rfl 0 rfl ?_
    refine z_iconst (v := 0) B dX12_beginConfiguration_14 rfl ?_
    obtain ⟨f_2, h_26, r_12⟩ := imk (k := 1) hI1
    replace r_12 : (fun f9 => ∀ j9, j9 < i_1 → f9 j9 = 0) f_2 := r_12
    have h_27 : Φl1 (x + 1) = some (ai_ G 307 f_2) := h_26
    refine z_iast B h_27 (Nat.le_trans hx (Nat.le_add_right x 1)) (vp_in_nI (by omega) (by omega)) dX12_beginConfiguration_15 (fun Φ11 hΦ11 => ?_)
    have h_28 : Φ11 (x + 1) = some (ai_ G 307 (upd f_2 (nI i_1).toNatClampNeg 0)) := fset_at hΦ11
    have hI13 : Im G x ((fun f9 => ∀ j9, j9 < i_1 + 1 → f9 j9 = 0), nw, cr, tp, tt, sI, sT, pt, ql, fl, pe, le, nx, il, qu, kn, ec, nu, va, st, ep, ti, ad, ob, ra, rt, ex, sa, us, tk, th, me, dr, se, sn) Φ11 := Im.put1 (rd1 := (fun f9 => ∀ j9, j9 < i_1 + 1 → f9 j9 = 0)) hI1 hΦ11 (zs r_12 (nI_clamp (by omega)))
    refine z_iinc (k := 0) (v := nI (i_1 + 1)) (lv' := [(1, .int (nI (i_1 + 1))), (0, .ref x)]) B dX12_beginConfiguration_16 rfl (nI_add i_1 1) (Nat.le_of_ble_eq_true rfl) rfl ?_
    refine z_goto (tgt := 2) B dX12_beginConfiguration_19 rfl ?_
    refine z_lv [0, 1] rfl ?_
    exact ih1 (i_1 + 1) Φ11 (show 307 - (i_1 + 1) < 307 - i_1 by omega) ⟨hI13, (fun b9 h9 => ((fset_fr hΦ11 (fun h8 => h9 (1) h8 (show 1 = 1 by decide))).trans ((hF1 b9 h9).trans rfl))), (show (i_1 + 1) ≤ 307 by omega), trivial⟩

theorem hu_X12_take_X12 : ∀ w ∈ u_ws RX12 TX12 54, w ∈ wsX12_take := fun _ h => List.mem_cons_of_mem _ (List.mem_append_left _ (List.mem_append_right _ (h)))

theorem hv_X12_take_101 : Cond.fieldLink RX12 101 "FlowExporterModel" (TX12 3).2.1 (TX12 3).2.2.1 ∈ wsX12_take := List.mem_cons_of_mem _ (List.mem_append_left _ (List.mem_append_left _ (List.mem_append_left _ (List.mem_of_getElem? (i := 2) rfl))))

theorem hv_X12_take_104 : Cond.fieldLink RX12 104 "FlowExporterModel" (TX12 4).2.1 (TX12 4).2.2.1 ∈ wsX12_take := List.mem_cons_of_mem _ (List.mem_append_left _ (List.mem_append_left _ (List.mem_append_left _ (List.mem_of_getElem? (i := 3) rfl))))

theorem hv_X12_take_17 : Cond.fieldLink RX12 17 "FlowExporterModel" (TX12 2).2.1 (TX12 2).2.2.1 ∈ wsX12_take := List.mem_cons_of_mem _ (List.mem_append_left _ (List.mem_append_left _ (List.mem_append_left _ (List.mem_of_getElem? (i := 1) rfl))))

theorem hv_X12_take_107 : Cond.fieldLink RX12 107 "FlowExporterModel" (TX12 5).2.1 (TX12 5).2.2.1 ∈ wsX12_take := List.mem_cons_of_mem _ (List.mem_append_left _ (List.mem_append_left _ (List.mem_append_left _ (List.mem_of_getElem? (i := 4) rfl))))

theorem hv_X12_take_110 : Cond.fieldLink RX12 110 "FlowExporterModel" (TX12 7).2.1 (TX12 7).2.2.1 ∈ wsX12_take := List.mem_cons_of_mem _ (List.mem_append_left _ (List.mem_append_left _ (List.mem_append_left _ (List.mem_of_getElem? (i := 5) rfl))))

theorem hv_X12_take_114 : Cond.fieldLink RX12 114 "FlowExporterModel" (TX12 6).2.1 (TX12 6).2.2.1 ∈ wsX12_take := List.mem_cons_of_mem _ (List.mem_append_left _ (List.mem_append_left _ (List.mem_append_left _ (List.mem_of_getElem? (i := 6) rfl))))

theorem hv_X12_take_117 : Cond.fieldLink RX12 117 "FlowExporterModel" (TX12 15).2.1 (TX12 15).2.2.1 ∈ wsX12_take := List.mem_cons_of_mem _ (List.mem_append_left _ (List.mem_append_left _ (List.mem_append_left _ (List.mem_of_getElem? (i := 7) rfl))))

theorem hv_X12_take_121 : Cond.fieldLink RX12 121 "FlowExporterModel" (TX12 16).2.1 (TX12 16).2.2.1 ∈ wsX12_take := List.mem_cons_of_mem _ (List.mem_append_left _ (List.mem_append_left _ (List.mem_append_left _ (List.mem_of_getElem? (i := 8) rfl))))

theorem hv_X12_take_124 : Cond.fieldLink RX12 124 "FlowExporterModel" (TX12 17).2.1 (TX12 17).2.2.1 ∈ wsX12_take := List.mem_cons_of_mem _ (List.mem_append_left _ (List.mem_append_left _ (List.mem_append_left _ (List.mem_of_getElem? (i := 9) rfl))))

theorem hv_X12_take_127 : Cond.fieldLink RX12 127 "FlowExporterModel" (TX12 18).2.1 (TX12 18).2.2.1 ∈ wsX12_take := List.mem_cons_of_mem _ (List.mem_append_left _ (List.mem_append_left _ (List.mem_append_left _ (List.mem_of_getElem? (i := 10) rfl))))

theorem hv_X12_take_130 : Cond.fieldLink RX12 130 "FlowExporterModel" (TX12 14).2.1 (TX12 14).2.2.1 ∈ wsX12_take := List.mem_cons_of_mem _ (List.mem_append_left _ (List.mem_append_left _ (List.mem_append_left _ (List.mem_of_getElem? (i := 11) rfl))))

theorem hv_X12_take_133 : Cond.fieldLink RX12 133 "FlowExporterModel" (TX12 13).2.1 (TX12 13).2.2.1 ∈ wsX12_take := List.mem_cons_of_mem _ (List.mem_append_left _ (List.mem_append_left _ (List.mem_append_left _ (List.mem_of_getElem? (i := 12) rfl))))

theorem hv_X12_take_136 : Cond.fieldLink RX12 136 "FlowExporterModel" (TX12 21).2.1 (TX12 21).2.2.1 ∈ wsX12_take := List.mem_cons_of_mem _ (List.mem_append_left _ (List.mem_append_left _ (List.mem_append_left _ (List.mem_of_getElem? (i := 13) rfl))))

theorem hv_X12_take_139 : Cond.fieldLink RX12 139 "FlowExporterModel" (TX12 26).2.1 (TX12 26).2.2.1 ∈ wsX12_take := List.mem_cons_of_mem _ (List.mem_append_left _ (List.mem_append_left _ (List.mem_append_left _ (List.mem_of_getElem? (i := 14) rfl))))

theorem hv_X12_take_142 : Cond.fieldLink RX12 142 "FlowExporterModel" (TX12 10).2.1 (TX12 10).2.2.1 ∈ wsX12_take := List.mem_cons_of_mem _ (List.mem_append_left _ (List.mem_append_left _ (List.mem_append_left _ (List.mem_of_getElem? (i := 15) rfl))))

theorem hv_X12_take_145 : Cond.fieldLink RX12 145 "FlowExporterModel" (TX12 44).2.1 (TX12 44).2.2.1 ∈ wsX12_take := List.mem_cons_of_mem _ (List.mem_append_left _ (List.mem_append_left _ (List.mem_append_left _ (List.mem_of_getElem? (i := 16) rfl))))

theorem hv_X12_take_148 : Cond.fieldLink RX12 148 "FlowExporterModel" (TX12 41).2.1 (TX12 41).2.2.1 ∈ wsX12_take := List.mem_cons_of_mem _ (List.mem_append_left _ (List.mem_append_left _ (List.mem_append_left _ (List.mem_of_getElem? (i := 17) rfl))))

theorem fq_1235 {x : Nat} : ∀ j9 : Nat, x = x + j9 → (j9 = 11) → False := by
  intro j9 h1 h2
  omega

theorem fq_1236 : ∀ j9 : Nat, (j9 = 2) → (j9 = 0 ∨ j9 = 1 ∨ j9 = 2 ∨ j9 = 3 ∨ j9 = 11 ∨ j9 = 12) := by
  intro j9 h
  omega

theorem fq_1237 : ∀ j9 : Nat, (j9 = 11) → (j9 = 0 ∨ j9 = 1 ∨ j9 = 2 ∨ j9 = 3 ∨ j9 = 11 ∨ j9 = 12) := by
  intro j9 h
  omega

theorem fq_1238 : ∀ j9 : Nat, (j9 = 0 ∨ j9 = 3) → (j9 = 0 ∨ j9 = 1 ∨ j9 = 2 ∨ j9 = 3 ∨ j9 = 11 ∨ j9 = 12) := by
  intro j9 h
  omega

theorem fq_1239 : ∀ j9 : Nat, (j9 = 0 ∨ j9 = 12) → (j9 = 0 ∨ j9 = 1 ∨ j9 = 2 ∨ j9 = 3 ∨ j9 = 11 ∨ j9 = 12) := by
  intro j9 h
  omega

theorem hv_X12_take_45 : Cond.fieldLink RX12 45 "FlowExporterModel" (TX12 27).2.1 (TX12 27).2.2.1 ∈ wsX12_take := List.mem_cons_of_mem _ (List.mem_append_left _ (List.mem_append_left _ (List.mem_append_left _ (List.mem_of_getElem? (i := 18) rfl))))

theorem hv_X12_take_13 : Cond.fieldLink RX12 13 "FlowExporterModel" (TX12 1).2.1 (TX12 1).2.2.1 ∈ wsX12_take := List.mem_cons_of_mem _ (List.mem_append_left _ (List.mem_append_left _ (List.mem_append_left _ (List.mem_of_getElem? (i := 0) rfl))))

theorem fq_1242 {x : Nat} : ∀ j9 : Nat, x + 1 = x + j9 → (j9 = 2) → False := by
  intro j9 h1 h2
  omega

theorem fq_1243 : ∀ j9 : Nat, (j9 = 1) → (j9 = 0 ∨ j9 = 1 ∨ j9 = 2 ∨ j9 = 3 ∨ j9 = 11 ∨ j9 = 12) := by
  intro j9 h
  omega

theorem fq_1244 {x : Nat} : ∀ j9 : Nat, x = x + j9 → (j9 = 1) → False := by
  intro j9 h1 h2
  omega

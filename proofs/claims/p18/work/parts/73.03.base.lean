def sdA (a : Int32) : Int32 := if 0 ≤ a then 1 else 0
theorem sdA1 {a : Int32} (h : 0 ≤ a) : sdA a = 1 := if_pos h
theorem sdA0 {a : Int32} (h : ¬ 0 ≤ a) : sdA a = 0 := if_neg h
set_option maxHeartbeats 4000000 in
set_option maxRecDepth 100000 in
theorem e_X11_setSeed (G : EnvG) (l : Launch) (Φ : Hm) (sz x ca : Nat) (a : Int32) (hx : G.2.2.2 ≤ x) (hI : In G x ca Φ)  : Ct G l yX11_setSeed wsX11_setSeed ({ frames := 0, cells := 0, slots := 0, locals := 0 }) 0 0 [.ref x, .int a] Φ sz (fun v Φ1 sz1 => v = some (.int (sdA a)) ∧ sz1 = sz ∧ In G x (ca) Φ1 ∧ Fr x (fun j9 => j9 < 149) Φ Φ1) := by
  refine Ct.of (cc := cX11_setSeed) (maxL := 2) (ret := (some .boolean)) (by decide) rfl (Nat.le_of_ble_eq_true rfl) ?_
  intro p9 e9 s9 m9 w9 t9 k9 B
  show Z p9 l e9 _ s9 m9 _ w9 t9 k9 _ G 2 0 [(0, .ref x), (1, .int a)] [] Φ sz 0 0
  refine z_iload_n B dX11_setSeed_0 rfl 1 rfl ?_
  refine z_if_ge (tgt := 6) B dX11_setSeed_1 rfl (fun c_1 => ?_) (fun c_1 => ?_)
  · obtain ⟨n_1, e_1, rfl⟩ := nI_of (Int32.not_lt.mpr c_1)
    refine z_aload_n B dX11_setSeed_6 rfl 0 rfl ?_
    have h_1 := in0 (k := 0) hI rfl
    have h_2 : Φ x = some (o_ 13 [.ref (x + 1), .ref (x + 3), .ref (x + 24), .ref (x + 46), .ref (x + 74), .ref (x + 80), .ref (x + 132), .ref (x + 121)]) := h_1
    refine z_get (ref := "FlowExporter") (C := RX11) (T := TX11) (N := 8) (ci := 13) (v := .ref (x + 80)) B (by decide +kernel) rfl 5 (by decide) (by decide +kernel) rfl h_2 rfl dX11_setSeed_7 ?_
    refine z_iload_n B dX11_setSeed_10 rfl 1 rfl ?_
    obtain ⟨v_1, v_2, v_3, v_4, v_5, v_6, v_7, v_8, v_9, h_3, b_1⟩ := in16 (k := 80) hI rfl
    have h_4 : Φ (x + 80) = some (o_ 4 [.ref (x + 3), .ref (x + 74), .ref (x + 81), .ref (x + 95), .int v_1, .int v_2, .int v_3, .int v_4, .int v_5, .int v_6, .long v_7, .long v_8, .long v_9]) := h_3
    refine z_put (ref := "FlowExporter$Exporter") (C := RX2) (T := TX2) (N := 13) (ci := 4) (v := .int (nI n_1)) B (by decide +kernel) tyX2 tyX2_ok nmX2 rfl 6 (by decide) (by decide +kernel) rfl (Or.inl rfl) h_4 (Nat.le_trans hx (Nat.le_add_right x 80)) rfl rfl (Nat.le_of_ble_eq_true rfl) dX11_setSeed_11 (fun Φ1 hΦ1 => ?_)
    have h_5 : Φ1 (x + 80) = some (o_ 4 [.ref (x + 3), .ref (x + 74), .ref (x + 81), .ref (x + 95), .int v_1, .int v_2, .int (nI n_1), .int v_4, .int v_5, .int v_6, .long v_7, .long v_8, .long v_9]) := fset_at hΦ1
    have hI1 : In G x (ca) Φ1 := In.put (k := 80) hI hΦ1 (ok16 (k := 80) rfl ⟨v_1, v_2, nI n_1, v_4, v_5, v_6, v_7, v_8, v_9, rfl, b_1⟩)
    refine z_iconst (v := 1) B dX11_setSeed_14 rfl ?_
    exact z_ret_z B dX11_setSeed_15 (by decide) ⟨congrArg (fun w9 : Int32 => some (Value.int w9)) (sdA1 c_1).symm, rfl, hI1, (fun b9 h9 => ((fset_fr hΦ1 (fun h8 => h9 (80) h8 (show 80 < 149 by omega))).trans rfl))⟩
  · refine z_iconst (v := 0) B dX11_setSeed_4 rfl ?_
    exact z_ret_z B dX11_setSeed_5 (by decide) ⟨congrArg (fun w9 : Int32 => some (Value.int w9)) (sdA0 c_1).symm, rfl, hI, (fun b9 h9 => rfl)⟩

set_option maxHeartbeats 4000000 in
set_option maxRecDepth 100000 in
theorem e_X12_setSeed (G : EnvG) (l : Launch) (Φ : Hm) (sz x : Nat) (rd : (Nat → Int32) → Prop) (fl : Nat) (pe : Nat) (le : Nat) (nx : Nat) (il : Nat) (qu : Nat) (kn : Int32) (ec : Int32) (nu : Int32) (va : Int64) (a : Int32) (hx : G.2.2.2 ≤ x) (hI : Im G x (rd, NN, fl, pe, le, nx, il, qu, kn, ec, nu, va) Φ)  : Ct G l yX12_setSeed wsX12_setSeed ({ frames := 0, cells := 0, slots := 0, locals := 0 }) 0 0 [.ref x, .int a] Φ sz (fun v Φ1 sz1 => v = some (.int (sdA a)) ∧ sz1 = sz ∧ (Im G x (rd, NN, fl, pe, le, nx, il, qu, kn, ec, nu, va) Φ1) ∧ Fr x (fun j9 => j9 = 0) Φ Φ1) := by
  refine Ct.of (cc := cX12_setSeed) (maxL := 2) (ret := (some .boolean)) (by decide) rfl (Nat.le_of_ble_eq_true rfl) ?_
  intro p9 e9 s9 m9 w9 t9 k9 B
  show Z p9 l e9 _ s9 m9 _ w9 t9 k9 _ G 2 0 [(0, .ref x), (1, .int a)] [] Φ sz 0 0
  refine z_aload_n B dX12_setSeed_0 rfl 0 rfl ?_
  refine z_iconst (v := 0) B dX12_setSeed_1 rfl ?_
  obtain ⟨v_1, v_2, v_3, n_1, v_4, v_5, v_6, v_7, v_8, v_9, v_10, v_11, v_12, n_2, v_13, n_3, n_4, v_14, v_15, h_1, b_12, b_1, b_2, b_3, b_4, b_5, b_6, b_7, b_8, b_9, b_10, b_11⟩ := im0 hI
  replace b_1 : 1 ≤ n_1 := b_1
  replace b_2 : n_1 ≤ 1024 := b_2
  replace b_3 : fl ≤ 12 := b_3
  replace b_4 : pe ≤ 24 := b_4
  replace b_5 : le ≤ 700 := b_5
  replace b_6 : qu ≤ 12 := b_6
  replace b_7 : n_2 ≤ 8 := b_7
  replace b_8 : n_3 ≤ 24 := b_8
  replace b_9 : n_4 ≤ 24 := b_9
  replace b_10 : il ≤ 700 := b_10
  replace b_11 : nx ≤ 701 := b_11
  have h_2 : Φ x = some (o_ 14 [.int v_1, .ref (x + 1), .ref (x + 2), .int v_2, .int v_3, .int (nI n_1), .int v_4, .int v_5, .ref (x + 3), .ref (x + 4), .int v_6, .long v_7, .ref (x + 5), .int (nI fl), .int v_8, .long v_9, .long v_10, .long v_11, .long v_12, .ref (x + 6), .ref (x + 7), .int (nI pe), .ref (x + 8), .int (nI le), .ref (x + 9), .ref (x + 10), .int (nI qu), .ref (x + 11), .ref (x + 12), .ref (x + 13), .ref (x + 14), .ref (x + 15), .ref (x + 16), .int (nI n_2), .long v_13, .ref (x + 17), .ref (x + 18), .ref (x + 19), .ref (x + 20), .ref (x + 21), .ref (x + 22), .int (nI n_3), .ref (x + 23), .ref (x + 24), .int (nI n_4), .ref (x + 25), .int (nI il), .int (nI nx), .int ec, .int v_14, .int kn, .int v_15, .int nu, .long va]) := h_1
  refine z_put (ref := "FlowExporterModel") (C := RX12) (T := TX12) (N := 54) (ci := 14) (v := .int 0) B (by decide +kernel) tyX12 tyX12_ok nmX12 rfl 0 (by decide) (by decide +kernel) rfl (Or.inl rfl) h_2 hx rfl rfl (Nat.le_of_ble_eq_true rfl) dX12_setSeed_2 (fun Φ1 hΦ1 => ?_)
  have h_3 : Φ1 x = some (o_ 14 [.int 0, .ref (x + 1), .ref (x + 2), .int v_2, .int v_3, .int (nI n_1), .int v_4, .int v_5, .ref (x + 3), .ref (x + 4), .int v_6, .long v_7, .ref (x + 5), .int (nI fl), .int v_8, .long v_9, .long v_10, .long v_11, .long v_12, .ref (x + 6), .ref (x + 7), .int (nI pe), .ref (x + 8), .int (nI le), .ref (x + 9), .ref (x + 10), .int (nI qu), .ref (x + 11), .ref (x + 12), .ref (x + 13), .ref (x + 14), .ref (x + 15), .ref (x + 16), .int (nI n_2), .long v_13, .ref (x + 17), .ref (x + 18), .ref (x + 19), .ref (x + 20), .ref (x + 21), .ref (x + 22), .int (nI n_3), .ref (x + 23), .ref (x + 24), .int (nI n_4), .ref (x + 25), .int (nI il), .int (nI nx), .int ec, .int v_14, .int kn, .int v_15, .int nu, .long va]) := fset_at hΦ1
  have hI1 : Im G x (rd, NN, fl, pe, le, nx, il, qu, kn, ec, nu, va) Φ1 := Im.put0 hI hΦ1 ⟨0, v_2, v_3, n_1, v_4, v_5, v_6, v_7, v_8, v_9, v_10, v_11, v_12, n_2, v_13, n_3, n_4, v_14, v_15, rfl, b_12, (show 1 ≤ n_1 by omega), (show n_1 ≤ 1024 by omega), (show fl ≤ 12 by omega), (show pe ≤ 24 by omega), (show le ≤ 700 by omega), (show qu ≤ 12 by omega), (show n_2 ≤ 8 by omega), (show n_3 ≤ 24 by omega), (show n_4 ≤ 24 by omega), (show il ≤ 700 by omega), (show nx ≤ 701 by omega)⟩
  refine z_iload_n B dX12_setSeed_5 rfl 1 rfl ?_
  refine z_if_ge (tgt := 11) B dX12_setSeed_6 rfl (fun c_1 => ?_) (fun c_1 => ?_)
  · obtain ⟨n_5, e_1, rfl⟩ := nI_of (Int32.not_lt.mpr c_1)
    refine z_aload_n B dX12_setSeed_11 rfl 0 rfl ?_
    refine z_iload_n B dX12_setSeed_12 rfl 1 rfl ?_
    refine z_put (ref := "FlowExporterModel") (C := RX12) (T := TX12) (N := 54) (ci := 14) (v := .int (nI n_5)) B (by decide +kernel) tyX12 tyX12_ok nmX12 rfl 4 (by decide) (by decide +kernel) rfl (Or.inl rfl) h_3 hx rfl rfl (Nat.le_of_ble_eq_true rfl) dX12_setSeed_13 (fun Φ2 hΦ2 => ?_)
    have h_4 : Φ2 x = some (o_ 14 [.int 0, .ref (x + 1), .ref (x + 2), .int v_2, .int (nI n_5), .int (nI n_1), .int v_4, .int v_5, .ref (x + 3), .ref (x + 4), .int v_6, .long v_7, .ref (x + 5), .int (nI fl), .int v_8, .long v_9, .long v_10, .long v_11, .long v_12, .ref (x + 6), .ref (x + 7), .int (nI pe), .ref (x + 8), .int (nI le), .ref (x + 9), .ref (x + 10), .int (nI qu), .ref (x + 11), .ref (x + 12), .ref (x + 13), .ref (x + 14), .ref (x + 15), .ref (x + 16), .int (nI n_2), .long v_13, .ref (x + 17), .ref (x + 18), .ref (x + 19), .ref (x + 20), .ref (x + 21), .ref (x + 22), .int (nI n_3), .ref (x + 23), .ref (x + 24), .int (nI n_4), .ref (x + 25), .int (nI il), .int (nI nx), .int ec, .int v_14, .int kn, .int v_15, .int nu, .long va]) := fset_at hΦ2
    have hI2 : Im G x (rd, NN, fl, pe, le, nx, il, qu, kn, ec, nu, va) Φ2 := Im.put0 hI1 hΦ2 ⟨0, v_2, nI n_5, n_1, v_4, v_5, v_6, v_7, v_8, v_9, v_10, v_11, v_12, n_2, v_13, n_3, n_4, v_14, v_15, rfl, b_12, (show 1 ≤ n_1 by omega), (show n_1 ≤ 1024 by omega), (show fl ≤ 12 by omega), (show pe ≤ 24 by omega), (show le ≤ 700 by omega), (show qu ≤ 12 by omega), (show n_2 ≤ 8 by omega), (show n_3 ≤ 24 by omega), (show n_4 ≤ 24 by omega), (show il ≤ 700 by omega), (show nx ≤ 701 by omega)⟩
    refine z_iconst (v := 1) B dX12_setSeed_16 rfl ?_
    exact z_ret_z B dX12_setSeed_17 (by decide) ⟨congrArg (fun w9 : Int32 => some (Value.int w9)) (sdA1 c_1).symm, rfl, hI2, (fun b9 h9 => ((fset_fr hΦ2 (fun h8 => h9 (0) h8 (show 0 = 0 by omega))).trans ((fset_fr hΦ1 (fun h8 => h9 (0) h8 (show 0 = 0 by omega))).trans rfl)))⟩
  · refine z_iconst (v := 0) B dX12_setSeed_9 rfl ?_
    exact z_ret_z B dX12_setSeed_10 (by decide) ⟨congrArg (fun w9 : Int32 => some (Value.int w9)) (sdA0 c_1).symm, rfl, hI1, (fun b9 h9 => ((fset_fr hΦ1 (fun h8 => h9 (0) h8 (show 0 = 0 by omega))).trans rfl))⟩


/-! the law: both objects in shape, the rows that take an answer -/
def JM (G : EnvG) (y : Nat) (Φ : Hm) : Prop := ∃ (rd : (Nat → Int32) → Prop) (fl le nx il qu : Nat) (kn ec nu : Int32) (va : Int64), Im G y (rd, NN, fl, 0, le, nx, il, qu, kn, ec, nu, va) Φ
def JJ (G : EnvG) (x y o d ca : Nat) (Φ : Hm) : Prop := In G x ca Φ ∧ JM G y Φ ∧ (∃ f : Nat → Int64, Φ o = some (al_ G 1 f)) ∧ ∃ f : Nat → UInt64, Φ d = some (ad_ G 1 f)
theorem Im.eq {G : EnvG} {y : Nat} {T : MT} {Φ Φ1 : Hm} (h : Im G y T Φ) (he : ∀ k, k < 26 → Φ1 (y + k) = Φ (y + k)) : Im G y T Φ1 := by
  refine ⟨?_, fun k h1 h2 => ?_⟩
  · rw [show Φ1 y = Φ y from he 0 (by decide)]
    exact h.1
  · rw [he k h2]
    exact h.2 k h1 h2
theorem JM.eq {G : EnvG} {y : Nat} {Φ Φ1 : Hm} (h : JM G y Φ) (he : ∀ k, k < 26 → Φ1 (y + k) = Φ (y + k)) : JM G y Φ1 := by
  obtain ⟨rd, fl, le, nx, il, qu, kn, ec, nu, va, h⟩ := h
  exact ⟨rd, fl, le, nx, il, qu, kn, ec, nu, va, Im.eq h he⟩
theorem In.eq {G : EnvG} {x ca : Nat} {Φ Φ1 : Hm} (h : In G x ca Φ) (he : ∀ k, k < 149 → Φ1 (x + k) = Φ (x + k)) : In G x ca Φ1 := by
  intro k
  by_cases hk : k < 149
  · rw [he k hk]
    exact h k
  · have hkd : kd k = 99 := by
      unfold kd
      rw [List.getD_eq_getElem?_getD, List.getElem?_eq_none (show kdL.length ≤ k from Nat.not_lt.mp hk)]
      rfl
    unfold Ok
    rw [hkd]
    trivial
abbrev Ds (x y o d : Nat) : Prop := x + 149 ≤ y ∧ y + 26 ≤ o ∧ o < d
theorem JJ.cls {G : EnvG} {x y o d ca cb : Nat} {Φ Φ1 : Hm} {md : Nat → Prop} (hD : Ds x y o d) (h : JJ G x y o d ca Φ) (hI : In G x cb Φ1) (hF : Fr x md Φ Φ1) (hm : ∀ j, md j → j < 149) : JJ G x y o d cb Φ1 := by
  obtain ⟨d1, d2, d3⟩ := hD
  have hf : ∀ b, x + 149 ≤ b → Φ1 b = Φ b := fun b hb => hF b (fun j q hj => by have := hm j hj; omega)
  obtain ⟨-, h2, ⟨f, h3⟩, ⟨g, h4⟩⟩ := h
  exact ⟨hI, JM.eq h2 (fun k hk => hf _ (by omega)), ⟨f, (hf o (by omega)).trans h3⟩, ⟨g, (hf d (by omega)).trans h4⟩⟩
theorem JJ.wl {G : EnvG} {x y o d ca cb : Nat} {Φ Φ1 : Hm} (hD : Ds x y o d) (h : JJ G x y o d ca Φ) (hW : WpL G x cb o Φ Φ1) : JJ G x y o d cb Φ1 := by
  obtain ⟨d1, d2, d3⟩ := hD
  obtain ⟨hI, ho, hf⟩ := hW
  obtain ⟨-, h2, -, ⟨g, h4⟩⟩ := h
  exact ⟨hI, JM.eq h2 (fun k hk => hf _ (fun j hj => by omega) (by omega)), ho, ⟨g, (hf d (fun j hj => by omega) (by omega)).trans h4⟩⟩
theorem JJ.wd {G : EnvG} {x y o d ca cb : Nat} {Φ Φ1 : Hm} (hD : Ds x y o d) (h : JJ G x y o d ca Φ) (hW : WpD G x cb d Φ Φ1) : JJ G x y o d cb Φ1 := by
  obtain ⟨d1, d2, d3⟩ := hD
  obtain ⟨hI, ho, hf⟩ := hW
  obtain ⟨-, h2, ⟨f, h3⟩, -⟩ := h
  exact ⟨hI, JM.eq h2 (fun k hk => hf _ (fun j hj => by omega) (by omega)), ⟨f, (hf o (fun j hj => by omega) (by omega)).trans h3⟩, ho⟩
theorem JJ.ref {G : EnvG} {x y o d ca : Nat} {Φ Φ1 : Hm} {md : Nat → Prop} (hD : Ds x y o d) (h : JJ G x y o d ca Φ) (hM : JM G y Φ1) (hF : Fr y md Φ Φ1) (hm : ∀ j, md j → j < 26) : JJ G x y o d ca Φ1 := by
  obtain ⟨d1, d2, d3⟩ := hD
  have hf : ∀ b, (b < y ∨ y + 26 ≤ b) → Φ1 b = Φ b := fun b hb => hF b (fun j q hj => by have := hm j hj; omega)
  obtain ⟨h1, -, ⟨f, h3⟩, ⟨g, h4⟩⟩ := h
  exact ⟨In.eq h1 (fun k hk => hf _ (by omega)), hM, ⟨f, (hf o (by omega)).trans h3⟩, ⟨g, (hf d (by omega)).trans h4⟩⟩
theorem JJ.up {G : EnvG} {x y o d ca cb : Nat} {Φ : Hm} (h : JJ G x y o d ca Φ) (hc : ca ≤ cb) : JJ G x y o d cb Φ := ⟨In.mono h.1 hc, h.2⟩
theorem nI_cl {n : Nat} (h : n < 2 ^ 31) : (nI n).toNatClampNeg = n := by
  show (nI n).toInt.toNat = n
  rw [nI_toInt h]
  omega
theorem vinL0 {i L : Nat} (h : i < L) (hL : L ≤ 3584) : vp_in (nI i) L := by
  refine vin ?_
  have h1 : ¬ nI i < 0 := by
    rw [Int32.lt_iff_toInt_lt, nI_toInt (by omega)]
    show ¬ (i : Int) < 0
    omega
  rw [nI_cl (by omega), decide_eq_false h1]
  show Nat.ble (i + 1) L = true
  exact Nat.ble_eq_true_of_le h
theorem vinL {i n L : Nat} {w : Int32} (hw : w = nI n) (h : i + n < L) (hL : L ≤ 3584) : vp_in (nI i + w) L := by
  subst hw
  rw [show nI i + nI n = nI (i + n) from (Int32.ofNat_add i n).symm]
  exact vinL0 h hL
theorem rmL {cells slots mc ms : Nat} (h1 : cells ≤ 9000) (h2 : slots ≤ 90000) (h3 : mc ≤ 8) (h4 : ms ≤ 64) : cells + mc ≤ room_1.cells ∧ slots + ms ≤ room_1.slots := by
  have e1 : room_1.cells = 603072 := rfl
  have e2 : room_1.slots = 7198826 := rfl
  omega
theorem JM.obj {G : EnvG} {y : Nat} {Φ : Hm} (h : JM G y Φ) : ∃ fs : List Value, Φ y = some (o_ 14 fs) := by
  obtain ⟨rd, fl, le, nx, il, qu, kn, ec, nu, va, h⟩ := h
  obtain ⟨_, _, _, _, _, _, _, _, _, _, _, _, _, _, _, _, _, _, _, h0, -⟩ := h.1
  exact ⟨_, h0⟩
theorem sw_get (a : Int32) : ∃ k : Nat, k < 64 ∧ a &&& 63 = nI k := by
  refine ⟨(a &&& 63).toBitVec.toNat, ?_, ?_⟩
  · have : (a &&& 63).toBitVec = a.toBitVec &&& 63#32 := rfl
    rw [this, BitVec.toNat_and]
    exact Nat.lt_of_le_of_lt Nat.and_le_right (by decide)
  · apply Int32.toBitVec_inj.mp
    show _ = (Int32.ofNat _).toBitVec
    rw [Int32.toBitVec_ofNat']
    simp
theorem law_cmp {i L : Nat} (hL : L ≤ 3584) (hi : i ≤ 3591) (h : ¬ nI L - 7 < nI i) : i + 7 ≤ L := by
  by_cases h7 : 7 ≤ L
  · have e : nI L - 7 = nI (L - 7) := nI_sub (b := 7) h7
    rw [e, Int32.lt_iff_toInt_lt, nI_toInt (by omega), nI_toInt (by omega)] at h
    omega
  · exfalso
    have h8 : ∀ k, k < 7 → (nI k - 7).toInt < 0 := by decide
    have h9 := h8 L (by omega)
    rw [Int32.lt_iff_toInt_lt, nI_toInt (n := i) (by omega)] at h
    omega

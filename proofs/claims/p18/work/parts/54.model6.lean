set_option maxHeartbeats 4000000 in
set_option maxRecDepth 100000 in
theorem r_flowOf (G : EnvG) (l : Launch) (Φ : Hm) (sz x : Nat) (rd : (Nat → Int32) → Prop) (fl : Nat) (pe : Nat) (le : Nat) (nx : Nat) (il : Nat) (kn : Int32) (ec : Int32) (fC : Nat → Int64) (a : Int32) (b : Int32) (d : Int32) (f : Int32) (hx : G.2.2.2 ≤ x) (hI : Im G x (rd, NN, fl, pe, le, nx, il, kn, ec) Φ) (hc0 : Φ (x + 5) = some (al_ G 96 fC)) : Ct G l yX12_flowOf wsX12_flowOf ({ frames := 0, cells := 0, slots := 0, locals := 0 }) 0 0 [.ref x, .int a, .int b, .int d, .int f] Φ sz (fun v Φ1 sz1 => ((v = some (.int (-1)) ∧ ¬ InC fC fl a b d f) ∨ ∃ n9 : Nat, n9 < fl ∧ rK fC n9 a b d f ∧ v = some (.int (nI n9))) ∧ sz1 = sz ∧ (Im G x (rd, NN, fl, pe, le, nx, il, kn, ec) Φ1) ∧ Fr x (fun j9 => False) Φ Φ1) := by
  refine Ct.of (cc := cX12_flowOf) (maxL := 6) (ret := (some .int)) (by decide) rfl (Nat.le_of_ble_eq_true rfl) ?_
  intro p9 e9 s9 m9 w9 t9 k9 B
  show Z p9 l e9 _ s9 m9 _ w9 t9 k9 _ G 6 0 [(0, .ref x), (1, .int a), (2, .int b), (3, .int d), (4, .int f)] [] Φ sz 0 0
  refine z_iconst (v := 0) B dX12_flowOf_0 rfl ?_
  refine z_istore (lv' := [(5, .int 0), (0, .ref x), (1, .int a), (2, .int b), (3, .int d), (4, .int f)]) B dX12_flowOf_1 (Nat.le_of_ble_eq_true rfl) rfl ?_
  refine z_lv [0, 1, 2, 3, 4, 5] rfl ?_
  refine z_loop (α := Nat) (fun (a9 : Nat) Φi => Im G x (rd, NN, fl, pe, le, nx, il, kn, ec) Φi ∧ Fr x (fun j9 => False) Φ Φi ∧ (a9 ≤ 12) ∧ (∀ j9, j9 < a9 → ¬ rK fC j9 a b d f) ∧ True) (fun a9 => [(5, .int (nI a9)), (0, .ref x), (1, .int a), (2, .int b), (3, .int d), (4, .int f)]) (fun a9 => 12 - a9) ?_ (0) ⟨hI, fun _ _ => rfl, (show 0 ≤ 12 by omega), (fun j9 h9 => absurd h9 (Nat.not_lt_zero _)), trivial⟩
  rintro i_1 Φl1 ⟨hI1, hF1, b_1, b_2, -⟩ ih1
  replace hI1 : Im G x (rd, NN, fl, pe, le, nx, il, kn, ec) Φl1 := hI1
  replace b_1 : i_1 ≤ 12 := b_1
  replace b_2 : ∀ j9, j9 < i_1 → ¬ rK fC j9 a b d f := b_2
  show Z p9 l e9 _ s9 m9 _ w9 t9 k9 _ G 6 3 [(5, .int (nI i_1)), (0, .ref x), (1, .int a), (2, .int b), (3, .int d), (4, .int f)] [] Φl1 _ _ _
  refine z_iload B dX12_flowOf_3 0 rfl ?_
  refine z_aload_n B dX12_flowOf_5 rfl 1 rfl ?_
  obtain ⟨v_1, v_2, v_3, n_1, v_4, v_5, v_6, v_7, v_8, v_9, v_10, v_11, v_12, n_2, n_3, v_13, n_4, n_5, v_14, v_15, v_16, v_17, h_1, b_14, b_3, b_4, b_5, b_6, b_7, b_8, b_9, b_10, b_11, b_12, b_13⟩ := im0 hI1
  replace b_3 : 1 ≤ n_1 := b_3
  replace b_4 : n_1 ≤ 1024 := b_4
  replace b_5 : fl ≤ 12 := b_5
  replace b_6 : pe ≤ 24 := b_6
  replace b_7 : le ≤ 700 := b_7
  replace b_8 : n_2 ≤ 12 := b_8
  replace b_9 : n_3 ≤ 8 := b_9
  replace b_10 : n_4 ≤ 24 := b_10
  replace b_11 : n_5 ≤ 24 := b_11
  replace b_12 : il ≤ 700 := b_12
  replace b_13 : nx ≤ 701 := b_13
  have h_2 : Φl1 x = some (o_ 14 [.int v_1, .ref (x + 1), .ref (x + 2), .int v_2, .int v_3, .int (nI n_1), .int v_4, .int v_5, .ref (x + 3), .ref (x + 4), .int v_6, .long v_7, .ref (x + 5), .int (nI fl), .int v_8, .long v_9, .long v_10, .long v_11, .long v_12, .ref (x + 6), .ref (x + 7), .int (nI pe), .ref (x + 8), .int (nI le), .ref (x + 9), .ref (x + 10), .int (nI n_2), .ref (x + 11), .ref (x + 12), .ref (x + 13), .ref (x + 14), .ref (x + 15), .ref (x + 16), .int (nI n_3), .long v_13, .ref (x + 17), .ref (x + 18), .ref (x + 19), .ref (x + 20), .ref (x + 21), .ref (x + 22), .int (nI n_4), .ref (x + 23), .ref (x + 24), .int (nI n_5), .ref (x + 25), .int (nI il), .int (nI nx), .int ec, .int v_14, .int kn, .int v_15, .int v_16, .long v_17]) := h_1
  refine z_get (ref := "FlowExporterModel") (C := RX12) (T := TX12) (N := 54) (ci := 14) (v := .int (nI fl)) B (by decide +kernel) rfl 13 (by decide) (by decide +kernel) rfl h_2 rfl dX12_flowOf_6 ?_
  refine z_icmp_ge (tgt := 92) B dX12_flowOf_9 rfl (fun c_1 => ?_) (fun c_1 => ?_)
  · have e_1 : fl ≤ i_1 := (nI_leI (a := fl) (b := i_1) (by omega) (by omega)).mp c_1
    refine z_iconst (v := (-1)) B dX12_flowOf_92 rfl ?_
    exact z_ret_i B dX12_flowOf_93 ⟨(Or.inl ⟨rfl, fun ⟨n9, q1, q2⟩ => b_2 n9 (by omega) q2⟩), rfl, hI1, (fun b9 h9 => ((hF1 b9 (fun j9 h8 h7 => (show False from h7).elim)).trans rfl))⟩
  · have e_2 : ¬ (fl ≤ i_1) := fun h9 => c_1 ((nI_leI (a := fl) (b := i_1) (by omega) (by omega)).mpr h9)
    refine z_aload_n B dX12_flowOf_12 rfl 1 rfl ?_
    refine z_get (ref := "FlowExporterModel") (C := RX12) (T := TX12) (N := 54) (ci := 14) (v := .ref (x + 5)) B (by decide +kernel) rfl 12 (by decide) (by decide +kernel) rfl h_2 rfl dX12_flowOf_13 ?_
    refine z_bipush (v := 8) B dX12_flowOf_16 rfl ?_
    refine z_iload B dX12_flowOf_18 0 rfl ?_
    refine z_imul B dX12_flowOf_20 ?_
    refine z_top (st1 := [.int (nI (8 * i_1)), .ref (x + 5)]) (congrArg (fun w9 : Int32 => ([.int w9, .ref (x + 5)] : List Value)) (nI_mul 8 i_1)) ?_
    have h_3 : Φl1 (x + 5) = some (al_ G 96 fC) := ((hF1 (x + 5) (fun j9 h8 h7 => (show False from h7).elim)).trans hc0)
    refine z_lald B h_3 (vp_in_nI (by omega) (by omega)) dX12_flowOf_21 ?_
    refine z_iload_n B dX12_flowOf_22 rfl 2 rfl ?_
    refine z_i2l (v := a.toInt64) B dX12_flowOf_23 rfl ?_
    refine z_lcmp B dX12_flowOf_24 ?_
    refine z_if_ne (tgt := 86) B dX12_flowOf_25 rfl (fun c_2 => ?_) (fun c_2 => ?_)
    · refine z_iinc (k := 0) (v := nI (i_1 + 1)) (lv' := [(5, .int (nI (i_1 + 1))), (0, .ref x), (1, .int a), (2, .int b), (3, .int d), (4, .int f)]) B dX12_flowOf_86 rfl (nI_add i_1 1) (Nat.le_of_ble_eq_true rfl) rfl ?_
      refine z_goto (tgt := 3) B dX12_flowOf_89 rfl ?_
      refine z_lv [0, 1, 2, 3, 4, 5] rfl ?_
      exact ih1 (i_1 + 1) Φl1 (show 12 - (i_1 + 1) < 12 - i_1 by omega) ⟨hI1, (fun b9 h9 => ((hF1 b9 (fun j9 h8 h7 => (show False from h7).elim)).trans rfl)), (show (i_1 + 1) ≤ 12 by omega), (no_s b_2 (fun q9 => c_2 ((lg_cmp_eq _ _).mpr ((congrArg fC (nI_clamp (by omega))).trans q9.1)))), trivial⟩
    · refine z_aload_n B dX12_flowOf_28 rfl 1 rfl ?_
      refine z_get (ref := "FlowExporterModel") (C := RX12) (T := TX12) (N := 54) (ci := 14) (v := .ref (x + 5)) B (by decide +kernel) rfl 12 (by decide) (by decide +kernel) rfl h_2 rfl dX12_flowOf_29 ?_
      refine z_bipush (v := 8) B dX12_flowOf_32 rfl ?_
      refine z_iload B dX12_flowOf_34 0 rfl ?_
      refine z_imul B dX12_flowOf_36 ?_
      refine z_top (st1 := [.int (nI (8 * i_1)), .ref (x + 5)]) (congrArg (fun w9 : Int32 => ([.int w9, .ref (x + 5)] : List Value)) (nI_mul 8 i_1)) ?_
      refine z_iconst (v := 1) B dX12_flowOf_37 rfl ?_
      refine z_iadd B dX12_flowOf_38 ?_
      refine z_top (st1 := [.int (nI (8 * i_1 + 1)), .ref (x + 5)]) (congrArg (fun w9 : Int32 => ([.int w9, .ref (x + 5)] : List Value)) (nI_add (8 * i_1) 1)) ?_
      refine z_lald B h_3 (vp_in_nI (by omega) (by omega)) dX12_flowOf_39 ?_
      refine z_iload_n B dX12_flowOf_40 rfl 3 rfl ?_
      refine z_i2l (v := b.toInt64) B dX12_flowOf_41 rfl ?_
      refine z_lcmp B dX12_flowOf_42 ?_
      refine z_if_ne (tgt := 86) B dX12_flowOf_43 rfl (fun c_3 => ?_) (fun c_3 => ?_)
      · refine z_iinc (k := 0) (v := nI (i_1 + 1)) (lv' := [(5, .int (nI (i_1 + 1))), (0, .ref x), (1, .int a), (2, .int b), (3, .int d), (4, .int f)]) B dX12_flowOf_86 rfl (nI_add i_1 1) (Nat.le_of_ble_eq_true rfl) rfl ?_
        refine z_goto (tgt := 3) B dX12_flowOf_89 rfl ?_
        refine z_lv [0, 1, 2, 3, 4, 5] rfl ?_
        exact ih1 (i_1 + 1) Φl1 (show 12 - (i_1 + 1) < 12 - i_1 by omega) ⟨hI1, (fun b9 h9 => ((hF1 b9 (fun j9 h8 h7 => (show False from h7).elim)).trans rfl)), (show (i_1 + 1) ≤ 12 by omega), (no_s b_2 (fun q9 => c_3 ((lg_cmp_eq _ _).mpr ((congrArg fC (nI_clamp (by omega))).trans q9.2.1)))), trivial⟩
      · refine z_aload_n B dX12_flowOf_46 rfl 1 rfl ?_
        refine z_get (ref := "FlowExporterModel") (C := RX12) (T := TX12) (N := 54) (ci := 14) (v := .ref (x + 5)) B (by decide +kernel) rfl 12 (by decide) (by decide +kernel) rfl h_2 rfl dX12_flowOf_47 ?_
        refine z_bipush (v := 8) B dX12_flowOf_50 rfl ?_
        refine z_iload B dX12_flowOf_52 0 rfl ?_
        refine z_imul B dX12_flowOf_54 ?_
        refine z_top (st1 := [.int (nI (8 * i_1)), .ref (x + 5)]) (congrArg (fun w9 : Int32 => ([.int w9, .ref (x + 5)] : List Value)) (nI_mul 8 i_1)) ?_
        refine z_iconst (v := 2) B dX12_flowOf_55 rfl ?_
        refine z_iadd B dX12_flowOf_56 ?_
        refine z_top (st1 := [.int (nI (8 * i_1 + 2)), .ref (x + 5)]) (congrArg (fun w9 : Int32 => ([.int w9, .ref (x + 5)] : List Value)) (nI_add (8 * i_1) 2)) ?_
        refine z_lald B h_3 (vp_in_nI (by omega) (by omega)) dX12_flowOf_57 ?_
        refine z_iload_n B dX12_flowOf_58 rfl 4 rfl ?_
        refine z_i2l (v := d.toInt64) B dX12_flowOf_59 rfl ?_
        refine z_lcmp B dX12_flowOf_60 ?_
        refine z_if_ne (tgt := 86) B dX12_flowOf_61 rfl (fun c_4 => ?_) (fun c_4 => ?_)
        · refine z_iinc (k := 0) (v := nI (i_1 + 1)) (lv' := [(5, .int (nI (i_1 + 1))), (0, .ref x), (1, .int a), (2, .int b), (3, .int d), (4, .int f)]) B dX12_flowOf_86 rfl (nI_add i_1 1) (Nat.le_of_ble_eq_true rfl) rfl ?_
          refine z_goto (tgt := 3) B dX12_flowOf_89 rfl ?_
          refine z_lv [0, 1, 2, 3, 4, 5] rfl ?_
          exact ih1 (i_1 + 1) Φl1 (show 12 - (i_1 + 1) < 12 - i_1 by omega) ⟨hI1, (fun b9 h9 => ((hF1 b9 (fun j9 h8 h7 => (show False from h7).elim)).trans rfl)), (show (i_1 + 1) ≤ 12 by omega), (no_s b_2 (fun q9 => c_4 ((lg_cmp_eq _ _).mpr ((congrArg fC (nI_clamp (by omega))).trans q9.2.2.1)))), trivial⟩
        · refine z_aload_n B dX12_flowOf_64 rfl 1 rfl ?_
          refine z_get (ref := "FlowExporterModel") (C := RX12) (T := TX12) (N := 54) (ci := 14) (v := .ref (x + 5)) B (by decide +kernel) rfl 12 (by decide) (by decide +kernel) rfl h_2 rfl dX12_flowOf_65 ?_
          refine z_bipush (v := 8) B dX12_flowOf_68 rfl ?_
          refine z_iload B dX12_flowOf_70 0 rfl ?_
          refine z_imul B dX12_flowOf_72 ?_
          refine z_top (st1 := [.int (nI (8 * i_1)), .ref (x + 5)]) (congrArg (fun w9 : Int32 => ([.int w9, .ref (x + 5)] : List Value)) (nI_mul 8 i_1)) ?_
          refine z_iconst (v := 3) B dX12_flowOf_73 rfl ?_
          refine z_iadd B dX12_flowOf_74 ?_
          refine z_top (st1 := [.int (nI (8 * i_1 + 3)), .ref (x + 5)]) (congrArg (fun w9 : Int32 => ([.int w9, .ref (x + 5)] : List Value)) (nI_add (8 * i_1) 3)) ?_
          refine z_lald B h_3 (vp_in_nI (by omega) (by omega)) dX12_flowOf_75 ?_
          refine z_iload B dX12_flowOf_76 5 rfl ?_
          refine z_i2l (v := f.toInt64) B dX12_flowOf_78 rfl ?_
          refine z_lcmp B dX12_flowOf_79 ?_
          refine z_if_ne (tgt := 86) B dX12_flowOf_80 rfl (fun c_5 => ?_) (fun c_5 => ?_)
          · refine z_iinc (k := 0) (v := nI (i_1 + 1)) (lv' := [(5, .int (nI (i_1 + 1))), (0, .ref x), (1, .int a), (2, .int b), (3, .int d), (4, .int f)]) B dX12_flowOf_86 rfl (nI_add i_1 1) (Nat.le_of_ble_eq_true rfl) rfl ?_
            refine z_goto (tgt := 3) B dX12_flowOf_89 rfl ?_
            refine z_lv [0, 1, 2, 3, 4, 5] rfl ?_
            exact ih1 (i_1 + 1) Φl1 (show 12 - (i_1 + 1) < 12 - i_1 by omega) ⟨hI1, (fun b9 h9 => ((hF1 b9 (fun j9 h8 h7 => (show False from h7).elim)).trans rfl)), (show (i_1 + 1) ≤ 12 by omega), (no_s b_2 (fun q9 => c_5 ((lg_cmp_eq _ _).mpr ((congrArg fC (nI_clamp (by omega))).trans q9.2.2.2)))), trivial⟩
          · refine z_iload B dX12_flowOf_83 0 rfl ?_
            exact z_ret_i B dX12_flowOf_85 ⟨(Or.inr ⟨i_1, by omega, ⟨(congrArg fC (nI_clamp (by omega))).symm.trans (lcmp_eq c_2), (congrArg fC (nI_clamp (by omega))).symm.trans (lcmp_eq c_3), (congrArg fC (nI_clamp (by omega))).symm.trans (lcmp_eq c_4), (congrArg fC (nI_clamp (by omega))).symm.trans (lcmp_eq c_5)⟩, rfl⟩), rfl, hI1, (fun b9 h9 => ((hF1 b9 (fun j9 h8 h7 => (show False from h7).elim)).trans rfl))⟩

theorem and255L (v : Int64) : ∃ n : Nat, n ≤ 255 ∧ (v &&& 255).toInt32 = nI n := by
  refine ⟨(v &&& 255).toBitVec.toNat, ?_, ?_⟩
  · show (v.toBitVec &&& (255 : Int64).toBitVec).toNat ≤ 255
    rw [BitVec.toNat_and]
    exact Nat.le_trans Nat.and_le_right (by decide)
  · have h : (v &&& 255).toBitVec.toNat ≤ 255 := by
      show (v.toBitVec &&& (255 : Int64).toBitVec).toNat ≤ 255
      rw [BitVec.toNat_and]
      exact Nat.le_trans Nat.and_le_right (by decide)
    generalize v &&& 255 = w at h
    have e : w = Int64.ofNat w.toBitVec.toNat := by
      apply Int64.toBitVec_inj.mp
      apply BitVec.eq_of_toNat_eq
      show w.toBitVec.toNat = (BitVec.ofNat 64 w.toBitVec.toNat).toNat
      rw [BitVec.toNat_ofNat]
      exact (Nat.mod_eq_of_lt w.toBitVec.isLt).symm
    rw [e, ofL (by rw [← e]; omega), ← e]
theorem shr8 {v : Nat} (h : v ≤ 65535) : ∃ n : Nat, n ≤ 255 ∧ nI v >>> ((8 : Int32) &&& 31) = nI n := by
  refine ⟨v / 256, by omega, ?_⟩
  have e8 : ((8 : Int32) &&& 31) = 8 := by decide
  rw [e8]
  apply Int32.toInt_inj.mp
  rw [nI_toInt (by omega)]
  have hh : (nI v >>> (8 : Int32)).toInt = (nI v).toInt >>> 8 := by
    rw [Int32.toInt_shiftRight]
    rfl
  rw [hh, nI_toInt (by omega)]
  show (((v : Int)) >>> (8 : Nat)) = _
  rw [Int.shiftRight_eq_div_pow]
  norm_cast
theorem and_dec {x : Int32} (h : ¬ x = 0) : (x &&& (x - 1)).toBitVec.toNat < x.toBitVec.toNat := by
  have h0 : x.toBitVec.toNat ≠ 0 := by
    intro e
    apply h
    apply Int32.toBitVec_inj.mp
    apply BitVec.eq_of_toNat_eq
    rw [e]
    rfl
  have h1 : (x &&& (x - 1)).toBitVec.toNat ≤ (x - 1).toBitVec.toNat := by
    show (x.toBitVec &&& (x - 1).toBitVec).toNat ≤ _
    rw [BitVec.toNat_and]
    exact Nat.and_le_right
  have h2 : (x - 1).toBitVec.toNat = x.toBitVec.toNat - 1 := by
    show (x.toBitVec - (1 : BitVec 32)).toNat = _
    rw [BitVec.toNat_sub]
    have h3 := x.toBitVec.isLt
    have h4 : (1 : BitVec 32).toNat = 1 := rfl
    rw [h4]
    omega
  omega

set_option maxHeartbeats 4000000 in
set_option maxRecDepth 100000 in
theorem r_put (G : EnvG) (l : Launch) (Φ : Hm) (sz x : Nat) (rd : (Nat → Int32) → Prop) (fl : Nat) (pe : Nat) (le : Nat) (nx : Nat) (il : Nat) (kn : Int32) (ec : Int32) (a : Int64) (n : Nat) (hx : G.2.2.2 ≤ x) (hI : Im G x (rd, NN, fl, pe, le, nx, il, kn, ec) Φ) (hn : n ≤ 8) (hl : le + n ≤ 700) : Ct G l yX12_put wsX12_put ({ frames := 0, cells := 0, slots := 0, locals := 0 }) 0 0 [.ref x, .long a, .int (nI n)] Φ sz (fun v Φ1 sz1 => (v = none) ∧ sz1 = sz ∧ (∃ (le1 : Nat), (le1 = le + n) ∧ Im G x (rd, NN, fl, pe, le1, nx, il, kn, ec) Φ1) ∧ Fr x (fun j9 => j9 = 0 ∨ j9 = 8) Φ Φ1) := by
  refine Ct.of (cc := cX12_put) (maxL := 5) (ret := none) (by decide) rfl (Nat.le_of_ble_eq_true rfl) ?_
  intro p9 e9 s9 m9 w9 t9 k9 B
  show Z p9 l e9 _ s9 m9 _ w9 t9 k9 _ G 5 0 [(0, .ref x), (1, .long a), (3, .int (nI n))] [] Φ sz 0 0
  refine z_bipush (v := 8) B dX12_put_0 rfl ?_
  refine z_iload_n B dX12_put_2 rfl 2 rfl ?_
  refine z_imul B dX12_put_3 ?_
  refine z_top (st1 := [.int (nI (8 * n))]) (congrArg (fun w9 : Int32 => ([.int w9] : List Value)) (nI_mul 8 n)) ?_
  refine z_bipush (v := 8) B dX12_put_4 rfl ?_
  refine z_isub B dX12_put_6 ?_
  refine z_istore (lv' := [(4, .int (nI (8 * n) - 8)), (0, .ref x), (1, .long a), (3, .int (nI n))]) B dX12_put_7 (Nat.le_of_ble_eq_true rfl) rfl ?_
  refine z_lv [0, 1, 2, 3] rfl ?_
  refine z_loop (α := Nat × Nat) (fun (a9 : Nat × Nat) Φi => Im G x (rd, NN, fl, pe, a9.2, nx, il, kn, ec) Φi ∧ Fr x (fun j9 => j9 = 0 ∨ j9 = 8) Φ Φi ∧ (a9.1 ≤ 8) ∧ (a9.2 + a9.1 = le + n) ∧ True) (fun a9 => [(4, .int (nI (8 * (a9.1)) - 8)), (0, .ref x), (1, .long a), (3, .int (nI n))]) (fun a9 => a9.1) ?_ (n, le) ⟨hI, fun _ _ => rfl, (show n ≤ 8 by omega), (show le + n = le + n by omega), trivial⟩
  rintro ⟨i_1, i_2⟩ Φl1 ⟨hI1, hF1, b_1, b_2, -⟩ ih1
  replace hI1 : Im G x (rd, NN, fl, pe, i_2, nx, il, kn, ec) Φl1 := hI1
  replace b_1 : i_1 ≤ 8 := b_1
  replace b_2 : i_2 + i_1 = le + n := b_2
  show Z p9 l e9 _ s9 m9 _ w9 t9 k9 _ G 5 9 [(4, .int (nI (8 * i_1) - 8)), (0, .ref x), (1, .long a), (3, .int (nI n))] [] Φl1 _ _ _
  refine z_iload B dX12_put_9 0 rfl ?_
  refine z_if_lt (tgt := 48) B dX12_put_11 rfl (fun c_1 => ?_) (fun c_1 => ?_)
  · have e_1 : i_1 = 0 := (m8_lt (j := i_1) (by omega)).1 c_1
    exact z_ret_v B dX12_put_48 ⟨rfl, rfl, ⟨i_2, (show i_2 = le + n by omega), hI1⟩, (fun b9 h9 => ((hF1 b9 (fun j9 h8 h7 => h9 j9 h8 (show j9 = 0 ∨ j9 = 8 by have h6 : j9 = 0 ∨ j9 = 8 := h7; omega))).trans rfl))⟩
  · have e_2 : 1 ≤ i_1 := (m8_lt (j := i_1) (by omega)).2 c_1
    refine z_aload_n B dX12_put_14 rfl 1 rfl ?_
    obtain ⟨v_1, v_2, v_3, n_1, v_4, v_5, v_6, v_7, v_8, v_9, v_10, v_11, v_12, n_2, n_3, v_13, n_4, n_5, v_14, v_15, v_16, v_17, h_1, b_14, b_3, b_4, b_5, b_6, b_7, b_8, b_9, b_10, b_11, b_12, b_13⟩ := im0 hI1
    replace b_3 : 1 ≤ n_1 := b_3
    replace b_4 : n_1 ≤ 1024 := b_4
    replace b_5 : fl ≤ 12 := b_5
    replace b_6 : pe ≤ 24 := b_6
    replace b_7 : i_2 ≤ 700 := b_7
    replace b_8 : n_2 ≤ 12 := b_8
    replace b_9 : n_3 ≤ 8 := b_9
    replace b_10 : n_4 ≤ 24 := b_10
    replace b_11 : n_5 ≤ 24 := b_11
    replace b_12 : il ≤ 700 := b_12
    replace b_13 : nx ≤ 701 := b_13
    have h_2 : Φl1 x = some (o_ 14 [.int v_1, .ref (x + 1), .ref (x + 2), .int v_2, .int v_3, .int (nI n_1), .int v_4, .int v_5, .ref (x + 3), .ref (x + 4), .int v_6, .long v_7, .ref (x + 5), .int (nI fl), .int v_8, .long v_9, .long v_10, .long v_11, .long v_12, .ref (x + 6), .ref (x + 7), .int (nI pe), .ref (x + 8), .int (nI i_2), .ref (x + 9), .ref (x + 10), .int (nI n_2), .ref (x + 11), .ref (x + 12), .ref (x + 13), .ref (x + 14), .ref (x + 15), .ref (x + 16), .int (nI n_3), .long v_13, .ref (x + 17), .ref (x + 18), .ref (x + 19), .ref (x + 20), .ref (x + 21), .ref (x + 22), .int (nI n_4), .ref (x + 23), .ref (x + 24), .int (nI n_5), .ref (x + 25), .int (nI il), .int (nI nx), .int ec, .int v_14, .int kn, .int v_15, .int v_16, .long v_17]) := h_1
    refine z_get (ref := "FlowExporterModel") (C := RX12) (T := TX12) (N := 54) (ci := 14) (v := .ref (x + 8)) B (by decide +kernel) rfl 22 (by decide) (by decide +kernel) rfl h_2 rfl dX12_put_15 ?_
    refine z_aload_n B dX12_put_18 rfl 1 rfl ?_
    refine z_get (ref := "FlowExporterModel") (C := RX12) (T := TX12) (N := 54) (ci := 14) (v := .int (nI i_2)) B (by decide +kernel) rfl 23 (by decide) (by decide +kernel) rfl h_2 rfl dX12_put_19 ?_
    refine z_lload_n B dX12_put_22 rfl 2 rfl ?_
    refine z_iload B dX12_put_23 0 rfl ?_
    refine z_lshr (v := a >>> ((nI (8 * i_1) - 8 : Int32).toInt64 &&& 63)) B dX12_put_25 rfl ?_
    refine z_fl (fun v_18 => ?_)
    refine z_ldc2 (v := 255) B (by decide +kernel) dX12_put_26 ?_
    refine z_land B dX12_put_29 ?_
    refine z_l2i (v := (v_18 &&& 255).toInt32) B dX12_put_30 rfl ?_
    obtain ⟨n_6, b_15, e_3⟩ := and255L v_18
    refine z_top (st1 := [.int (nI n_6), .int (nI i_2), .ref (x + 8)]) (congrArg (fun w9 : Int32 => ([.int w9, .int (nI i_2), .ref (x + 8)] : List Value)) (e_3)) ?_
    obtain ⟨f_1, h_3, r_1⟩ := imk (k := 8) hI1
    replace r_1 : Rw 255 f_1 := r_1
    have h_4 : Φl1 (x + 8) = some (ai_ G 700 f_1) := h_3
    refine z_iast B h_4 (Nat.le_trans hx (Nat.le_add_right x 8)) (vp_in_nI (by omega) (by omega)) dX12_put_31 (fun Φ1 hΦ1 => ?_)
    have h_5 : Φ1 (x + 8) = some (ai_ G 700 (upd f_1 (nI i_2).toNatClampNeg (nI n_6))) := fset_at hΦ1
    have hI2 : Im G x (rd, NN, fl, pe, i_2, nx, il, kn, ec) Φ1 := Im.put (k := 8) hI1 hΦ1 ⟨_, rfl, Rw.up (n := n_6) r_1 (show n_6 ≤ 255 by omega)⟩
    refine z_aload_n B dX12_put_32 rfl 1 rfl ?_
    refine z_dup B dX12_put_33 rfl ?_
    have h_6 : Φ1 x = some (o_ 14 [.int v_1, .ref (x + 1), .ref (x + 2), .int v_2, .int v_3, .int (nI n_1), .int v_4, .int v_5, .ref (x + 3), .ref (x + 4), .int v_6, .long v_7, .ref (x + 5), .int (nI fl), .int v_8, .long v_9, .long v_10, .long v_11, .long v_12, .ref (x + 6), .ref (x + 7), .int (nI pe), .ref (x + 8), .int (nI i_2), .ref (x + 9), .ref (x + 10), .int (nI n_2), .ref (x + 11), .ref (x + 12), .ref (x + 13), .ref (x + 14), .ref (x + 15), .ref (x + 16), .int (nI n_3), .long v_13, .ref (x + 17), .ref (x + 18), .ref (x + 19), .ref (x + 20), .ref (x + 21), .ref (x + 22), .int (nI n_4), .ref (x + 23), .ref (x + 24), .int (nI n_5), .ref (x + 25), .int (nI il), .int (nI nx), .int ec, .int v_14, .int kn, .int v_15, .int v_16, .long v_17]) := ((fset_fr hΦ1 (ne_off (x := x) (i := 0) (j := 8) rfl)).trans h_2)
    refine z_get (ref := "FlowExporterModel") (C := RX12) (T := TX12) (N := 54) (ci := 14) (v := .int (nI i_2)) B (by decide +kernel) rfl 23 (by decide) (by decide +kernel) rfl h_6 rfl dX12_put_34 ?_
    refine z_iconst (v := 1) B dX12_put_37 rfl ?_
    refine z_iadd B dX12_put_38 ?_
    refine z_top (st1 := [.int (nI (i_2 + 1)), .ref x]) (congrArg (fun w9 : Int32 => ([.int w9, .ref x] : List Value)) (nI_add i_2 1)) ?_
    refine z_put (ref := "FlowExporterModel") (C := RX12) (T := TX12) (N := 54) (ci := 14) (v := .int (nI (i_2 + 1))) B (by decide +kernel) tyX12 tyX12_ok nmX12 rfl 23 (by decide) (by decide +kernel) rfl (Or.inl rfl) h_6 hx rfl rfl (Nat.le_of_ble_eq_true rfl) dX12_put_39 (fun Φ2 hΦ2 => ?_)
    have h_7 : Φ2 x = some (o_ 14 [.int v_1, .ref (x + 1), .ref (x + 2), .int v_2, .int v_3, .int (nI n_1), .int v_4, .int v_5, .ref (x + 3), .ref (x + 4), .int v_6, .long v_7, .ref (x + 5), .int (nI fl), .int v_8, .long v_9, .long v_10, .long v_11, .long v_12, .ref (x + 6), .ref (x + 7), .int (nI pe), .ref (x + 8), .int (nI (i_2 + 1)), .ref (x + 9), .ref (x + 10), .int (nI n_2), .ref (x + 11), .ref (x + 12), .ref (x + 13), .ref (x + 14), .ref (x + 15), .ref (x + 16), .int (nI n_3), .long v_13, .ref (x + 17), .ref (x + 18), .ref (x + 19), .ref (x + 20), .ref (x + 21), .ref (x + 22), .int (nI n_4), .ref (x + 23), .ref (x + 24), .int (nI n_5), .ref (x + 25), .int (nI il), .int (nI nx), .int ec, .int v_14, .int kn, .int v_15, .int v_16, .long v_17]) := fset_at hΦ2
    have hI3 : Im G x (rd, NN, fl, pe, i_2 + 1, nx, il, kn, ec) Φ2 := Im.put0 hI2 hΦ2 ⟨v_1, v_2, v_3, n_1, v_4, v_5, v_6, v_7, v_8, v_9, v_10, v_11, v_12, n_2, n_3, v_13, n_4, n_5, v_14, v_15, v_16, v_17, rfl, b_14, (show 1 ≤ n_1 by omega), (show n_1 ≤ 1024 by omega), (show fl ≤ 12 by omega), (show pe ≤ 24 by omega), (show (i_2 + 1) ≤ 700 by omega), (show n_2 ≤ 12 by omega), (show n_3 ≤ 8 by omega), (show n_4 ≤ 24 by omega), (show n_5 ≤ 24 by omega), (show il ≤ 700 by omega), (show nx ≤ 701 by omega)⟩
    refine z_iinc (k := 0) (v := nI (8 * (i_1 - 1)) - 8) (lv' := [(4, .int (nI (8 * (i_1 - 1)) - 8)), (0, .ref x), (1, .long a), (3, .int (nI n))]) B dX12_put_42 rfl (m8_dec (show 1 ≤ i_1 by omega)) (Nat.le_of_ble_eq_true rfl) rfl ?_
    refine z_goto (tgt := 9) B dX12_put_45 rfl ?_
    refine z_lv [0, 1, 2, 3] rfl ?_
    exact ih1 (i_1 - 1, i_2 + 1) Φ2 (show (i_1 - 1) < i_1 by omega) ⟨hI3, (fun b9 h9 => ((fset_fr hΦ2 (fun h8 => h9 (0) h8 (show 0 = 0 ∨ 0 = 8 by omega))).trans ((fset_fr hΦ1 (fun h8 => h9 (8) h8 (show 8 = 0 ∨ 8 = 8 by omega))).trans ((hF1 b9 (fun j9 h8 h7 => h9 j9 h8 (show j9 = 0 ∨ j9 = 8 by have h6 : j9 = 0 ∨ j9 = 8 := h7; omega))).trans rfl)))), (show (i_1 - 1) ≤ 8 by omega), (show (i_2 + 1) + (i_1 - 1) = le + n by omega), trivial⟩

set_option maxHeartbeats 4000000 in
set_option maxRecDepth 100000 in
theorem r_putAt (G : EnvG) (l : Launch) (Φ : Hm) (sz x : Nat) (rd : (Nat → Int32) → Prop) (fl : Nat) (pe : Nat) (le : Nat) (nx : Nat) (il : Nat) (kn : Int32) (ec : Int32) (a : Nat) (b : Nat) (hx : G.2.2.2 ≤ x) (hI : Im G x (rd, NN, fl, pe, le, nx, il, kn, ec) Φ) (ha : a + 1 < 700) (hb : b ≤ 65535) : Ct G l yX12_putAt wsX12_putAt ({ frames := 0, cells := 0, slots := 0, locals := 0 }) 0 0 [.ref x, .int (nI a), .int (nI b)] Φ sz (fun v Φ1 sz1 => (v = none) ∧ sz1 = sz ∧ (Im G x (rd, NN, fl, pe, le, nx, il, kn, ec) Φ1) ∧ Fr x (fun j9 => j9 = 8) Φ Φ1) := by
  refine Ct.of (cc := cX12_putAt) (maxL := 3) (ret := none) (by decide) rfl (Nat.le_of_ble_eq_true rfl) ?_
  intro p9 e9 s9 m9 w9 t9 k9 B
  show Z p9 l e9 _ s9 m9 _ w9 t9 k9 _ G 3 0 [(0, .ref x), (1, .int (nI a)), (2, .int (nI b))] [] Φ sz 0 0
  refine z_aload_n B dX12_putAt_0 rfl 0 rfl ?_
  obtain ⟨v_1, v_2, v_3, n_1, v_4, v_5, v_6, v_7, v_8, v_9, v_10, v_11, v_12, n_2, n_3, v_13, n_4, n_5, v_14, v_15, v_16, v_17, h_1, b_12, b_1, b_2, b_3, b_4, b_5, b_6, b_7, b_8, b_9, b_10, b_11⟩ := im0 hI
  replace b_1 : 1 ≤ n_1 := b_1
  replace b_2 : n_1 ≤ 1024 := b_2
  replace b_3 : fl ≤ 12 := b_3
  replace b_4 : pe ≤ 24 := b_4
  replace b_5 : le ≤ 700 := b_5
  replace b_6 : n_2 ≤ 12 := b_6
  replace b_7 : n_3 ≤ 8 := b_7
  replace b_8 : n_4 ≤ 24 := b_8
  replace b_9 : n_5 ≤ 24 := b_9
  replace b_10 : il ≤ 700 := b_10
  replace b_11 : nx ≤ 701 := b_11
  have h_2 : Φ x = some (o_ 14 [.int v_1, .ref (x + 1), .ref (x + 2), .int v_2, .int v_3, .int (nI n_1), .int v_4, .int v_5, .ref (x + 3), .ref (x + 4), .int v_6, .long v_7, .ref (x + 5), .int (nI fl), .int v_8, .long v_9, .long v_10, .long v_11, .long v_12, .ref (x + 6), .ref (x + 7), .int (nI pe), .ref (x + 8), .int (nI le), .ref (x + 9), .ref (x + 10), .int (nI n_2), .ref (x + 11), .ref (x + 12), .ref (x + 13), .ref (x + 14), .ref (x + 15), .ref (x + 16), .int (nI n_3), .long v_13, .ref (x + 17), .ref (x + 18), .ref (x + 19), .ref (x + 20), .ref (x + 21), .ref (x + 22), .int (nI n_4), .ref (x + 23), .ref (x + 24), .int (nI n_5), .ref (x + 25), .int (nI il), .int (nI nx), .int ec, .int v_14, .int kn, .int v_15, .int v_16, .long v_17]) := h_1
  refine z_get (ref := "FlowExporterModel") (C := RX12) (T := TX12) (N := 54) (ci := 14) (v := .ref (x + 8)) B (by decide +kernel) rfl 22 (by decide) (by decide +kernel) rfl h_2 rfl dX12_putAt_1 ?_
  refine z_iload_n B dX12_putAt_4 rfl 1 rfl ?_
  refine z_iload_n B dX12_putAt_5 rfl 2 rfl ?_
  refine z_bipush (v := 8) B dX12_putAt_6 rfl ?_
  refine z_ishr B dX12_putAt_8 ?_
  obtain ⟨n_6, b_13, e_1⟩ := shr8 (v := b) (by omega)
  refine z_top (st1 := [.int (nI n_6), .int (nI a), .ref (x + 8)]) (congrArg (fun w9 : Int32 => ([.int w9, .int (nI a), .ref (x + 8)] : List Value)) (e_1)) ?_
  obtain ⟨f_1, h_3, r_1⟩ := imk (k := 8) hI
  replace r_1 : Rw 255 f_1 := r_1
  have h_4 : Φ (x + 8) = some (ai_ G 700 f_1) := h_3
  refine z_iast B h_4 (Nat.le_trans hx (Nat.le_add_right x 8)) (vp_in_nI (by omega) (by omega)) dX12_putAt_9 (fun Φ1 hΦ1 => ?_)
  have h_5 : Φ1 (x + 8) = some (ai_ G 700 (upd f_1 (nI a).toNatClampNeg (nI n_6))) := fset_at hΦ1
  have hI1 : Im G x (rd, NN, fl, pe, le, nx, il, kn, ec) Φ1 := Im.put (k := 8) hI hΦ1 ⟨_, rfl, Rw.up (n := n_6) r_1 (show n_6 ≤ 255 by omega)⟩
  refine z_aload_n B dX12_putAt_10 rfl 0 rfl ?_
  have h_6 : Φ1 x = some (o_ 14 [.int v_1, .ref (x + 1), .ref (x + 2), .int v_2, .int v_3, .int (nI n_1), .int v_4, .int v_5, .ref (x + 3), .ref (x + 4), .int v_6, .long v_7, .ref (x + 5), .int (nI fl), .int v_8, .long v_9, .long v_10, .long v_11, .long v_12, .ref (x + 6), .ref (x + 7), .int (nI pe), .ref (x + 8), .int (nI le), .ref (x + 9), .ref (x + 10), .int (nI n_2), .ref (x + 11), .ref (x + 12), .ref (x + 13), .ref (x + 14), .ref (x + 15), .ref (x + 16), .int (nI n_3), .long v_13, .ref (x + 17), .ref (x + 18), .ref (x + 19), .ref (x + 20), .ref (x + 21), .ref (x + 22), .int (nI n_4), .ref (x + 23), .ref (x + 24), .int (nI n_5), .ref (x + 25), .int (nI il), .int (nI nx), .int ec, .int v_14, .int kn, .int v_15, .int v_16, .long v_17]) := ((fset_fr hΦ1 (ne_off (x := x) (i := 0) (j := 8) rfl)).trans h_2)
  refine z_get (ref := "FlowExporterModel") (C := RX12) (T := TX12) (N := 54) (ci := 14) (v := .ref (x + 8)) B (by decide +kernel) rfl 22 (by decide) (by decide +kernel) rfl h_6 rfl dX12_putAt_11 ?_
  refine z_iload_n B dX12_putAt_14 rfl 1 rfl ?_
  refine z_iconst (v := 1) B dX12_putAt_15 rfl ?_
  refine z_iadd B dX12_putAt_16 ?_
  refine z_top (st1 := [.int (nI (a + 1)), .ref (x + 8)]) (congrArg (fun w9 : Int32 => ([.int w9, .ref (x + 8)] : List Value)) (nI_add a 1)) ?_
  refine z_iload_n B dX12_putAt_17 rfl 2 rfl ?_
  refine z_sipush (v := 255) B dX12_putAt_18 rfl ?_
  refine z_iand B dX12_putAt_21 ?_
  obtain ⟨n_7, b_14, e_2⟩ := and255 (nI b)
  refine z_top (st1 := [.int (nI n_7), .int (nI (a + 1)), .ref (x + 8)]) (congrArg (fun w9 : Int32 => ([.int w9, .int (nI (a + 1)), .ref (x + 8)] : List Value)) (e_2)) ?_
  obtain ⟨f_2, h_7, r_2⟩ := imk (k := 8) hI1
  replace r_2 : Rw 255 f_2 := r_2
  have h_8 : Φ1 (x + 8) = some (ai_ G 700 f_2) := h_7
  refine z_iast B h_8 (Nat.le_trans hx (Nat.le_add_right x 8)) (vp_in_nI (by omega) (by omega)) dX12_putAt_22 (fun Φ2 hΦ2 => ?_)
  have h_9 : Φ2 (x + 8) = some (ai_ G 700 (upd f_2 (nI (a + 1)).toNatClampNeg (nI n_7))) := fset_at hΦ2
  have hI2 : Im G x (rd, NN, fl, pe, le, nx, il, kn, ec) Φ2 := Im.put (k := 8) hI1 hΦ2 ⟨_, rfl, Rw.up (n := n_7) r_2 (show n_7 ≤ 255 by omega)⟩
  exact z_ret_v B dX12_putAt_23 ⟨rfl, rfl, hI2, (fun b9 h9 => ((fset_fr hΦ2 (fun h8 => h9 (8) h8 (show 8 = 8 by omega))).trans ((fset_fr hΦ1 (fun h8 => h9 (8) h8 (show 8 = 8 by omega))).trans rfl)))⟩

set_option maxHeartbeats 4000000 in
set_option maxRecDepth 100000 in
theorem r_bitCount (G : EnvG) (l : Launch) (Φ : Hm) (sz x : Nat) (rd : (Nat → Int32) → Prop) (fl : Nat) (pe : Nat) (le : Nat) (nx : Nat) (il : Nat) (kn : Int32) (ec : Int32) (a : Int32) (hx : G.2.2.2 ≤ x) (hI : Im G x (rd, NN, fl, pe, le, nx, il, kn, ec) Φ)  : Ct G l yX12_bitCount wsX12_bitCount ({ frames := 0, cells := 0, slots := 0, locals := 0 }) 0 0 [.int a] Φ sz (fun v Φ1 sz1 => (∃ r9 : Int32, v = some (.int r9)) ∧ sz1 = sz ∧ (Im G x (rd, NN, fl, pe, le, nx, il, kn, ec) Φ1) ∧ Fr x (fun j9 => False) Φ Φ1) := by
  refine Ct.of (cc := cX12_bitCount) (maxL := 3) (ret := (some .int)) (by decide) rfl (Nat.le_of_ble_eq_true rfl) ?_
  intro p9 e9 s9 m9 w9 t9 k9 B
  show Z p9 l e9 _ s9 m9 _ w9 t9 k9 _ G 3 0 [(0, .int a)] [] Φ sz 0 0
  refine z_iconst (v := 0) B dX12_bitCount_0 rfl ?_
  refine z_istore_n (lv' := [(1, .int 0), (0, .int a)]) B dX12_bitCount_1 rfl (Nat.le_of_ble_eq_true rfl) rfl ?_
  refine z_iload_n B dX12_bitCount_2 rfl 1 rfl ?_
  refine z_istore_n (lv' := [(2, .int a), (1, .int 0), (0, .int a)]) B dX12_bitCount_3 rfl (Nat.le_of_ble_eq_true rfl) rfl ?_
  refine z_lv [0, 1, 2] rfl ?_
  refine z_loop (α := Int32 × Int32) (fun (a9 : Int32 × Int32) Φi => Im G x (rd, NN, fl, pe, le, nx, il, kn, ec) Φi ∧ Fr x (fun j9 => False) Φ Φi ∧ True) (fun a9 => [(2, .int a9.1), (1, .int a9.2), (0, .int a)]) (fun a9 => (a9.1).toBitVec.toNat) ?_ (a, 0) ⟨hI, fun _ _ => rfl, trivial⟩
  rintro ⟨i_1, i_2⟩ Φl1 ⟨hI1, hF1, -⟩ ih1
  replace hI1 : Im G x (rd, NN, fl, pe, le, nx, il, kn, ec) Φl1 := hI1
  show Z p9 l e9 _ s9 m9 _ w9 t9 k9 _ G 3 4 [(2, .int i_1), (1, .int i_2), (0, .int a)] [] Φl1 _ _ _
  refine z_iload_n B dX12_bitCount_4 rfl 0 rfl ?_
  refine z_if_eq (tgt := 20) B dX12_bitCount_5 rfl (fun c_1 => ?_) (fun c_1 => ?_)
  · refine z_iload_n B dX12_bitCount_20 rfl 1 rfl ?_
    exact z_ret_i B dX12_bitCount_21 ⟨⟨_, rfl⟩, rfl, hI1, (fun b9 h9 => ((hF1 b9 (fun j9 h8 h7 => (show False from h7).elim)).trans rfl))⟩
  · refine z_iinc (k := 1) (v := i_2 + 1) (lv' := [(1, .int (i_2 + 1)), (2, .int i_1), (0, .int a)]) B dX12_bitCount_8 rfl rfl (Nat.le_of_ble_eq_true rfl) rfl ?_
    refine z_iload_n B dX12_bitCount_11 rfl 1 rfl ?_
    refine z_iload_n B dX12_bitCount_12 rfl 1 rfl ?_
    refine z_iconst (v := 1) B dX12_bitCount_13 rfl ?_
    refine z_isub B dX12_bitCount_14 ?_
    refine z_iand B dX12_bitCount_15 ?_
    refine z_istore_n (lv' := [(2, .int (i_1 &&& (i_1 - 1))), (1, .int (i_2 + 1)), (0, .int a)]) B dX12_bitCount_16 rfl (Nat.le_of_ble_eq_true rfl) rfl ?_
    refine z_goto (tgt := 4) B dX12_bitCount_17 rfl ?_
    refine z_lv [0, 1, 2] rfl ?_
    exact ih1 (i_1 &&& (i_1 - 1), i_2 + 1) Φl1 (and_dec c_1) ⟨hI1, (fun b9 h9 => ((hF1 b9 (fun j9 h8 h7 => (show False from h7).elim)).trans rfl)), trivial⟩

set_option maxHeartbeats 4000000 in
set_option maxRecDepth 100000 in
theorem r_putTemplate (G : EnvG) (l : Launch) (Φ : Hm) (sz x : Nat) (rd : (Nat → Int32) → Prop) (fl : Nat) (pe : Nat) (le : Nat) (nx : Nat) (il : Nat) (kn : Int32) (ec : Int32) (t : Nat) (hx : G.2.2.2 ≤ x) (hI : Im G x (rd, NN, fl, pe, le, nx, il, kn, ec) Φ) (ht : t < 4) (hl : le + 40 ≤ 700) : Ct G l yX12_putTemplate wsX12_putTemplate ({ frames := 3, cells := 0, slots := 0, locals := 66 }) 0 0 [.ref x, .int (nI t)] Φ sz (fun v Φ1 sz1 => (v = none) ∧ sz1 = sz ∧ (∃ (le1 : Nat), (le ≤ le1) ∧ (le1 ≤ le + 40) ∧ Im G x (rd, NN, fl, pe, le1, nx, il, kn, ec) Φ1) ∧ Fr x (fun j9 => j9 = 0 ∨ j9 = 3 ∨ j9 = 4 ∨ j9 = 8) Φ Φ1) := by
  refine Ct.of (cc := cX12_putTemplate) (maxL := 4) (ret := none) (by decide) rfl (Nat.le_of_ble_eq_true rfl) ?_
  intro p9 e9 s9 m9 w9 t9 k9 B
  show Z p9 l e9 _ s9 m9 _ w9 t9 k9 _ G 4 0 [(0, .ref x), (1, .int (nI t))] [] Φ sz 0 0
  refine z_aload_n B dX12_putTemplate_0 rfl 0 rfl ?_
  refine z_sipush (v := 256) B dX12_putTemplate_1 rfl ?_
  refine z_iload_n B dX12_putTemplate_4 rfl 1 rfl ?_
  refine z_iadd B dX12_putTemplate_5 ?_
  refine z_top (st1 := [.int (nI (256 + t)), .ref x]) (congrArg (fun w9 : Int32 => ([.int w9, .ref x] : List Value)) (nI_add 256 t)) ?_
  refine z_i2l (v := (nI (256 + t)).toInt64) B dX12_putTemplate_6 rfl ?_
  refine z_iconst (v := 2) B dX12_putTemplate_7 rfl ?_
  obtain ⟨v_1, v_2, v_3, n_1, v_4, v_5, v_6, v_7, v_8, v_9, v_10, v_11, v_12, n_2, n_3, v_13, n_4, n_5, v_14, v_15, v_16, v_17, h_1, b_12, b_1, b_2, b_3, b_4, b_5, b_6, b_7, b_8, b_9, b_10, b_11⟩ := im0 hI
  replace b_1 : 1 ≤ n_1 := b_1
  replace b_2 : n_1 ≤ 1024 := b_2
  replace b_3 : fl ≤ 12 := b_3
  replace b_4 : pe ≤ 24 := b_4
  replace b_5 : le ≤ 700 := b_5
  replace b_6 : n_2 ≤ 12 := b_6
  replace b_7 : n_3 ≤ 8 := b_7
  replace b_8 : n_4 ≤ 24 := b_8
  replace b_9 : n_5 ≤ 24 := b_9
  replace b_10 : il ≤ 700 := b_10
  replace b_11 : nx ≤ 701 := b_11
  have h_2 : Φ x = some (o_ 14 [.int v_1, .ref (x + 1), .ref (x + 2), .int v_2, .int v_3, .int (nI n_1), .int v_4, .int v_5, .ref (x + 3), .ref (x + 4), .int v_6, .long v_7, .ref (x + 5), .int (nI fl), .int v_8, .long v_9, .long v_10, .long v_11, .long v_12, .ref (x + 6), .ref (x + 7), .int (nI pe), .ref (x + 8), .int (nI le), .ref (x + 9), .ref (x + 10), .int (nI n_2), .ref (x + 11), .ref (x + 12), .ref (x + 13), .ref (x + 14), .ref (x + 15), .ref (x + 16), .int (nI n_3), .long v_13, .ref (x + 17), .ref (x + 18), .ref (x + 19), .ref (x + 20), .ref (x + 21), .ref (x + 22), .int (nI n_4), .ref (x + 23), .ref (x + 24), .int (nI n_5), .ref (x + 25), .int (nI il), .int (nI nx), .int ec, .int v_14, .int kn, .int v_15, .int v_16, .long v_17]) := h_1
  refine z_callV (As := [.long ((nI (256 + t)).toInt64), .int 2]) (rest := []) B (r_put G l Φ sz x rd fl pe le nx il kn ec ((nI (256 + t)).toInt64) 2 hx hI (show 2 ≤ 8 by omega) (show le + 2 ≤ 700 by omega)) (cwV 2 B.1.2.2.2.2 gX12_putTemplate_X12_put rfl rfl rfl (by decide +kernel) ⟨Nat.le_of_ble_eq_true rfl, Nat.le_of_ble_eq_true rfl⟩) h_2 rfl rfl rfl rfl (Nat.le_of_ble_eq_true rfl) dX12_putTemplate_8 ⟨Nat.le_of_ble_eq_true rfl, Nat.le_of_ble_eq_true rfl⟩ (fun r_1 Φ1 sz1 st1 hp1 hs1 => ?_)
  obtain ⟨rfl, hq1, ⟨n_6, b_13, hI1⟩, hF1⟩ := hp1
  subst sz1
  replace hs1 : st1 = [] := hs1
  subst st1
  replace hI1 : Im G x (rd, NN, fl, pe, n_6, nx, il, kn, ec) Φ1 := hI1
  replace b_13 : n_6 = le + 2 := b_13
  refine z_aload_n B dX12_putTemplate_11 rfl 0 rfl ?_
  refine z_aload_n B dX12_putTemplate_12 rfl 0 rfl ?_
  refine z_iload_n B dX12_putTemplate_13 rfl 1 rfl ?_
  obtain ⟨v_18, v_19, v_20, n_7, v_21, v_22, v_23, v_24, v_25, v_26, v_27, v_28, v_29, n_8, n_9, v_30, n_10, n_11, v_31, v_32, v_33, v_34, h_3, b_25, b_14, b_15, b_16, b_17, b_18, b_19, b_20, b_21, b_22, b_23, b_24⟩ := im0 hI1
  replace b_14 : 1 ≤ n_7 := b_14
  replace b_15 : n_7 ≤ 1024 := b_15
  replace b_16 : fl ≤ 12 := b_16
  replace b_17 : pe ≤ 24 := b_17
  replace b_18 : n_6 ≤ 700 := b_18
  replace b_19 : n_8 ≤ 12 := b_19
  replace b_20 : n_9 ≤ 8 := b_20
  replace b_21 : n_10 ≤ 24 := b_21
  replace b_22 : n_11 ≤ 24 := b_22
  replace b_23 : il ≤ 700 := b_23
  replace b_24 : nx ≤ 701 := b_24
  have h_4 : Φ1 x = some (o_ 14 [.int v_18, .ref (x + 1), .ref (x + 2), .int v_19, .int v_20, .int (nI n_7), .int v_21, .int v_22, .ref (x + 3), .ref (x + 4), .int v_23, .long v_24, .ref (x + 5), .int (nI fl), .int v_25, .long v_26, .long v_27, .long v_28, .long v_29, .ref (x + 6), .ref (x + 7), .int (nI pe), .ref (x + 8), .int (nI n_6), .ref (x + 9), .ref (x + 10), .int (nI n_8), .ref (x + 11), .ref (x + 12), .ref (x + 13), .ref (x + 14), .ref (x + 15), .ref (x + 16), .int (nI n_9), .long v_30, .ref (x + 17), .ref (x + 18), .ref (x + 19), .ref (x + 20), .ref (x + 21), .ref (x + 22), .int (nI n_10), .ref (x + 23), .ref (x + 24), .int (nI n_11), .ref (x + 25), .int (nI il), .int (nI nx), .int ec, .int v_31, .int kn, .int v_32, .int v_33, .long v_34]) := h_3
  refine z_callV (As := [.int (nI t)]) (rest := [.ref x]) B (r_effective G l Φ1 sz x rd fl pe n_6 nx il kn ec t hx hI1 (show t < 4 by omega)) (cwV 1 B.1.2.2.2.2 gX12_putTemplate_X12_effective rfl rfl rfl (by decide +kernel) ⟨Nat.le_of_ble_eq_true rfl, Nat.le_of_ble_eq_true rfl⟩) h_4 rfl rfl rfl rfl (Nat.le_of_ble_eq_true rfl) dX12_putTemplate_14 ⟨Nat.le_of_ble_eq_true rfl, Nat.le_of_ble_eq_true rfl⟩ (fun r_2 Φ2 sz2 st2 hp2 hs2 => ?_)
  obtain ⟨⟨v_35, rfl⟩, hq2, hI2, hF2⟩ := hp2
  subst sz2
  replace hs2 : st2 = [.int v_35, .ref x] := hs2
  subst st2
  replace hI2 : Im G x (rd, NN, fl, pe, n_6, nx, il, kn, ec) Φ2 := hI2
  refine z_callS (As := [.int v_35]) (rest := [.ref x]) B (r_bitCount G l Φ2 sz x rd fl pe n_6 nx il kn ec v_35 hx hI2 ) (va_cwS 1 B.1.2.2.2.2 gX12_putTemplate_X12_bitCount rfl rfl rfl (by decide +kernel) ⟨Nat.le_of_ble_eq_true rfl, Nat.le_of_ble_eq_true rfl⟩) rfl rfl (Nat.le_of_ble_eq_true rfl) dX12_putTemplate_17 ⟨Nat.le_of_ble_eq_true rfl, Nat.le_of_ble_eq_true rfl⟩ (fun r_3 Φ3 sz3 st3 hp3 hs3 => ?_)
  obtain ⟨⟨v_36, rfl⟩, hq3, hI3, hF3⟩ := hp3
  subst sz3
  replace hs3 : st3 = [.int v_36, .ref x] := hs3
  subst st3
  replace hI3 : Im G x (rd, NN, fl, pe, n_6, nx, il, kn, ec) Φ3 := hI3
  refine z_i2l (v := v_36.toInt64) B dX12_putTemplate_20 rfl ?_
  refine z_iconst (v := 2) B dX12_putTemplate_21 rfl ?_
  have h_5 : Φ3 x = some (o_ 14 [.int v_18, .ref (x + 1), .ref (x + 2), .int v_19, .int v_20, .int (nI n_7), .int v_21, .int v_22, .ref (x + 3), .ref (x + 4), .int v_23, .long v_24, .ref (x + 5), .int (nI fl), .int v_25, .long v_26, .long v_27, .long v_28, .long v_29, .ref (x + 6), .ref (x + 7), .int (nI pe), .ref (x + 8), .int (nI n_6), .ref (x + 9), .ref (x + 10), .int (nI n_8), .ref (x + 11), .ref (x + 12), .ref (x + 13), .ref (x + 14), .ref (x + 15), .ref (x + 16), .int (nI n_9), .long v_30, .ref (x + 17), .ref (x + 18), .ref (x + 19), .ref (x + 20), .ref (x + 21), .ref (x + 22), .int (nI n_10), .ref (x + 23), .ref (x + 24), .int (nI n_11), .ref (x + 25), .int (nI il), .int (nI nx), .int ec, .int v_31, .int kn, .int v_32, .int v_33, .long v_34]) := ((hF3 x (fun j9 h8 h7 => (show False from h7).elim)).trans ((hF2 x (fun j9 h8 h7 => (show False from h7).elim)).trans h_4))
  refine z_callV (As := [.long v_36.toInt64, .int 2]) (rest := []) B (r_put G l Φ3 sz x rd fl pe n_6 nx il kn ec v_36.toInt64 2 hx hI3 (show 2 ≤ 8 by omega) (show n_6 + 2 ≤ 700 by omega)) (cwV 2 B.1.2.2.2.2 gX12_putTemplate_X12_put rfl rfl rfl (by decide +kernel) ⟨Nat.le_of_ble_eq_true rfl, Nat.le_of_ble_eq_true rfl⟩) h_5 rfl rfl rfl rfl (Nat.le_of_ble_eq_true rfl) dX12_putTemplate_22 ⟨Nat.le_of_ble_eq_true rfl, Nat.le_of_ble_eq_true rfl⟩ (fun r_4 Φ4 sz4 st4 hp4 hs4 => ?_)
  obtain ⟨rfl, hq4, ⟨n_12, b_26, hI4⟩, hF4⟩ := hp4
  subst sz4
  replace hs4 : st4 = [] := hs4
  subst st4
  replace hI4 : Im G x (rd, NN, fl, pe, n_12, nx, il, kn, ec) Φ4 := hI4
  replace b_26 : n_12 = n_6 + 2 := b_26
  refine z_iconst (v := 0) B dX12_putTemplate_25 rfl ?_
  refine z_istore_n (lv' := [(2, .int 0), (0, .ref x), (1, .int (nI t))]) B dX12_putTemplate_26 rfl (Nat.le_of_ble_eq_true rfl) rfl ?_
  refine z_lv [0, 1, 2] rfl ?_
  refine z_loop (α := Nat × Nat) (fun (a9 : Nat × Nat) Φi => Im G x (rd, NN, fl, pe, a9.2, nx, il, kn, ec) Φi ∧ Fr x (fun j9 => j9 = 0 ∨ j9 = 3 ∨ j9 = 4 ∨ j9 = 8) Φ4 Φi ∧ (a9.1 ≤ 9) ∧ (n_12 ≤ a9.2) ∧ (a9.2 ≤ n_12 + 4 * a9.1) ∧ True) (fun a9 => [(2, .int (nI (a9.1))), (0, .ref x), (1, .int (nI t))]) (fun a9 => 9 - a9.1) ?_ (0, n_12) ⟨hI4, fun _ _ => rfl, (show 0 ≤ 9 by omega), (show n_12 ≤ n_12 by omega), (show n_12 ≤ n_12 + 4 * 0 by omega), trivial⟩
  rintro ⟨i_1, i_2⟩ Φl1 ⟨hI5, hF5, b_27, b_28, b_29, -⟩ ih1
  replace hI5 : Im G x (rd, NN, fl, pe, i_2, nx, il, kn, ec) Φl1 := hI5
  replace b_27 : i_1 ≤ 9 := b_27
  replace b_28 : n_12 ≤ i_2 := b_28
  replace b_29 : i_2 ≤ n_12 + 4 * i_1 := b_29
  show Z p9 l e9 _ s9 m9 _ w9 t9 k9 _ G 4 27 [(2, .int (nI i_1)), (0, .ref x), (1, .int (nI t))] [] Φl1 _ _ _
  refine z_iload_n B dX12_putTemplate_27 rfl 0 rfl ?_
  refine z_aload_n B dX12_putTemplate_28 rfl 1 rfl ?_
  refine z_iload_n B dX12_putTemplate_29 rfl 2 rfl ?_
  obtain ⟨v_37, v_38, v_39, n_13, v_40, v_41, v_42, v_43, v_44, v_45, v_46, v_47, v_48, n_14, n_15, v_49, n_16, n_17, v_50, v_51, v_52, v_53, h_6, b_41, b_30, b_31, b_32, b_33, b_34, b_35, b_36, b_37, b_38, b_39, b_40⟩ := im0 hI5
  replace b_30 : 1 ≤ n_13 := b_30
  replace b_31 : n_13 ≤ 1024 := b_31
  replace b_32 : fl ≤ 12 := b_32
  replace b_33 : pe ≤ 24 := b_33
  replace b_34 : i_2 ≤ 700 := b_34
  replace b_35 : n_14 ≤ 12 := b_35
  replace b_36 : n_15 ≤ 8 := b_36
  replace b_37 : n_16 ≤ 24 := b_37
  replace b_38 : n_17 ≤ 24 := b_38
  replace b_39 : il ≤ 700 := b_39
  replace b_40 : nx ≤ 701 := b_40
  have h_7 : Φl1 x = some (o_ 14 [.int v_37, .ref (x + 1), .ref (x + 2), .int v_38, .int v_39, .int (nI n_13), .int v_40, .int v_41, .ref (x + 3), .ref (x + 4), .int v_42, .long v_43, .ref (x + 5), .int (nI fl), .int v_44, .long v_45, .long v_46, .long v_47, .long v_48, .ref (x + 6), .ref (x + 7), .int (nI pe), .ref (x + 8), .int (nI i_2), .ref (x + 9), .ref (x + 10), .int (nI n_14), .ref (x + 11), .ref (x + 12), .ref (x + 13), .ref (x + 14), .ref (x + 15), .ref (x + 16), .int (nI n_15), .long v_49, .ref (x + 17), .ref (x + 18), .ref (x + 19), .ref (x + 20), .ref (x + 21), .ref (x + 22), .int (nI n_16), .ref (x + 23), .ref (x + 24), .int (nI n_17), .ref (x + 25), .int (nI il), .int (nI nx), .int ec, .int v_50, .int kn, .int v_51, .int v_52, .long v_53]) := h_6
  refine z_callV (As := [.int (nI t)]) (rest := [.int (nI i_1)]) B (r_sizeOf G l Φl1 sz x rd fl pe i_2 nx il kn ec t hx hI5 (show t < 4 by omega)) (cwV 1 B.1.2.2.2.2 gX12_putTemplate_X12_sizeOf rfl rfl rfl (by decide +kernel) ⟨Nat.le_of_ble_eq_true rfl, Nat.le_of_ble_eq_true rfl⟩) h_7 rfl rfl rfl rfl (Nat.le_of_ble_eq_true rfl) dX12_putTemplate_30 ⟨Nat.le_of_ble_eq_true rfl, Nat.le_of_ble_eq_true rfl⟩ (fun r_5 Φ5 sz5 st5 hp5 hs5 => ?_)
  obtain ⟨⟨n_18, rfl, b_42⟩, hq5, hI6, hF6⟩ := hp5
  subst sz5
  replace hs5 : st5 = [.int (nI n_18), .int (nI i_1)] := hs5
  subst st5
  replace b_42 : n_18 ≤ 9 := b_42
  replace hI6 : Im G x (rd, NN, fl, pe, i_2, nx, il, kn, ec) Φ5 := hI6
  refine z_icmp_ge (tgt := 77) B dX12_putTemplate_33 rfl (fun c_1 => ?_) (fun c_1 => ?_)
  · have e_1 : n_18 ≤ i_1 := (nI_leI (a := n_18) (b := i_1) (by omega) (by omega)).mp c_1
    refine z_aload_n B dX12_putTemplate_77 rfl 1 rfl ?_
    have h_8 : Φ5 x = some (o_ 14 [.int v_37, .ref (x + 1), .ref (x + 2), .int v_38, .int v_39, .int (nI n_13), .int v_40, .int v_41, .ref (x + 3), .ref (x + 4), .int v_42, .long v_43, .ref (x + 5), .int (nI fl), .int v_44, .long v_45, .long v_46, .long v_47, .long v_48, .ref (x + 6), .ref (x + 7), .int (nI pe), .ref (x + 8), .int (nI i_2), .ref (x + 9), .ref (x + 10), .int (nI n_14), .ref (x + 11), .ref (x + 12), .ref (x + 13), .ref (x + 14), .ref (x + 15), .ref (x + 16), .int (nI n_15), .long v_49, .ref (x + 17), .ref (x + 18), .ref (x + 19), .ref (x + 20), .ref (x + 21), .ref (x + 22), .int (nI n_16), .ref (x + 23), .ref (x + 24), .int (nI n_17), .ref (x + 25), .int (nI il), .int (nI nx), .int ec, .int v_50, .int kn, .int v_51, .int v_52, .long v_53]) := ((hF6 x (fun j9 h8 h7 => (show False from h7).elim)).trans h_7)
    refine z_get (ref := "FlowExporterModel") (C := RX12) (T := TX12) (N := 54) (ci := 14) (v := .ref (x + 3)) B (by decide +kernel) rfl 8 (by decide) (by decide +kernel) rfl h_8 rfl dX12_putTemplate_78 ?_
    refine z_iload_n B dX12_putTemplate_81 rfl 2 rfl ?_
    refine z_aload_n B dX12_putTemplate_82 rfl 1 rfl ?_
    refine z_get (ref := "FlowExporterModel") (C := RX12) (T := TX12) (N := 54) (ci := 14) (v := .int v_42) B (by decide +kernel) rfl 10 (by decide) (by decide +kernel) rfl h_8 rfl dX12_putTemplate_83 ?_
    obtain ⟨f_1, h_9⟩ := imk (k := 3) hI6
    have h_10 : Φ5 (x + 3) = some (ai_ G 4 f_1) := h_9
    refine z_iast B h_10 (Nat.le_trans hx (Nat.le_add_right x 3)) (vp_in_nI (by omega) (by omega)) dX12_putTemplate_86 (fun Φ6 hΦ1 => ?_)
    have h_11 : Φ6 (x + 3) = some (ai_ G 4 (upd f_1 (nI t).toNatClampNeg v_42)) := fset_at hΦ1
    have hI7 : Im G x (rd, NN, fl, pe, i_2, nx, il, kn, ec) Φ6 := Im.put (k := 3) hI6 hΦ1 ⟨_, rfl⟩
    refine z_aload_n B dX12_putTemplate_87 rfl 1 rfl ?_
    have h_12 : Φ6 x = some (o_ 14 [.int v_37, .ref (x + 1), .ref (x + 2), .int v_38, .int v_39, .int (nI n_13), .int v_40, .int v_41, .ref (x + 3), .ref (x + 4), .int v_42, .long v_43, .ref (x + 5), .int (nI fl), .int v_44, .long v_45, .long v_46, .long v_47, .long v_48, .ref (x + 6), .ref (x + 7), .int (nI pe), .ref (x + 8), .int (nI i_2), .ref (x + 9), .ref (x + 10), .int (nI n_14), .ref (x + 11), .ref (x + 12), .ref (x + 13), .ref (x + 14), .ref (x + 15), .ref (x + 16), .int (nI n_15), .long v_49, .ref (x + 17), .ref (x + 18), .ref (x + 19), .ref (x + 20), .ref (x + 21), .ref (x + 22), .int (nI n_16), .ref (x + 23), .ref (x + 24), .int (nI n_17), .ref (x + 25), .int (nI il), .int (nI nx), .int ec, .int v_50, .int kn, .int v_51, .int v_52, .long v_53]) := ((fset_fr hΦ1 (ne_off (x := x) (i := 0) (j := 3) rfl)).trans h_8)
    refine z_get (ref := "FlowExporterModel") (C := RX12) (T := TX12) (N := 54) (ci := 14) (v := .ref (x + 4)) B (by decide +kernel) rfl 9 (by decide) (by decide +kernel) rfl h_12 rfl dX12_putTemplate_88 ?_
    refine z_iload_n B dX12_putTemplate_91 rfl 2 rfl ?_
    refine z_aload_n B dX12_putTemplate_92 rfl 1 rfl ?_
    refine z_get (ref := "FlowExporterModel") (C := RX12) (T := TX12) (N := 54) (ci := 14) (v := .int v_38) B (by decide +kernel) rfl 3 (by decide) (by decide +kernel) rfl h_12 rfl dX12_putTemplate_93 ?_
    obtain ⟨f_2, h_13⟩ := imk (k := 4) hI7
    have h_14 : Φ6 (x + 4) = some (ai_ G 4 f_2) := h_13
    refine z_iast B h_14 (Nat.le_trans hx (Nat.le_add_right x 4)) (vp_in_nI (by omega) (by omega)) dX12_putTemplate_96 (fun Φ7 hΦ2 => ?_)
    have h_15 : Φ7 (x + 4) = some (ai_ G 4 (upd f_2 (nI t).toNatClampNeg v_38)) := fset_at hΦ2
    have hI8 : Im G x (rd, NN, fl, pe, i_2, nx, il, kn, ec) Φ7 := Im.put (k := 4) hI7 hΦ2 ⟨_, rfl⟩
    exact z_ret_v B dX12_putTemplate_97 ⟨rfl, rfl, ⟨i_2, (show le ≤ i_2 by omega), (show i_2 ≤ le + 40 by omega), hI8⟩, (fun b9 h9 => ((fset_fr hΦ2 (fun h8 => h9 (4) h8 (show 4 = 0 ∨ 4 = 3 ∨ 4 = 4 ∨ 4 = 8 by omega))).trans ((fset_fr hΦ1 (fun h8 => h9 (3) h8 (show 3 = 0 ∨ 3 = 3 ∨ 3 = 4 ∨ 3 = 8 by omega))).trans ((hF6 b9 (fun j9 h8 h7 => (show False from h7).elim)).trans ((hF5 b9 (fun j9 h8 h7 => h9 j9 h8 (show j9 = 0 ∨ j9 = 3 ∨ j9 = 4 ∨ j9 = 8 by have h6 : j9 = 0 ∨ j9 = 3 ∨ j9 = 4 ∨ j9 = 8 := h7; omega))).trans ((hF4 b9 (fun j9 h8 h7 => h9 j9 h8 (show j9 = 0 ∨ j9 = 3 ∨ j9 = 4 ∨ j9 = 8 by have h6 : j9 = 0 ∨ j9 = 8 := h7; omega))).trans ((hF3 b9 (fun j9 h8 h7 => (show False from h7).elim)).trans ((hF2 b9 (fun j9 h8 h7 => (show False from h7).elim)).trans ((hF1 b9 (fun j9 h8 h7 => h9 j9 h8 (show j9 = 0 ∨ j9 = 3 ∨ j9 = 4 ∨ j9 = 8 by have h6 : j9 = 0 ∨ j9 = 8 := h7; omega))).trans rfl)))))))))⟩
  · have e_2 : ¬ (n_18 ≤ i_1) := fun h9 => c_1 ((nI_leI (a := n_18) (b := i_1) (by omega) (by omega)).mpr h9)
    refine z_aload_n B dX12_putTemplate_36 rfl 1 rfl ?_
    refine z_iload_n B dX12_putTemplate_37 rfl 2 rfl ?_
    refine z_iload_n B dX12_putTemplate_38 rfl 0 rfl ?_
    have h_16 : Φ5 x = some (o_ 14 [.int v_37, .ref (x + 1), .ref (x + 2), .int v_38, .int v_39, .int (nI n_13), .int v_40, .int v_41, .ref (x + 3), .ref (x + 4), .int v_42, .long v_43, .ref (x + 5), .int (nI fl), .int v_44, .long v_45, .long v_46, .long v_47, .long v_48, .ref (x + 6), .ref (x + 7), .int (nI pe), .ref (x + 8), .int (nI i_2), .ref (x + 9), .ref (x + 10), .int (nI n_14), .ref (x + 11), .ref (x + 12), .ref (x + 13), .ref (x + 14), .ref (x + 15), .ref (x + 16), .int (nI n_15), .long v_49, .ref (x + 17), .ref (x + 18), .ref (x + 19), .ref (x + 20), .ref (x + 21), .ref (x + 22), .int (nI n_16), .ref (x + 23), .ref (x + 24), .int (nI n_17), .ref (x + 25), .int (nI il), .int (nI nx), .int ec, .int v_50, .int kn, .int v_51, .int v_52, .long v_53]) := ((hF6 x (fun j9 h8 h7 => (show False from h7).elim)).trans h_7)
    refine z_callV (As := [.int (nI t), .int (nI i_1)]) (rest := []) B (r_fieldOf G l Φ5 sz x rd fl pe i_2 nx il kn ec t i_1 hx hI6 (show t < 4 by omega) (show i_1 < 9 by omega)) (cwV 2 B.1.2.2.2.2 gX12_putTemplate_X12_fieldOf rfl rfl rfl (by decide +kernel) ⟨Nat.le_of_ble_eq_true rfl, Nat.le_of_ble_eq_true rfl⟩) h_16 rfl rfl rfl rfl (Nat.le_of_ble_eq_true rfl) dX12_putTemplate_39 ⟨Nat.le_of_ble_eq_true rfl, Nat.le_of_ble_eq_true rfl⟩ (fun r_8 Φ8 sz6 st6 hp6 hs6 => ?_)
    obtain ⟨⟨n_19, rfl, b_43⟩, hq6, hI9, hF7⟩ := hp6
    subst sz6
    replace hs6 : st6 = [.int (nI n_19)] := hs6
    subst st6
    replace b_43 : n_19 ≤ 8 := b_43
    replace hI9 : Im G x (rd, NN, fl, pe, i_2, nx, il, kn, ec) Φ8 := hI9
    refine z_istore_n (lv' := [(3, .int (nI n_19)), (2, .int (nI i_1)), (0, .ref x), (1, .int (nI t))]) B dX12_putTemplate_42 rfl (Nat.le_of_ble_eq_true rfl) rfl ?_
    refine z_aload_n B dX12_putTemplate_43 rfl 2 rfl ?_
    refine z_iload_n B dX12_putTemplate_44 rfl 0 rfl ?_
    have h_17 : Φ8 x = some (o_ 14 [.int v_37, .ref (x + 1), .ref (x + 2), .int v_38, .int v_39, .int (nI n_13), .int v_40, .int v_41, .ref (x + 3), .ref (x + 4), .int v_42, .long v_43, .ref (x + 5), .int (nI fl), .int v_44, .long v_45, .long v_46, .long v_47, .long v_48, .ref (x + 6), .ref (x + 7), .int (nI pe), .ref (x + 8), .int (nI i_2), .ref (x + 9), .ref (x + 10), .int (nI n_14), .ref (x + 11), .ref (x + 12), .ref (x + 13), .ref (x + 14), .ref (x + 15), .ref (x + 16), .int (nI n_15), .long v_49, .ref (x + 17), .ref (x + 18), .ref (x + 19), .ref (x + 20), .ref (x + 21), .ref (x + 22), .int (nI n_16), .ref (x + 23), .ref (x + 24), .int (nI n_17), .ref (x + 25), .int (nI il), .int (nI nx), .int ec, .int v_50, .int kn, .int v_51, .int v_52, .long v_53]) := ((hF7 x (fun j9 h8 h7 => (show False from h7).elim)).trans h_16)
    refine z_callV (As := [.int (nI n_19)]) (rest := []) B (r_isSupported G l Φ8 sz x rd fl pe i_2 nx il kn ec (nI n_19) hx hI9 ) (cwV 1 B.1.2.2.2.2 gX12_putTemplate_X12_isSupported rfl rfl rfl (by decide +kernel) ⟨Nat.le_of_ble_eq_true rfl, Nat.le_of_ble_eq_true rfl⟩) h_17 rfl rfl rfl rfl (Nat.le_of_ble_eq_true rfl) dX12_putTemplate_45 ⟨Nat.le_of_ble_eq_true rfl, Nat.le_of_ble_eq_true rfl⟩ (fun r_9 Φ9 sz7 st7 hp7 hs7 => ?_)
    obtain ⟨⟨v_54, rfl, b_44⟩, hq7, hI10, hF8⟩ := hp7
    subst sz7
    replace hs7 : st7 = [.int v_54] := hs7
    subst st7
    replace hI10 : Im G x (rd, NN, fl, pe, i_2, nx, il, kn, ec) Φ9 := hI10
    refine z_if_ne (tgt := 54) B dX12_putTemplate_48 rfl (fun c_2 => ?_) (fun c_2 => ?_)
    · refine z_aload_n B dX12_putTemplate_54 rfl 2 rfl ?_
      refine z_iload_n B dX12_putTemplate_55 rfl 0 rfl ?_
      refine z_i2l (v := (nI n_19).toInt64) B dX12_putTemplate_56 rfl ?_
      refine z_iconst (v := 2) B dX12_putTemplate_57 rfl ?_
      have h_18 : Φ9 x = some (o_ 14 [.int v_37, .ref (x + 1), .ref (x + 2), .int v_38, .int v_39, .int (nI n_13), .int v_40, .int v_41, .ref (x + 3), .ref (x + 4), .int v_42, .long v_43, .ref (x + 5), .int (nI fl), .int v_44, .long v_45, .long v_46, .long v_47, .long v_48, .ref (x + 6), .ref (x + 7), .int (nI pe), .ref (x + 8), .int (nI i_2), .ref (x + 9), .ref (x + 10), .int (nI n_14), .ref (x + 11), .ref (x + 12), .ref (x + 13), .ref (x + 14), .ref (x + 15), .ref (x + 16), .int (nI n_15), .long v_49, .ref (x + 17), .ref (x + 18), .ref (x + 19), .ref (x + 20), .ref (x + 21), .ref (x + 22), .int (nI n_16), .ref (x + 23), .ref (x + 24), .int (nI n_17), .ref (x + 25), .int (nI il), .int (nI nx), .int ec, .int v_50, .int kn, .int v_51, .int v_52, .long v_53]) := ((hF8 x (fun j9 h8 h7 => (show False from h7).elim)).trans h_17)
      refine z_callV (As := [.long ((nI n_19).toInt64), .int 2]) (rest := []) B (r_put G l Φ9 sz x rd fl pe i_2 nx il kn ec ((nI n_19).toInt64) 2 hx hI10 (show 2 ≤ 8 by omega) (show i_2 + 2 ≤ 700 by omega)) (cwV 2 B.1.2.2.2.2 gX12_putTemplate_X12_put rfl rfl rfl (by decide +kernel) ⟨Nat.le_of_ble_eq_true rfl, Nat.le_of_ble_eq_true rfl⟩) h_18 rfl rfl rfl rfl (Nat.le_of_ble_eq_true rfl) dX12_putTemplate_58 ⟨Nat.le_of_ble_eq_true rfl, Nat.le_of_ble_eq_true rfl⟩ (fun r_10 Φ10 sz8 st8 hp8 hs8 => ?_)
      obtain ⟨rfl, hq8, ⟨n_20, b_45, hI11⟩, hF9⟩ := hp8
      subst sz8
      replace hs8 : st8 = [] := hs8
      subst st8
      replace hI11 : Im G x (rd, NN, fl, pe, n_20, nx, il, kn, ec) Φ10 := hI11
      replace b_45 : n_20 = i_2 + 2 := b_45
      refine z_aload_n B dX12_putTemplate_61 rfl 2 rfl ?_
      refine z_iload_n B dX12_putTemplate_62 rfl 0 rfl ?_
      refine z_callS (As := [.int (nI n_19)]) (rest := [.ref x]) B (r_lengthOf G l Φ10 sz x rd fl pe n_20 nx il kn ec n_19 hx hI11 (show n_19 < 2 ^ 31 by omega)) (va_cwS 1 B.1.2.2.2.2 gX12_putTemplate_X12_lengthOf rfl rfl rfl (by decide +kernel) ⟨Nat.le_of_ble_eq_true rfl, Nat.le_of_ble_eq_true rfl⟩) rfl rfl (Nat.le_of_ble_eq_true rfl) dX12_putTemplate_63 ⟨Nat.le_of_ble_eq_true rfl, Nat.le_of_ble_eq_true rfl⟩ (fun r_11 Φ11 sz9 st9 hp9 hs9 => ?_)
      obtain ⟨rfl, hq9, hI12, hF10⟩ := hp9
      subst sz9
      replace hs9 : st9 = [.int (nI (lnN n_19)), .ref x] := hs9
      subst st9
      have b_46 := lnN_pos n_19
      have b_47 := lnN_le n_19
      replace hI12 : Im G x (rd, NN, fl, pe, n_20, nx, il, kn, ec) Φ11 := hI12
      refine z_i2l (v := (nI (lnN n_19)).toInt64) B dX12_putTemplate_66 rfl ?_
      refine z_iconst (v := 2) B dX12_putTemplate_67 rfl ?_
      obtain ⟨v_55, v_56, v_57, n_21, v_58, v_59, v_60, v_61, v_62, v_63, v_64, v_65, v_66, n_22, n_23, v_67, n_24, n_25, v_68, v_69, v_70, v_71, h_19, b_59, b_48, b_49, b_50, b_51, b_52, b_53, b_54, b_55, b_56, b_57, b_58⟩ := im0 hI12
      replace b_48 : 1 ≤ n_21 := b_48
      replace b_49 : n_21 ≤ 1024 := b_49
      replace b_50 : fl ≤ 12 := b_50
      replace b_51 : pe ≤ 24 := b_51
      replace b_52 : n_20 ≤ 700 := b_52
      replace b_53 : n_22 ≤ 12 := b_53
      replace b_54 : n_23 ≤ 8 := b_54
      replace b_55 : n_24 ≤ 24 := b_55
      replace b_56 : n_25 ≤ 24 := b_56
      replace b_57 : il ≤ 700 := b_57
      replace b_58 : nx ≤ 701 := b_58
      have h_20 : Φ11 x = some (o_ 14 [.int v_55, .ref (x + 1), .ref (x + 2), .int v_56, .int v_57, .int (nI n_21), .int v_58, .int v_59, .ref (x + 3), .ref (x + 4), .int v_60, .long v_61, .ref (x + 5), .int (nI fl), .int v_62, .long v_63, .long v_64, .long v_65, .long v_66, .ref (x + 6), .ref (x + 7), .int (nI pe), .ref (x + 8), .int (nI n_20), .ref (x + 9), .ref (x + 10), .int (nI n_22), .ref (x + 11), .ref (x + 12), .ref (x + 13), .ref (x + 14), .ref (x + 15), .ref (x + 16), .int (nI n_23), .long v_67, .ref (x + 17), .ref (x + 18), .ref (x + 19), .ref (x + 20), .ref (x + 21), .ref (x + 22), .int (nI n_24), .ref (x + 23), .ref (x + 24), .int (nI n_25), .ref (x + 25), .int (nI il), .int (nI nx), .int ec, .int v_68, .int kn, .int v_69, .int v_70, .long v_71]) := h_19
      refine z_callV (As := [.long ((nI (lnN n_19)).toInt64), .int 2]) (rest := []) B (r_put G l Φ11 sz x rd fl pe n_20 nx il kn ec ((nI (lnN n_19)).toInt64) 2 hx hI12 (show 2 ≤ 8 by omega) (show n_20 + 2 ≤ 700 by omega)) (cwV 2 B.1.2.2.2.2 gX12_putTemplate_X12_put rfl rfl rfl (by decide +kernel) ⟨Nat.le_of_ble_eq_true rfl, Nat.le_of_ble_eq_true rfl⟩) h_20 rfl rfl rfl rfl (Nat.le_of_ble_eq_true rfl) dX12_putTemplate_68 ⟨Nat.le_of_ble_eq_true rfl, Nat.le_of_ble_eq_true rfl⟩ (fun r_12 Φ12 sz10 st10 hp10 hs10 => ?_)
      obtain ⟨rfl, hq10, ⟨n_26, b_60, hI13⟩, hF11⟩ := hp10
      subst sz10
      replace hs10 : st10 = [] := hs10
      subst st10
      replace hI13 : Im G x (rd, NN, fl, pe, n_26, nx, il, kn, ec) Φ12 := hI13
      replace b_60 : n_26 = n_20 + 2 := b_60
      refine z_iinc (k := 1) (v := nI (i_1 + 1)) (lv' := [(2, .int (nI (i_1 + 1))), (3, .int (nI n_19)), (0, .ref x), (1, .int (nI t))]) B dX12_putTemplate_71 rfl (nI_add i_1 1) (Nat.le_of_ble_eq_true rfl) rfl ?_
      refine z_goto (tgt := 27) B dX12_putTemplate_74 rfl ?_
      refine z_lv [0, 2, 3] rfl ?_
      exact ih1 (i_1 + 1, n_26) Φ12 (show 9 - (i_1 + 1) < 9 - i_1 by omega) ⟨hI13, (fun b9 h9 => ((hF11 b9 (fun j9 h8 h7 => h9 j9 h8 (show j9 = 0 ∨ j9 = 3 ∨ j9 = 4 ∨ j9 = 8 by have h6 : j9 = 0 ∨ j9 = 8 := h7; omega))).trans ((hF10 b9 (fun j9 h8 h7 => (show False from h7).elim)).trans ((hF9 b9 (fun j9 h8 h7 => h9 j9 h8 (show j9 = 0 ∨ j9 = 3 ∨ j9 = 4 ∨ j9 = 8 by have h6 : j9 = 0 ∨ j9 = 8 := h7; omega))).trans ((hF8 b9 (fun j9 h8 h7 => (show False from h7).elim)).trans ((hF7 b9 (fun j9 h8 h7 => (show False from h7).elim)).trans ((hF6 b9 (fun j9 h8 h7 => (show False from h7).elim)).trans ((hF5 b9 (fun j9 h8 h7 => h9 j9 h8 (show j9 = 0 ∨ j9 = 3 ∨ j9 = 4 ∨ j9 = 8 by have h6 : j9 = 0 ∨ j9 = 3 ∨ j9 = 4 ∨ j9 = 8 := h7; omega))).trans rfl)))))))), (show (i_1 + 1) ≤ 9 by omega), (show n_12 ≤ n_26 by omega), (show n_26 ≤ n_12 + 4 * (i_1 + 1) by omega), trivial⟩
    · refine z_goto (tgt := 71) B dX12_putTemplate_51 rfl ?_
      refine z_iinc (k := 1) (v := nI (i_1 + 1)) (lv' := [(2, .int (nI (i_1 + 1))), (3, .int (nI n_19)), (0, .ref x), (1, .int (nI t))]) B dX12_putTemplate_71 rfl (nI_add i_1 1) (Nat.le_of_ble_eq_true rfl) rfl ?_
      refine z_goto (tgt := 27) B dX12_putTemplate_74 rfl ?_
      refine z_lv [0, 2, 3] rfl ?_
      exact ih1 (i_1 + 1, i_2) Φ9 (show 9 - (i_1 + 1) < 9 - i_1 by omega) ⟨hI10, (fun b9 h9 => ((hF8 b9 (fun j9 h8 h7 => (show False from h7).elim)).trans ((hF7 b9 (fun j9 h8 h7 => (show False from h7).elim)).trans ((hF6 b9 (fun j9 h8 h7 => (show False from h7).elim)).trans ((hF5 b9 (fun j9 h8 h7 => h9 j9 h8 (show j9 = 0 ∨ j9 = 3 ∨ j9 = 4 ∨ j9 = 8 by have h6 : j9 = 0 ∨ j9 = 3 ∨ j9 = 4 ∨ j9 = 8 := h7; omega))).trans rfl))))), (show (i_1 + 1) ≤ 9 by omega), (show n_12 ≤ i_2 by omega), (show i_2 ≤ n_12 + 4 * (i_1 + 1) by omega), trivial⟩

set_option maxHeartbeats 4000000 in
set_option maxRecDepth 100000 in
theorem r_putTemplates (G : EnvG) (l : Launch) (Φ : Hm) (sz x : Nat) (rd : (Nat → Int32) → Prop) (fl : Nat) (pe : Nat) (le : Nat) (nx : Nat) (il : Nat) (kn : Int32) (ec : Int32)  (hx : G.2.2.2 ≤ x) (hI : Im G x (rd, NN, fl, pe, le, nx, il, kn, ec) Φ) (hl : le ≤ 16) : Ct G l yX12_putTemplates wsX12_putTemplates ({ frames := 4, cells := 0, slots := 0, locals := 89 }) 0 0 [.ref x] Φ sz (fun v Φ1 sz1 => (v = none) ∧ sz1 = sz ∧ (∃ (le1 : Nat), (le ≤ le1) ∧ (le1 ≤ le + 164) ∧ Im G x (rd, NN, fl, pe, le1, nx, il, kn, ec) Φ1) ∧ Fr x (fun j9 => j9 = 0 ∨ j9 = 3 ∨ j9 = 4 ∨ j9 = 8) Φ Φ1) := by
  refine Ct.of (cc := cX12_putTemplates) (maxL := 3) (ret := none) (by decide) rfl (Nat.le_of_ble_eq_true rfl) ?_
  intro p9 e9 s9 m9 w9 t9 k9 B
  show Z p9 l e9 _ s9 m9 _ w9 t9 k9 _ G 3 0 [(0, .ref x)] [] Φ sz 0 0
  refine z_aload_n B dX12_putTemplates_0 rfl 0 rfl ?_
  obtain ⟨v_1, v_2, v_3, n_1, v_4, v_5, v_6, v_7, v_8, v_9, v_10, v_11, v_12, n_2, n_3, v_13, n_4, n_5, v_14, v_15, v_16, v_17, h_1, b_12, b_1, b_2, b_3, b_4, b_5, b_6, b_7, b_8, b_9, b_10, b_11⟩ := im0 hI
  replace b_1 : 1 ≤ n_1 := b_1
  replace b_2 : n_1 ≤ 1024 := b_2
  replace b_3 : fl ≤ 12 := b_3
  replace b_4 : pe ≤ 24 := b_4
  replace b_5 : le ≤ 700 := b_5
  replace b_6 : n_2 ≤ 12 := b_6
  replace b_7 : n_3 ≤ 8 := b_7
  replace b_8 : n_4 ≤ 24 := b_8
  replace b_9 : n_5 ≤ 24 := b_9
  replace b_10 : il ≤ 700 := b_10
  replace b_11 : nx ≤ 701 := b_11
  have h_2 : Φ x = some (o_ 14 [.int v_1, .ref (x + 1), .ref (x + 2), .int v_2, .int v_3, .int (nI n_1), .int v_4, .int v_5, .ref (x + 3), .ref (x + 4), .int v_6, .long v_7, .ref (x + 5), .int (nI fl), .int v_8, .long v_9, .long v_10, .long v_11, .long v_12, .ref (x + 6), .ref (x + 7), .int (nI pe), .ref (x + 8), .int (nI le), .ref (x + 9), .ref (x + 10), .int (nI n_2), .ref (x + 11), .ref (x + 12), .ref (x + 13), .ref (x + 14), .ref (x + 15), .ref (x + 16), .int (nI n_3), .long v_13, .ref (x + 17), .ref (x + 18), .ref (x + 19), .ref (x + 20), .ref (x + 21), .ref (x + 22), .int (nI n_4), .ref (x + 23), .ref (x + 24), .int (nI n_5), .ref (x + 25), .int (nI il), .int (nI nx), .int ec, .int v_14, .int kn, .int v_15, .int v_16, .long v_17]) := h_1
  refine z_get (ref := "FlowExporterModel") (C := RX12) (T := TX12) (N := 54) (ci := 14) (v := .int (nI le)) B (by decide +kernel) rfl 23 (by decide) (by decide +kernel) rfl h_2 rfl dX12_putTemplates_1 ?_
  refine z_istore_n (lv' := [(1, .int (nI le)), (0, .ref x)]) B dX12_putTemplates_4 rfl (Nat.le_of_ble_eq_true rfl) rfl ?_
  refine z_iconst (v := 0) B dX12_putTemplates_5 rfl ?_
  refine z_istore_n (lv' := [(2, .int 0), (1, .int (nI le)), (0, .ref x)]) B dX12_putTemplates_6 rfl (Nat.le_of_ble_eq_true rfl) rfl ?_
  refine z_lv [0, 1, 2] rfl ?_
  refine z_loop (α := Nat × Nat) (fun (a9 : Nat × Nat) Φi => Im G x (rd, NN, fl, pe, a9.2, nx, il, kn, ec) Φi ∧ Fr x (fun j9 => j9 = 0 ∨ j9 = 3 ∨ j9 = 4 ∨ j9 = 8) Φ Φi ∧ (a9.1 ≤ 4) ∧ (le ≤ a9.2) ∧ (a9.2 ≤ le + 4 + 40 * a9.1) ∧ True) (fun a9 => [(2, .int (nI (a9.1))), (1, .int (nI le)), (0, .ref x)]) (fun a9 => 4 - a9.1) ?_ (0, le) ⟨hI, fun _ _ => rfl, (show 0 ≤ 4 by omega), (show le ≤ le by omega), (show le ≤ le + 4 + 40 * 0 by omega), trivial⟩
  rintro ⟨i_1, i_2⟩ Φl1 ⟨hI1, hF1, b_13, b_14, b_15, -⟩ ih1
  replace hI1 : Im G x (rd, NN, fl, pe, i_2, nx, il, kn, ec) Φl1 := hI1
  replace b_13 : i_1 ≤ 4 := b_13
  replace b_14 : le ≤ i_2 := b_14
  replace b_15 : i_2 ≤ le + 4 + 40 * i_1 := b_15
  show Z p9 l e9 _ s9 m9 _ w9 t9 k9 _ G 3 7 [(2, .int (nI i_1)), (1, .int (nI le)), (0, .ref x)] [] Φl1 _ _ _
  refine z_iload_n B dX12_putTemplates_7 rfl 0 rfl ?_
  refine z_aload_n B dX12_putTemplates_8 rfl 2 rfl ?_
  obtain ⟨v_18, v_19, v_20, n_6, v_21, v_22, v_23, v_24, v_25, v_26, v_27, v_28, v_29, n_7, n_8, v_30, n_9, n_10, v_31, v_32, v_33, v_34, h_3, b_27, b_16, b_17, b_18, b_19, b_20, b_21, b_22, b_23, b_24, b_25, b_26⟩ := im0 hI1
  replace b_16 : 1 ≤ n_6 := b_16
  replace b_17 : n_6 ≤ 1024 := b_17
  replace b_18 : fl ≤ 12 := b_18
  replace b_19 : pe ≤ 24 := b_19
  replace b_20 : i_2 ≤ 700 := b_20
  replace b_21 : n_7 ≤ 12 := b_21
  replace b_22 : n_8 ≤ 8 := b_22
  replace b_23 : n_9 ≤ 24 := b_23
  replace b_24 : n_10 ≤ 24 := b_24
  replace b_25 : il ≤ 700 := b_25
  replace b_26 : nx ≤ 701 := b_26
  have h_4 : Φl1 x = some (o_ 14 [.int v_18, .ref (x + 1), .ref (x + 2), .int v_19, .int v_20, .int (nI n_6), .int v_21, .int v_22, .ref (x + 3), .ref (x + 4), .int v_23, .long v_24, .ref (x + 5), .int (nI fl), .int v_25, .long v_26, .long v_27, .long v_28, .long v_29, .ref (x + 6), .ref (x + 7), .int (nI pe), .ref (x + 8), .int (nI i_2), .ref (x + 9), .ref (x + 10), .int (nI n_7), .ref (x + 11), .ref (x + 12), .ref (x + 13), .ref (x + 14), .ref (x + 15), .ref (x + 16), .int (nI n_8), .long v_30, .ref (x + 17), .ref (x + 18), .ref (x + 19), .ref (x + 20), .ref (x + 21), .ref (x + 22), .int (nI n_9), .ref (x + 23), .ref (x + 24), .int (nI n_10), .ref (x + 25), .int (nI il), .int (nI nx), .int ec, .int v_31, .int kn, .int v_32, .int v_33, .long v_34]) := h_3
  refine z_get (ref := "FlowExporterModel") (C := RX12) (T := TX12) (N := 54) (ci := 14) (v := .ref (x + 2)) B (by decide +kernel) rfl 2 (by decide) (by decide +kernel) rfl h_4 rfl dX12_putTemplates_9 ?_
  refine z_bipush (v := 10) B dX12_putTemplates_12 rfl ?_
  obtain ⟨f_1, h_5, r_1⟩ := imk (k := 2) hI1
  replace r_1 : NN f_1 := r_1
  have h_6 : Φl1 (x + 2) = some (ai_ G 307 f_1) := h_5
  refine z_iald B h_6 (vin rfl) dX12_putTemplates_14 ?_
  obtain ⟨n_11, b_28, e_1⟩ := r_1.2.2.2.2.1
  refine z_top (st1 := [.int (nI n_11), .int (nI i_1)]) (congrArg (fun w9 : Int32 => ([.int w9, .int (nI i_1)] : List Value)) (e_1)) ?_
  refine z_icmp_ge (tgt := 56) B dX12_putTemplates_15 rfl (fun c_1 => ?_) (fun c_1 => ?_)
  · have e_2 : n_11 ≤ i_1 := (nI_leI (a := n_11) (b := i_1) (by omega) (by omega)).mp c_1
    refine z_aload_n B dX12_putTemplates_56 rfl 2 rfl ?_
    refine z_get (ref := "FlowExporterModel") (C := RX12) (T := TX12) (N := 54) (ci := 14) (v := .int (nI i_2)) B (by decide +kernel) rfl 23 (by decide) (by decide +kernel) rfl h_4 rfl dX12_putTemplates_57 ?_
    refine z_iload_n B dX12_putTemplates_60 rfl 1 rfl ?_
    refine z_icmp_le (tgt := 77) B dX12_putTemplates_61 rfl (fun c_2 => ?_) (fun c_2 => ?_)
    · have e_3 : i_2 ≤ le := (nI_leI (a := i_2) (b := le) (by omega) (by omega)).mp c_2
      exact z_ret_v B dX12_putTemplates_77 ⟨rfl, rfl, ⟨i_2, (show le ≤ i_2 by omega), (show i_2 ≤ le + 164 by omega), hI1⟩, (fun b9 h9 => ((hF1 b9 (fun j9 h8 h7 => h9 j9 h8 (show j9 = 0 ∨ j9 = 3 ∨ j9 = 4 ∨ j9 = 8 by have h6 : j9 = 0 ∨ j9 = 3 ∨ j9 = 4 ∨ j9 = 8 := h7; omega))).trans rfl))⟩
    · have e_4 : ¬ (i_2 ≤ le) := fun h9 => c_2 ((nI_leI (a := i_2) (b := le) (by omega) (by omega)).mpr h9)
      refine z_aload_n B dX12_putTemplates_64 rfl 2 rfl ?_
      refine z_iload_n B dX12_putTemplates_65 rfl 1 rfl ?_
      refine z_iconst (v := 2) B dX12_putTemplates_66 rfl ?_
      refine z_iadd B dX12_putTemplates_67 ?_
      refine z_top (st1 := [.int (nI (le + 2)), .ref x]) (congrArg (fun w9 : Int32 => ([.int w9, .ref x] : List Value)) (nI_add le 2)) ?_
      refine z_aload_n B dX12_putTemplates_68 rfl 2 rfl ?_
      refine z_get (ref := "FlowExporterModel") (C := RX12) (T := TX12) (N := 54) (ci := 14) (v := .int (nI i_2)) B (by decide +kernel) rfl 23 (by decide) (by decide +kernel) rfl h_4 rfl dX12_putTemplates_69 ?_
      refine z_iload_n B dX12_putTemplates_72 rfl 1 rfl ?_
      refine z_isub B dX12_putTemplates_73 ?_
      refine z_top (st1 := [.int (nI (i_2 - le)), .int (nI (le + 2)), .ref x]) (congrArg (fun w9 : Int32 => ([.int w9, .int (nI (le + 2)), .ref x] : List Value)) (nI_sub (show le ≤ i_2 by omega))) ?_
      refine z_callV (As := [.int (nI (le + 2)), .int (nI (i_2 - le))]) (rest := []) B (r_putAt G l Φl1 sz x rd fl pe i_2 nx il kn ec (le + 2) (i_2 - le) hx hI1 (show (le + 2) + 1 < 700 by omega) (show (i_2 - le) ≤ 65535 by omega)) (cwV 2 B.1.2.2.2.2 gX12_putTemplates_X12_putAt rfl rfl rfl (by decide +kernel) ⟨Nat.le_of_ble_eq_true rfl, Nat.le_of_ble_eq_true rfl⟩) h_4 rfl rfl rfl rfl (Nat.le_of_ble_eq_true rfl) dX12_putTemplates_74 ⟨Nat.le_of_ble_eq_true rfl, Nat.le_of_ble_eq_true rfl⟩ (fun r_2 Φ1 sz1 st1 hp1 hs1 => ?_)
      obtain ⟨rfl, hq1, hI2, hF2⟩ := hp1
      subst sz1
      replace hs1 : st1 = [] := hs1
      subst st1
      replace hI2 : Im G x (rd, NN, fl, pe, i_2, nx, il, kn, ec) Φ1 := hI2
      exact z_ret_v B dX12_putTemplates_77 ⟨rfl, rfl, ⟨i_2, (show le ≤ i_2 by omega), (show i_2 ≤ le + 164 by omega), hI2⟩, (fun b9 h9 => ((hF2 b9 (fun j9 h8 h7 => h9 j9 h8 (show j9 = 0 ∨ j9 = 3 ∨ j9 = 4 ∨ j9 = 8 by have h6 : j9 = 8 := h7; omega))).trans ((hF1 b9 (fun j9 h8 h7 => h9 j9 h8 (show j9 = 0 ∨ j9 = 3 ∨ j9 = 4 ∨ j9 = 8 by have h6 : j9 = 0 ∨ j9 = 3 ∨ j9 = 4 ∨ j9 = 8 := h7; omega))).trans rfl)))⟩
  · have e_5 : ¬ (n_11 ≤ i_1) := fun h9 => c_1 ((nI_leI (a := n_11) (b := i_1) (by omega) (by omega)).mpr h9)
    refine z_aload_n B dX12_putTemplates_18 rfl 2 rfl ?_
    refine z_iload_n B dX12_putTemplates_19 rfl 0 rfl ?_
    refine z_callV (As := [.int (nI i_1)]) (rest := []) B (r_due G l Φl1 sz x rd fl pe i_2 nx il kn ec i_1 hx hI1 (show i_1 < 4 by omega)) (cwV 1 B.1.2.2.2.2 gX12_putTemplates_X12_due rfl rfl rfl (by decide +kernel) ⟨Nat.le_of_ble_eq_true rfl, Nat.le_of_ble_eq_true rfl⟩) h_4 rfl rfl rfl rfl (Nat.le_of_ble_eq_true rfl) dX12_putTemplates_20 ⟨Nat.le_of_ble_eq_true rfl, Nat.le_of_ble_eq_true rfl⟩ (fun r_3 Φ2 sz2 st2 hp2 hs2 => ?_)
    obtain ⟨⟨v_35, rfl, b_29⟩, hq2, hI3, hF3⟩ := hp2
    subst sz2
    replace hs2 : st2 = [.int v_35] := hs2
    subst st2
    replace hI3 : Im G x (rd, NN, fl, pe, i_2, nx, il, kn, ec) Φ2 := hI3
    refine z_if_ne (tgt := 29) B dX12_putTemplates_23 rfl (fun c_3 => ?_) (fun c_3 => ?_)
    · refine z_aload_n B dX12_putTemplates_29 rfl 2 rfl ?_
      have h_7 : Φ2 x = some (o_ 14 [.int v_18, .ref (x + 1), .ref (x + 2), .int v_19, .int v_20, .int (nI n_6), .int v_21, .int v_22, .ref (x + 3), .ref (x + 4), .int v_23, .long v_24, .ref (x + 5), .int (nI fl), .int v_25, .long v_26, .long v_27, .long v_28, .long v_29, .ref (x + 6), .ref (x + 7), .int (nI pe), .ref (x + 8), .int (nI i_2), .ref (x + 9), .ref (x + 10), .int (nI n_7), .ref (x + 11), .ref (x + 12), .ref (x + 13), .ref (x + 14), .ref (x + 15), .ref (x + 16), .int (nI n_8), .long v_30, .ref (x + 17), .ref (x + 18), .ref (x + 19), .ref (x + 20), .ref (x + 21), .ref (x + 22), .int (nI n_9), .ref (x + 23), .ref (x + 24), .int (nI n_10), .ref (x + 25), .int (nI il), .int (nI nx), .int ec, .int v_31, .int kn, .int v_32, .int v_33, .long v_34]) := ((hF3 x (fun j9 h8 h7 => (show False from h7).elim)).trans h_4)
      refine z_get (ref := "FlowExporterModel") (C := RX12) (T := TX12) (N := 54) (ci := 14) (v := .int (nI i_2)) B (by decide +kernel) rfl 23 (by decide) (by decide +kernel) rfl h_7 rfl dX12_putTemplates_30 ?_
      refine z_iload_n B dX12_putTemplates_33 rfl 1 rfl ?_
      refine z_icmp_ne (tgt := 45) B dX12_putTemplates_34 rfl (fun c_4 => ?_) (fun c_4 => ?_)
      · have e_6 : ¬ (i_2 = le) := fun h9 => c_4 ((nI_eq (a := i_2) (b := le) (by omega) (by omega)).mpr h9)
        refine z_aload_n B dX12_putTemplates_45 rfl 2 rfl ?_
        refine z_iload_n B dX12_putTemplates_46 rfl 0 rfl ?_
        refine z_callV (As := [.int (nI i_1)]) (rest := []) B (r_putTemplate G l Φ2 sz x rd fl pe i_2 nx il kn ec i_1 hx hI3 (show i_1 < 4 by omega) (show i_2 + 40 ≤ 700 by omega)) (cwV 1 B.1.2.2.2.2 gX12_putTemplates_X12_putTemplate rfl rfl rfl (by decide +kernel) ⟨Nat.le_of_ble_eq_true rfl, Nat.le_of_ble_eq_true rfl⟩) h_7 rfl rfl rfl rfl (Nat.le_of_ble_eq_true rfl) dX12_putTemplates_47 ⟨Nat.le_of_ble_eq_true rfl, Nat.le_of_ble_eq_true rfl⟩ (fun r_4 Φ3 sz3 st3 hp3 hs3 => ?_)
        obtain ⟨rfl, hq3, ⟨n_12, b_30, b_31, hI4⟩, hF4⟩ := hp3
        subst sz3
        replace hs3 : st3 = [] := hs3
        subst st3
        replace hI4 : Im G x (rd, NN, fl, pe, n_12, nx, il, kn, ec) Φ3 := hI4
        replace b_30 : i_2 ≤ n_12 := b_30
        replace b_31 : n_12 ≤ i_2 + 40 := b_31
        refine z_iinc (k := 0) (v := nI (i_1 + 1)) (lv' := [(2, .int (nI (i_1 + 1))), (1, .int (nI le)), (0, .ref x)]) B dX12_putTemplates_50 rfl (nI_add i_1 1) (Nat.le_of_ble_eq_true rfl) rfl ?_
        refine z_goto (tgt := 7) B dX12_putTemplates_53 rfl ?_
        refine z_lv [0, 1, 2] rfl ?_
        exact ih1 (i_1 + 1, n_12) Φ3 (show 4 - (i_1 + 1) < 4 - i_1 by omega) ⟨hI4, (fun b9 h9 => ((hF4 b9 (fun j9 h8 h7 => h9 j9 h8 (show j9 = 0 ∨ j9 = 3 ∨ j9 = 4 ∨ j9 = 8 by have h6 : j9 = 0 ∨ j9 = 3 ∨ j9 = 4 ∨ j9 = 8 := h7; omega))).trans ((hF3 b9 (fun j9 h8 h7 => (show False from h7).elim)).trans ((hF1 b9 (fun j9 h8 h7 => h9 j9 h8 (show j9 = 0 ∨ j9 = 3 ∨ j9 = 4 ∨ j9 = 8 by have h6 : j9 = 0 ∨ j9 = 3 ∨ j9 = 4 ∨ j9 = 8 := h7; omega))).trans rfl)))), (show (i_1 + 1) ≤ 4 by omega), (show le ≤ n_12 by omega), (show n_12 ≤ le + 4 + 40 * (i_1 + 1) by omega), trivial⟩
      · have e_7 : i_2 = le := (nI_eq (a := i_2) (b := le) (by omega) (by omega)).mp c_4
        refine z_aload_n B dX12_putTemplates_37 rfl 2 rfl ?_
        refine z_ldc2 (v := 131072) B (by decide +kernel) dX12_putTemplates_38 ?_
        refine z_iconst (v := 4) B dX12_putTemplates_41 rfl ?_
        refine z_callV (As := [.long 131072, .int 4]) (rest := []) B (r_put G l Φ2 sz x rd fl pe i_2 nx il kn ec 131072 4 hx hI3 (show 4 ≤ 8 by omega) (show i_2 + 4 ≤ 700 by omega)) (cwV 2 B.1.2.2.2.2 gX12_putTemplates_X12_put rfl rfl rfl (by decide +kernel) ⟨Nat.le_of_ble_eq_true rfl, Nat.le_of_ble_eq_true rfl⟩) h_7 rfl rfl rfl rfl (Nat.le_of_ble_eq_true rfl) dX12_putTemplates_42 ⟨Nat.le_of_ble_eq_true rfl, Nat.le_of_ble_eq_true rfl⟩ (fun r_5 Φ4 sz4 st4 hp4 hs4 => ?_)
        obtain ⟨rfl, hq4, ⟨n_13, b_32, hI5⟩, hF5⟩ := hp4
        subst sz4
        replace hs4 : st4 = [] := hs4
        subst st4
        replace hI5 : Im G x (rd, NN, fl, pe, n_13, nx, il, kn, ec) Φ4 := hI5
        replace b_32 : n_13 = i_2 + 4 := b_32
        refine z_aload_n B dX12_putTemplates_45 rfl 2 rfl ?_
        refine z_iload_n B dX12_putTemplates_46 rfl 0 rfl ?_
        obtain ⟨v_36, v_37, v_38, n_14, v_39, v_40, v_41, v_42, v_43, v_44, v_45, v_46, v_47, n_15, n_16, v_48, n_17, n_18, v_49, v_50, v_51, v_52, h_8, b_44, b_33, b_34, b_35, b_36, b_37, b_38, b_39, b_40, b_41, b_42, b_43⟩ := im0 hI5
        replace b_33 : 1 ≤ n_14 := b_33
        replace b_34 : n_14 ≤ 1024 := b_34
        replace b_35 : fl ≤ 12 := b_35
        replace b_36 : pe ≤ 24 := b_36
        replace b_37 : n_13 ≤ 700 := b_37
        replace b_38 : n_15 ≤ 12 := b_38
        replace b_39 : n_16 ≤ 8 := b_39
        replace b_40 : n_17 ≤ 24 := b_40
        replace b_41 : n_18 ≤ 24 := b_41
        replace b_42 : il ≤ 700 := b_42
        replace b_43 : nx ≤ 701 := b_43
        have h_9 : Φ4 x = some (o_ 14 [.int v_36, .ref (x + 1), .ref (x + 2), .int v_37, .int v_38, .int (nI n_14), .int v_39, .int v_40, .ref (x + 3), .ref (x + 4), .int v_41, .long v_42, .ref (x + 5), .int (nI fl), .int v_43, .long v_44, .long v_45, .long v_46, .long v_47, .ref (x + 6), .ref (x + 7), .int (nI pe), .ref (x + 8), .int (nI n_13), .ref (x + 9), .ref (x + 10), .int (nI n_15), .ref (x + 11), .ref (x + 12), .ref (x + 13), .ref (x + 14), .ref (x + 15), .ref (x + 16), .int (nI n_16), .long v_48, .ref (x + 17), .ref (x + 18), .ref (x + 19), .ref (x + 20), .ref (x + 21), .ref (x + 22), .int (nI n_17), .ref (x + 23), .ref (x + 24), .int (nI n_18), .ref (x + 25), .int (nI il), .int (nI nx), .int ec, .int v_49, .int kn, .int v_50, .int v_51, .long v_52]) := h_8
        refine z_callV (As := [.int (nI i_1)]) (rest := []) B (r_putTemplate G l Φ4 sz x rd fl pe n_13 nx il kn ec i_1 hx hI5 (show i_1 < 4 by omega) (show n_13 + 40 ≤ 700 by omega)) (cwV 1 B.1.2.2.2.2 gX12_putTemplates_X12_putTemplate rfl rfl rfl (by decide +kernel) ⟨Nat.le_of_ble_eq_true rfl, Nat.le_of_ble_eq_true rfl⟩) h_9 rfl rfl rfl rfl (Nat.le_of_ble_eq_true rfl) dX12_putTemplates_47 ⟨Nat.le_of_ble_eq_true rfl, Nat.le_of_ble_eq_true rfl⟩ (fun r_6 Φ5 sz5 st5 hp5 hs5 => ?_)
        obtain ⟨rfl, hq5, ⟨n_19, b_45, b_46, hI6⟩, hF6⟩ := hp5
        subst sz5
        replace hs5 : st5 = [] := hs5
        subst st5
        replace hI6 : Im G x (rd, NN, fl, pe, n_19, nx, il, kn, ec) Φ5 := hI6
        replace b_45 : n_13 ≤ n_19 := b_45
        replace b_46 : n_19 ≤ n_13 + 40 := b_46
        refine z_iinc (k := 0) (v := nI (i_1 + 1)) (lv' := [(2, .int (nI (i_1 + 1))), (1, .int (nI le)), (0, .ref x)]) B dX12_putTemplates_50 rfl (nI_add i_1 1) (Nat.le_of_ble_eq_true rfl) rfl ?_
        refine z_goto (tgt := 7) B dX12_putTemplates_53 rfl ?_
        refine z_lv [0, 1, 2] rfl ?_
        exact ih1 (i_1 + 1, n_19) Φ5 (show 4 - (i_1 + 1) < 4 - i_1 by omega) ⟨hI6, (fun b9 h9 => ((hF6 b9 (fun j9 h8 h7 => h9 j9 h8 (show j9 = 0 ∨ j9 = 3 ∨ j9 = 4 ∨ j9 = 8 by have h6 : j9 = 0 ∨ j9 = 3 ∨ j9 = 4 ∨ j9 = 8 := h7; omega))).trans ((hF5 b9 (fun j9 h8 h7 => h9 j9 h8 (show j9 = 0 ∨ j9 = 3 ∨ j9 = 4 ∨ j9 = 8 by have h6 : j9 = 0 ∨ j9 = 8 := h7; omega))).trans ((hF3 b9 (fun j9 h8 h7 => (show False from h7).elim)).trans ((hF1 b9 (fun j9 h8 h7 => h9 j9 h8 (show j9 = 0 ∨ j9 = 3 ∨ j9 = 4 ∨ j9 = 8 by have h6 : j9 = 0 ∨ j9 = 3 ∨ j9 = 4 ∨ j9 = 8 := h7; omega))).trans rfl))))), (show (i_1 + 1) ≤ 4 by omega), (show le ≤ n_19 by omega), (show n_19 ≤ le + 4 + 40 * (i_1 + 1) by omega), trivial⟩
    · refine z_goto (tgt := 50) B dX12_putTemplates_26 rfl ?_
      refine z_iinc (k := 0) (v := nI (i_1 + 1)) (lv' := [(2, .int (nI (i_1 + 1))), (1, .int (nI le)), (0, .ref x)]) B dX12_putTemplates_50 rfl (nI_add i_1 1) (Nat.le_of_ble_eq_true rfl) rfl ?_
      refine z_goto (tgt := 7) B dX12_putTemplates_53 rfl ?_
      refine z_lv [0, 1, 2] rfl ?_
      exact ih1 (i_1 + 1, i_2) Φ2 (show 4 - (i_1 + 1) < 4 - i_1 by omega) ⟨hI3, (fun b9 h9 => ((hF3 b9 (fun j9 h8 h7 => (show False from h7).elim)).trans ((hF1 b9 (fun j9 h8 h7 => h9 j9 h8 (show j9 = 0 ∨ j9 = 3 ∨ j9 = 4 ∨ j9 = 8 by have h6 : j9 = 0 ∨ j9 = 3 ∨ j9 = 4 ∨ j9 = 8 := h7; omega))).trans rfl))), (show (i_1 + 1) ≤ 4 by omega), (show le ≤ i_2 by omega), (show i_2 ≤ le + 4 + 40 * (i_1 + 1) by omega), trivial⟩

set_option maxHeartbeats 4000000 in
set_option maxRecDepth 100000 in
theorem r_putRecords (G : EnvG) (l : Launch) (Φ : Hm) (sz x : Nat) (rd : (Nat → Int32) → Prop) (fl : Nat) (pe : Nat) (le : Nat) (nx : Nat) (il : Nat) (kn : Int32) (ec : Int32) (q : Nat) (hx : G.2.2.2 ≤ x) (hI : Im G x (rd, NN, fl, pe, le, nx, il, kn, ec) Φ) (hq : q < pe) (hl : le ≤ 180) : Ct G l yX12_putRecords wsX12_putRecords ({ frames := 4, cells := 0, slots := 0, locals := 89 }) 0 0 [.ref x, .int (nI q)] Φ sz (fun v Φ1 sz1 => (∃ n9 : Nat, v = some (.int (nI n9)) ∧ q < n9 ∧ n9 ≤ pe) ∧ sz1 = sz ∧ (∃ (le1 : Nat), (le1 ≤ 600) ∧ Im G x (rd, NN, fl, pe, le1, nx, il, kn, ec) Φ1) ∧ Fr x (fun j9 => j9 = 0 ∨ j9 = 8) Φ Φ1) := by
  refine Ct.of (cc := cX12_putRecords) (maxL := 9) (ret := (some .int)) (by decide) rfl (Nat.le_of_ble_eq_true rfl) ?_
  intro p9 e9 s9 m9 w9 t9 k9 B
  show Z p9 l e9 _ s9 m9 _ w9 t9 k9 _ G 9 0 [(0, .ref x), (1, .int (nI q))] [] Φ sz 0 0
  refine z_iconst (v := (-1)) B dX12_putRecords_0 rfl ?_
  refine z_istore_n (lv' := [(2, .int (-1)), (0, .ref x), (1, .int (nI q))]) B dX12_putRecords_1 rfl (Nat.le_of_ble_eq_true rfl) rfl ?_
  refine z_iload_n B dX12_putRecords_2 rfl 2 rfl ?_
  refine z_istore_n (lv' := [(3, .int (nI q)), (2, .int (-1)), (0, .ref x), (1, .int (nI q))]) B dX12_putRecords_3 rfl (Nat.le_of_ble_eq_true rfl) rfl ?_
  refine z_iconst (v := 1) B dX12_putRecords_4 rfl ?_
  refine z_istore (lv' := [(4, .int 1), (3, .int (nI q)), (2, .int (-1)), (0, .ref x), (1, .int (nI q))]) B dX12_putRecords_5 (Nat.le_of_ble_eq_true rfl) rfl ?_
  refine z_lv [0, 1, 2, 3, 4] rfl ?_
  refine z_loop (α := Int32 × Nat × Int32 × Nat) (fun (a9 : Int32 × Nat × Int32 × Nat) Φi => Im G x (rd, NN, fl, pe, a9.2.2.2, nx, il, kn, ec) Φi ∧ Fr x (fun j9 => j9 = 0 ∨ j9 = 8) Φ Φi ∧ (a9.2.1 ≤ pe) ∧ (q ≤ a9.2.1) ∧ (a9.2.2.2 ≤ 600) ∧ (a9.2.2.1 = (-1) ∨ ∃ s9 : Nat, a9.2.2.1 = nI s9 ∧ s9 + 4 ≤ a9.2.2.2) ∧ ((a9.1 = 1 ∧ a9.2.2.1 = (-1) ∧ a9.2.1 = q ∧ a9.2.2.2 ≤ 180) ∨ q < a9.2.1) ∧ True) (fun a9 => [(4, .int a9.1), (3, .int (nI (a9.2.1))), (2, .int a9.2.2.1), (0, .ref x), (1, .int (nI q))]) (fun a9 => (if a9.1 = 0 then 0 else 1) + 2 * (pe - a9.2.1)) ?_ (1, q, (-1), le) ⟨hI, fun _ _ => rfl, (show q ≤ pe by omega), (show q ≤ q by omega), (show le ≤ 600 by omega), (Or.inl rfl), (Or.inl ⟨rfl, rfl, rfl, (show le ≤ 180 by omega)⟩), trivial⟩
  rintro ⟨i_1, i_2, i_3, i_4⟩ Φl1 ⟨hI1, hF1, b_1, b_2, b_3, b_4, b_5, -⟩ ih1
  replace hI1 : Im G x (rd, NN, fl, pe, i_4, nx, il, kn, ec) Φl1 := hI1
  replace b_1 : i_2 ≤ pe := b_1
  replace b_2 : q ≤ i_2 := b_2
  replace b_3 : i_4 ≤ 600 := b_3
  replace b_4 : i_3 = (-1) ∨ ∃ s9 : Nat, i_3 = nI s9 ∧ s9 + 4 ≤ i_4 := b_4
  replace b_5 : (i_1 = 1 ∧ i_3 = (-1) ∧ i_2 = q ∧ i_4 ≤ 180) ∨ q < i_2 := b_5
  show Z p9 l e9 _ s9 m9 _ w9 t9 k9 _ G 9 7 [(4, .int i_1), (3, .int (nI i_2)), (2, .int i_3), (0, .ref x), (1, .int (nI q))] [] Φl1 _ _ _
  refine z_iload B dX12_putRecords_7 0 rfl ?_
  refine z_if_eq (tgt := 185) B dX12_putRecords_9 rfl (fun c_1 => ?_) (fun c_1 => ?_)
  · have b_6 : q < i_2 := by
      rcases b_5 with ⟨h1, -, h3, -⟩ | h
      · exact absurd (h1.symm.trans c_1) (by decide)
      · exact h
    refine z_iload_n B dX12_putRecords_185 rfl 1 rfl ?_
    exact z_ret_i B dX12_putRecords_186 ⟨⟨i_2, rfl, (show {q} < i_2 ∧ i_2 ≤ {pe} by omega)⟩, rfl, ⟨i_4, (show i_4 ≤ 600 by omega), hI1⟩, (fun b9 h9 => ((hF1 b9 (fun j9 h8 h7 => h9 j9 h8 (show j9 = 0 ∨ j9 = 8 by have h6 : j9 = 0 ∨ j9 = 8 := h7; omega))).trans rfl))⟩
  · refine z_iload_n B dX12_putRecords_12 rfl 1 rfl ?_
    refine z_aload_n B dX12_putRecords_13 rfl 3 rfl ?_
    obtain ⟨v_1, v_2, v_3, n_1, v_4, v_5, v_6, v_7, v_8, v_9, v_10, v_11, v_12, n_2, n_3, v_13, n_4, n_5, v_14, v_15, v_16, v_17, h_1, b_18, b_7, b_8, b_9, b_10, b_11, b_12, b_13, b_14, b_15, b_16, b_17⟩ := im0 hI1
    replace b_7 : 1 ≤ n_1 := b_7
    replace b_8 : n_1 ≤ 1024 := b_8
    replace b_9 : fl ≤ 12 := b_9
    replace b_10 : pe ≤ 24 := b_10
    replace b_11 : i_4 ≤ 700 := b_11
    replace b_12 : n_2 ≤ 12 := b_12
    replace b_13 : n_3 ≤ 8 := b_13
    replace b_14 : n_4 ≤ 24 := b_14
    replace b_15 : n_5 ≤ 24 := b_15
    replace b_16 : il ≤ 700 := b_16
    replace b_17 : nx ≤ 701 := b_17
    have h_2 : Φl1 x = some (o_ 14 [.int v_1, .ref (x + 1), .ref (x + 2), .int v_2, .int v_3, .int (nI n_1), .int v_4, .int v_5, .ref (x + 3), .ref (x + 4), .int v_6, .long v_7, .ref (x + 5), .int (nI fl), .int v_8, .long v_9, .long v_10, .long v_11, .long v_12, .ref (x + 6), .ref (x + 7), .int (nI pe), .ref (x + 8), .int (nI i_4), .ref (x + 9), .ref (x + 10), .int (nI n_2), .ref (x + 11), .ref (x + 12), .ref (x + 13), .ref (x + 14), .ref (x + 15), .ref (x + 16), .int (nI n_3), .long v_13, .ref (x + 17), .ref (x + 18), .ref (x + 19), .ref (x + 20), .ref (x + 21), .ref (x + 22), .int (nI n_4), .ref (x + 23), .ref (x + 24), .int (nI n_5), .ref (x + 25), .int (nI il), .int (nI nx), .int ec, .int v_14, .int kn, .int v_15, .int v_16, .long v_17]) := h_1
    refine z_get (ref := "FlowExporterModel") (C := RX12) (T := TX12) (N := 54) (ci := 14) (v := .int (nI pe)) B (by decide +kernel) rfl 21 (by decide) (by decide +kernel) rfl h_2 rfl dX12_putRecords_14 ?_
    refine z_icmp_ge (tgt := 185) B dX12_putRecords_17 rfl (fun c_2 => ?_) (fun c_2 => ?_)
    · have e_1 : pe ≤ i_2 := (nI_leI (a := pe) (b := i_2) (by omega) (by omega)).mp c_2
      have b_19 : q < i_2 := by
        rcases b_5 with ⟨h1, -, h3, -⟩ | h
        · omega
        · exact h
      refine z_iload_n B dX12_putRecords_185 rfl 1 rfl ?_
      exact z_ret_i B dX12_putRecords_186 ⟨⟨i_2, rfl, (show {q} < i_2 ∧ i_2 ≤ {pe} by omega)⟩, rfl, ⟨i_4, (show i_4 ≤ 600 by omega), hI1⟩, (fun b9 h9 => ((hF1 b9 (fun j9 h8 h7 => h9 j9 h8 (show j9 = 0 ∨ j9 = 8 by have h6 : j9 = 0 ∨ j9 = 8 := h7; omega))).trans rfl))⟩
    · have e_2 : ¬ (pe ≤ i_2) := fun h9 => c_2 ((nI_leI (a := pe) (b := i_2) (by omega) (by omega)).mpr h9)
      refine z_aload_n B dX12_putRecords_20 rfl 3 rfl ?_
      refine z_get (ref := "FlowExporterModel") (C := RX12) (T := TX12) (N := 54) (ci := 14) (v := .ref (x + 6)) B (by decide +kernel) rfl 19 (by decide) (by decide +kernel) rfl h_2 rfl dX12_putRecords_21 ?_
      refine z_iload_n B dX12_putRecords_24 rfl 1 rfl ?_
      obtain ⟨f_1, h_3, r_1⟩ := imk (k := 6) hI1
      replace r_1 : Rw 3 f_1 := r_1
      have h_4 : Φl1 (x + 6) = some (ai_ G 24 f_1) := h_3
      refine z_iald B h_4 (vp_in_nI (by omega) (by omega)) dX12_putRecords_25 ?_
      obtain ⟨n_6, b_20, e_3⟩ := r_1 ((nI i_2).toNatClampNeg)
      refine z_top (st1 := [.int (nI n_6)]) (congrArg (fun w9 : Int32 => ([.int w9] : List Value)) (e_3)) ?_
      refine z_istore (lv' := [(5, .int (nI n_6)), (4, .int i_1), (3, .int (nI i_2)), (2, .int i_3), (0, .ref x), (1, .int (nI q))]) B dX12_putRecords_26 (Nat.le_of_ble_eq_true rfl) rfl ?_
      refine z_iload_n B dX12_putRecords_28 rfl 3 rfl ?_
      refine z_iconst (v := (-1)) B dX12_putRecords_29 rfl ?_
      refine z_icmp_eq (tgt := 46) B dX12_putRecords_30 rfl (fun c_3 => ?_) (fun c_3 => ?_)
      · refine z_iconst (v := 1) B dX12_putRecords_46 rfl ?_
        refine z_goto (tgt := 51) B dX12_putRecords_47 rfl ?_
        refine z_istore (lv' := [(6, .int 1), (5, .int (nI n_6)), (4, .int i_1), (3, .int (nI i_2)), (2, .int i_3), (0, .ref x), (1, .int (nI q))]) B dX12_putRecords_51 (Nat.le_of_ble_eq_true rfl) rfl ?_
        refine z_aload_n B dX12_putRecords_53 rfl 5 rfl ?_
        refine z_iload B dX12_putRecords_54 1 rfl ?_
        refine z_callV (As := [.int (nI n_6)]) (rest := []) B (r_recordLengthOf G l Φl1 sz x rd fl pe i_4 nx il kn ec n_6 hx hI1 (show n_6 < 4 by omega)) (cwV 1 B.1.2.2.2.2 gX12_putRecords_X12_recordLengthOf rfl rfl rfl (by decide +kernel) ⟨Nat.le_of_ble_eq_true rfl, Nat.le_of_ble_eq_true rfl⟩) h_2 rfl rfl rfl rfl (Nat.le_of_ble_eq_true rfl) dX12_putRecords_56 ⟨Nat.le_of_ble_eq_true rfl, Nat.le_of_ble_eq_true rfl⟩ (fun r_2 Φ1 sz1 st1 hp1 hs1 => ?_)
        obtain ⟨⟨n_7, rfl, b_21⟩, hq1, hI2, hF2⟩ := hp1
        subst sz1
        replace hs1 : st1 = [.int (nI n_7)] := hs1
        subst st1
        replace b_21 : n_7 ≤ 29 := b_21
        replace hI2 : Im G x (rd, NN, fl, pe, i_4, nx, il, kn, ec) Φ1 := hI2
        refine z_istore (lv' := [(7, .int (nI n_7)), (6, .int 1), (5, .int (nI n_6)), (4, .int i_1), (3, .int (nI i_2)), (2, .int i_3), (0, .ref x), (1, .int (nI q))]) B dX12_putRecords_59 (Nat.le_of_ble_eq_true rfl) rfl ?_
        refine z_aload_n B dX12_putRecords_61 rfl 6 rfl ?_
        have h_5 : Φ1 x = some (o_ 14 [.int v_1, .ref (x + 1), .ref (x + 2), .int v_2, .int v_3, .int (nI n_1), .int v_4, .int v_5, .ref (x + 3), .ref (x + 4), .int v_6, .long v_7, .ref (x + 5), .int (nI fl), .int v_8, .long v_9, .long v_10, .long v_11, .long v_12, .ref (x + 6), .ref (x + 7), .int (nI pe), .ref (x + 8), .int (nI i_4), .ref (x + 9), .ref (x + 10), .int (nI n_2), .ref (x + 11), .ref (x + 12), .ref (x + 13), .ref (x + 14), .ref (x + 15), .ref (x + 16), .int (nI n_3), .long v_13, .ref (x + 17), .ref (x + 18), .ref (x + 19), .ref (x + 20), .ref (x + 21), .ref (x + 22), .int (nI n_4), .ref (x + 23), .ref (x + 24), .int (nI n_5), .ref (x + 25), .int (nI il), .int (nI nx), .int ec, .int v_14, .int kn, .int v_15, .int v_16, .long v_17]) := ((hF2 x (fun j9 h8 h7 => (show False from h7).elim)).trans h_2)
        refine z_get (ref := "FlowExporterModel") (C := RX12) (T := TX12) (N := 54) (ci := 14) (v := .int (nI i_4)) B (by decide +kernel) rfl 23 (by decide) (by decide +kernel) rfl h_5 rfl dX12_putRecords_62 ?_
        refine z_iload B dX12_putRecords_65 0 rfl ?_
        refine z_iadd B dX12_putRecords_67 ?_
        refine z_top (st1 := [.int (nI (i_4 + n_7))]) (congrArg (fun w9 : Int32 => ([.int w9] : List Value)) (nI_add i_4 n_7)) ?_
        refine z_iload B dX12_putRecords_68 1 rfl ?_
        refine z_if_eq (tgt := 77) B dX12_putRecords_70 rfl (fun h9 => absurd h9 (by decide)) (fun c_4 => ?_)
        refine z_iconst (v := 4) B dX12_putRecords_73 rfl ?_
        refine z_goto (tgt := 78) B dX12_putRecords_74 rfl ?_
        refine z_iadd B dX12_putRecords_78 ?_
        refine z_top (st1 := [.int (nI (i_4 + n_7 + 4))]) (congrArg (fun w9 : Int32 => ([.int w9] : List Value)) (nI_add (i_4 + n_7) 4)) ?_
        refine z_aload_n B dX12_putRecords_79 rfl 6 rfl ?_
        refine z_get (ref := "FlowExporterModel") (C := RX12) (T := TX12) (N := 54) (ci := 14) (v := .ref (x + 2)) B (by decide +kernel) rfl 2 (by decide) (by decide +kernel) rfl h_5 rfl dX12_putRecords_80 ?_
        refine z_bipush (v := 7) B dX12_putRecords_83 rfl ?_
        obtain ⟨f_2, h_6, r_3⟩ := imk (k := 2) hI2
        replace r_3 : NN f_2 := r_3
        have h_7 : Φ1 (x + 2) = some (ai_ G 307 f_2) := h_6
        refine z_iald B h_7 (vin rfl) dX12_putRecords_85 ?_
        obtain ⟨n_8, b_22, b_23, e_4⟩ := r_3.2.2.2.1
        refine z_top (st1 := [.int (nI n_8), .int (nI (i_4 + n_7 + 4))]) (congrArg (fun w9 : Int32 => ([.int w9, .int (nI (i_4 + n_7 + 4))] : List Value)) (e_4)) ?_
        refine z_icmp_gt (tgt := 93) B dX12_putRecords_86 rfl (fun c_5 => ?_) (fun c_5 => ?_)
        · have e_5 : n_8 < i_4 + n_7 + 4 := (nI_ltI (a := n_8) (b := i_4 + n_7 + 4) (by omega) (by omega)).mp c_5
          refine z_iconst (v := 0) B dX12_putRecords_93 rfl ?_
          refine z_istore (lv' := [(4, .int 0), (7, .int (nI n_7)), (6, .int 1), (5, .int (nI n_6)), (3, .int (nI i_2)), (2, .int i_3), (0, .ref x), (1, .int (nI q))]) B dX12_putRecords_94 (Nat.le_of_ble_eq_true rfl) rfl ?_
          refine z_iload B dX12_putRecords_96 0 rfl ?_
          refine z_if_ne (tgt := 104) B dX12_putRecords_98 rfl (fun h9 => absurd (by decide) h9) (fun c_6 => ?_)
          refine z_goto (tgt := 7) B dX12_putRecords_101 rfl ?_
          refine z_lv [0, 4, 5, 6, 7] rfl ?_
          exact ih1 (0, i_2, i_3, i_4) Φ1 (by simp only [if_neg c_1]; show (if (0 : Int32) = 0 then 0 else 1) + _ < _; rw [if_pos rfl]; omega) ⟨hI2, (fun b9 h9 => ((hF2 b9 (fun j9 h8 h7 => (show False from h7).elim)).trans ((hF1 b9 (fun j9 h8 h7 => h9 j9 h8 (show j9 = 0 ∨ j9 = 8 by have h6 : j9 = 0 ∨ j9 = 8 := h7; omega))).trans rfl))), (show i_2 ≤ pe by omega), (show q ≤ i_2 by omega), (show i_4 ≤ 600 by omega), (Or.inl c_3), (Or.inr (by rcases b_5 with ⟨h1, h2, h3, h4⟩ | h; first | exact absurd h2 c_3 | (exfalso; omega); exact h)), trivial⟩
        · have e_6 : ¬ (n_8 < i_4 + n_7 + 4) := fun h9 => c_5 ((nI_ltI (a := n_8) (b := i_4 + n_7 + 4) (by omega) (by omega)).mpr h9)
          refine z_iconst (v := 1) B dX12_putRecords_89 rfl ?_
          refine z_goto (tgt := 94) B dX12_putRecords_90 rfl ?_
          refine z_istore (lv' := [(4, .int 1), (7, .int (nI n_7)), (6, .int 1), (5, .int (nI n_6)), (3, .int (nI i_2)), (2, .int i_3), (0, .ref x), (1, .int (nI q))]) B dX12_putRecords_94 (Nat.le_of_ble_eq_true rfl) rfl ?_
          refine z_iload B dX12_putRecords_96 0 rfl ?_
          refine z_if_ne (tgt := 104) B dX12_putRecords_98 rfl (fun c_7 => ?_) (fun h9 => absurd h9 (by decide))
          refine z_iload B dX12_putRecords_104 2 rfl ?_
          refine z_if_eq (tgt := 132) B dX12_putRecords_106 rfl (fun h9 => absurd h9 (by decide)) (fun c_8 => ?_)
          refine z_aload_n B dX12_putRecords_109 rfl 6 rfl ?_
          refine z_get (ref := "FlowExporterModel") (C := RX12) (T := TX12) (N := 54) (ci := 14) (v := .int (nI i_4)) B (by decide +kernel) rfl 23 (by decide) (by decide +kernel) rfl h_5 rfl dX12_putRecords_110 ?_
          refine z_istore_n (lv' := [(2, .int (nI i_4)), (4, .int 1), (7, .int (nI n_7)), (6, .int 1), (5, .int (nI n_6)), (3, .int (nI i_2)), (0, .ref x), (1, .int (nI q))]) B dX12_putRecords_113 rfl (Nat.le_of_ble_eq_true rfl) rfl ?_
          refine z_aload_n B dX12_putRecords_114 rfl 6 rfl ?_
          refine z_sipush (v := 256) B dX12_putRecords_115 rfl ?_
          refine z_iload B dX12_putRecords_118 4 rfl ?_
          refine z_iadd B dX12_putRecords_120 ?_
          refine z_top (st1 := [.int (nI (256 + n_6)), .ref x]) (congrArg (fun w9 : Int32 => ([.int w9, .ref x] : List Value)) (nI_add 256 n_6)) ?_
          refine z_i2l (v := (nI (256 + n_6)).toInt64) B dX12_putRecords_121 rfl ?_
          refine z_iconst (v := 2) B dX12_putRecords_122 rfl ?_
          refine z_callV (As := [.long ((nI (256 + n_6)).toInt64), .int 2]) (rest := []) B (r_put G l Φ1 sz x rd fl pe i_4 nx il kn ec ((nI (256 + n_6)).toInt64) 2 hx hI2 (show 2 ≤ 8 by omega) (show i_4 + 2 ≤ 700 by omega)) (cwV 2 B.1.2.2.2.2 gX12_putRecords_X12_put rfl rfl rfl (by decide +kernel) ⟨Nat.le_of_ble_eq_true rfl, Nat.le_of_ble_eq_true rfl⟩) h_5 rfl rfl rfl rfl (Nat.le_of_ble_eq_true rfl) dX12_putRecords_123 ⟨Nat.le_of_ble_eq_true rfl, Nat.le_of_ble_eq_true rfl⟩ (fun r_4 Φ2 sz2 st2 hp2 hs2 => ?_)
          obtain ⟨rfl, hq2, ⟨n_9, b_24, hI3⟩, hF3⟩ := hp2
          subst sz2
          replace hs2 : st2 = [] := hs2
          subst st2
          replace hI3 : Im G x (rd, NN, fl, pe, n_9, nx, il, kn, ec) Φ2 := hI3
          replace b_24 : n_9 = i_4 + 2 := b_24
          refine z_aload_n B dX12_putRecords_126 rfl 6 rfl ?_
          refine z_lconst (v := 0) B dX12_putRecords_127 rfl ?_
          refine z_iconst (v := 2) B dX12_putRecords_128 rfl ?_
          obtain ⟨v_18, v_19, v_20, n_10, v_21, v_22, v_23, v_24, v_25, v_26, v_27, v_28, v_29, n_11, n_12, v_30, n_13, n_14, v_31, v_32, v_33, v_34, h_8, b_36, b_25, b_26, b_27, b_28, b_29, b_30, b_31, b_32, b_33, b_34, b_35⟩ := im0 hI3
          replace b_25 : 1 ≤ n_10 := b_25
          replace b_26 : n_10 ≤ 1024 := b_26
          replace b_27 : fl ≤ 12 := b_27
          replace b_28 : pe ≤ 24 := b_28
          replace b_29 : n_9 ≤ 700 := b_29
          replace b_30 : n_11 ≤ 12 := b_30
          replace b_31 : n_12 ≤ 8 := b_31
          replace b_32 : n_13 ≤ 24 := b_32
          replace b_33 : n_14 ≤ 24 := b_33
          replace b_34 : il ≤ 700 := b_34
          replace b_35 : nx ≤ 701 := b_35
          have h_9 : Φ2 x = some (o_ 14 [.int v_18, .ref (x + 1), .ref (x + 2), .int v_19, .int v_20, .int (nI n_10), .int v_21, .int v_22, .ref (x + 3), .ref (x + 4), .int v_23, .long v_24, .ref (x + 5), .int (nI fl), .int v_25, .long v_26, .long v_27, .long v_28, .long v_29, .ref (x + 6), .ref (x + 7), .int (nI pe), .ref (x + 8), .int (nI n_9), .ref (x + 9), .ref (x + 10), .int (nI n_11), .ref (x + 11), .ref (x + 12), .ref (x + 13), .ref (x + 14), .ref (x + 15), .ref (x + 16), .int (nI n_12), .long v_30, .ref (x + 17), .ref (x + 18), .ref (x + 19), .ref (x + 20), .ref (x + 21), .ref (x + 22), .int (nI n_13), .ref (x + 23), .ref (x + 24), .int (nI n_14), .ref (x + 25), .int (nI il), .int (nI nx), .int ec, .int v_31, .int kn, .int v_32, .int v_33, .long v_34]) := h_8
          refine z_callV (As := [.long 0, .int 2]) (rest := []) B (r_put G l Φ2 sz x rd fl pe n_9 nx il kn ec 0 2 hx hI3 (show 2 ≤ 8 by omega) (show n_9 + 2 ≤ 700 by omega)) (cwV 2 B.1.2.2.2.2 gX12_putRecords_X12_put rfl rfl rfl (by decide +kernel) ⟨Nat.le_of_ble_eq_true rfl, Nat.le_of_ble_eq_true rfl⟩) h_9 rfl rfl rfl rfl (Nat.le_of_ble_eq_true rfl) dX12_putRecords_129 ⟨Nat.le_of_ble_eq_true rfl, Nat.le_of_ble_eq_true rfl⟩ (fun r_5 Φ3 sz3 st3 hp3 hs3 => ?_)
          obtain ⟨rfl, hq3, ⟨n_15, b_37, hI4⟩, hF4⟩ := hp3
          subst sz3
          replace hs3 : st3 = [] := hs3
          subst st3
          replace hI4 : Im G x (rd, NN, fl, pe, n_15, nx, il, kn, ec) Φ3 := hI4
          replace b_37 : n_15 = n_9 + 2 := b_37
          refine z_iconst (v := 0) B dX12_putRecords_132 rfl ?_
          refine z_istore (lv' := [(8, .int 0), (2, .int (nI i_4)), (4, .int 1), (7, .int (nI n_7)), (6, .int 1), (5, .int (nI n_6)), (3, .int (nI i_2)), (0, .ref x), (1, .int (nI q))]) B dX12_putRecords_133 (Nat.le_of_ble_eq_true rfl) rfl ?_
          refine z_lv [0, 1, 2, 3, 4, 5, 6, 7, 8] rfl ?_
          refine z_loop (α := Nat × Nat) (fun (a9 : Nat × Nat) Φi => Im G x (rd, NN, fl, pe, a9.2, nx, il, kn, ec) Φi ∧ Fr x (fun j9 => j9 = 0 ∨ j9 = 8) Φ3 Φi ∧ (a9.1 ≤ n_7) ∧ (a9.2 = n_15 + a9.1) ∧ True) (fun a9 => [(8, .int (nI (a9.1))), (2, .int (nI i_4)), (4, .int 1), (7, .int (nI n_7)), (6, .int 1), (5, .int (nI n_6)), (3, .int (nI i_2)), (0, .ref x), (1, .int (nI q))]) (fun a9 => n_7 - a9.1) ?_ (0, n_15) ⟨hI4, fun _ _ => rfl, (show 0 ≤ n_7 by omega), (show n_15 = n_15 + 0 by omega), trivial⟩
          rintro ⟨i_5, i_6⟩ Φl2 ⟨hI5, hF5, b_38, b_39, -⟩ ih2
          replace hI5 : Im G x (rd, NN, fl, pe, i_6, nx, il, kn, ec) Φl2 := hI5
          replace b_38 : i_5 ≤ n_7 := b_38
          replace b_39 : i_6 = n_15 + i_5 := b_39
          show Z p9 l e9 _ s9 m9 _ w9 t9 k9 _ G 9 135 [(8, .int (nI i_5)), (2, .int (nI i_4)), (4, .int 1), (7, .int (nI n_7)), (6, .int 1), (5, .int (nI n_6)), (3, .int (nI i_2)), (0, .ref x), (1, .int (nI q))] [] Φl2 _ _ _
          refine z_iload B dX12_putRecords_135 0 rfl ?_
          refine z_iload B dX12_putRecords_137 3 rfl ?_
          refine z_icmp_ge (tgt := 166) B dX12_putRecords_139 rfl (fun c_9 => ?_) (fun c_9 => ?_)
          · have e_7 : n_7 ≤ i_5 := (nI_leI (a := n_7) (b := i_5) (by omega) (by omega)).mp c_9
            refine z_aload_n B dX12_putRecords_166 rfl 7 rfl ?_
            refine z_iload_n B dX12_putRecords_167 rfl 1 rfl ?_
            refine z_iconst (v := 2) B dX12_putRecords_168 rfl ?_
            refine z_iadd B dX12_putRecords_169 ?_
            refine z_top (st1 := [.int (nI (i_4 + 2)), .ref x]) (congrArg (fun w9 : Int32 => ([.int w9, .ref x] : List Value)) (nI_add i_4 2)) ?_
            refine z_aload_n B dX12_putRecords_170 rfl 7 rfl ?_
            obtain ⟨v_35, v_36, v_37, n_16, v_38, v_39, v_40, v_41, v_42, v_43, v_44, v_45, v_46, n_17, n_18, v_47, n_19, n_20, v_48, v_49, v_50, v_51, h_10, b_51, b_40, b_41, b_42, b_43, b_44, b_45, b_46, b_47, b_48, b_49, b_50⟩ := im0 hI5
            replace b_40 : 1 ≤ n_16 := b_40
            replace b_41 : n_16 ≤ 1024 := b_41
            replace b_42 : fl ≤ 12 := b_42
            replace b_43 : pe ≤ 24 := b_43
            replace b_44 : i_6 ≤ 700 := b_44
            replace b_45 : n_17 ≤ 12 := b_45
            replace b_46 : n_18 ≤ 8 := b_46
            replace b_47 : n_19 ≤ 24 := b_47
            replace b_48 : n_20 ≤ 24 := b_48
            replace b_49 : il ≤ 700 := b_49
            replace b_50 : nx ≤ 701 := b_50
            have h_11 : Φl2 x = some (o_ 14 [.int v_35, .ref (x + 1), .ref (x + 2), .int v_36, .int v_37, .int (nI n_16), .int v_38, .int v_39, .ref (x + 3), .ref (x + 4), .int v_40, .long v_41, .ref (x + 5), .int (nI fl), .int v_42, .long v_43, .long v_44, .long v_45, .long v_46, .ref (x + 6), .ref (x + 7), .int (nI pe), .ref (x + 8), .int (nI i_6), .ref (x + 9), .ref (x + 10), .int (nI n_17), .ref (x + 11), .ref (x + 12), .ref (x + 13), .ref (x + 14), .ref (x + 15), .ref (x + 16), .int (nI n_18), .long v_47, .ref (x + 17), .ref (x + 18), .ref (x + 19), .ref (x + 20), .ref (x + 21), .ref (x + 22), .int (nI n_19), .ref (x + 23), .ref (x + 24), .int (nI n_20), .ref (x + 25), .int (nI il), .int (nI nx), .int ec, .int v_48, .int kn, .int v_49, .int v_50, .long v_51]) := h_10
            refine z_get (ref := "FlowExporterModel") (C := RX12) (T := TX12) (N := 54) (ci := 14) (v := .int (nI i_6)) B (by decide +kernel) rfl 23 (by decide) (by decide +kernel) rfl h_11 rfl dX12_putRecords_171 ?_
            refine z_iload_n B dX12_putRecords_174 rfl 1 rfl ?_
            refine z_isub B dX12_putRecords_175 ?_
            refine z_top (st1 := [.int (nI (i_6 - i_4)), .int (nI (i_4 + 2)), .ref x]) (congrArg (fun w9 : Int32 => ([.int w9, .int (nI (i_4 + 2)), .ref x] : List Value)) (nI_sub (show i_4 ≤ i_6 by omega))) ?_
            refine z_callV (As := [.int (nI (i_4 + 2)), .int (nI (i_6 - i_4))]) (rest := []) B (r_putAt G l Φl2 sz x rd fl pe i_6 nx il kn ec (i_4 + 2) (i_6 - i_4) hx hI5 (show (i_4 + 2) + 1 < 700 by omega) (show (i_6 - i_4) ≤ 65535 by omega)) (cwV 2 B.1.2.2.2.2 gX12_putRecords_X12_putAt rfl rfl rfl (by decide +kernel) ⟨Nat.le_of_ble_eq_true rfl, Nat.le_of_ble_eq_true rfl⟩) h_11 rfl rfl rfl rfl (Nat.le_of_ble_eq_true rfl) dX12_putRecords_176 ⟨Nat.le_of_ble_eq_true rfl, Nat.le_of_ble_eq_true rfl⟩ (fun r_6 Φ4 sz4 st4 hp4 hs4 => ?_)
            obtain ⟨rfl, hq4, hI6, hF6⟩ := hp4
            subst sz4
            replace hs4 : st4 = [] := hs4
            subst st4
            replace hI6 : Im G x (rd, NN, fl, pe, i_6, nx, il, kn, ec) Φ4 := hI6
            refine z_iinc (k := 6) (v := nI (i_2 + 1)) (lv' := [(3, .int (nI (i_2 + 1))), (8, .int (nI i_5)), (2, .int (nI i_4)), (4, .int 1), (7, .int (nI n_7)), (6, .int 1), (5, .int (nI n_6)), (0, .ref x), (1, .int (nI q))]) B dX12_putRecords_179 rfl (nI_add i_2 1) (Nat.le_of_ble_eq_true rfl) rfl ?_
            refine z_goto (tgt := 7) B dX12_putRecords_182 rfl ?_
            refine z_lv [3, 0, 2, 7, 8] rfl ?_
            exact ih1 (1, i_2 + 1, nI i_4, i_6) Φ4 (by simp only [if_neg c_1]; show (if (1 : Int32) = 0 then 0 else 1) + _ < _; rw [if_neg (by decide)]; omega) ⟨hI6, (fun b9 h9 => ((hF6 b9 (fun j9 h8 h7 => h9 j9 h8 (show j9 = 0 ∨ j9 = 8 by have h6 : j9 = 8 := h7; omega))).trans ((hF5 b9 (fun j9 h8 h7 => h9 j9 h8 (show j9 = 0 ∨ j9 = 8 by have h6 : j9 = 0 ∨ j9 = 8 := h7; omega))).trans ((hF4 b9 (fun j9 h8 h7 => h9 j9 h8 (show j9 = 0 ∨ j9 = 8 by have h6 : j9 = 0 ∨ j9 = 8 := h7; omega))).trans ((hF3 b9 (fun j9 h8 h7 => h9 j9 h8 (show j9 = 0 ∨ j9 = 8 by have h6 : j9 = 0 ∨ j9 = 8 := h7; omega))).trans ((hF2 b9 (fun j9 h8 h7 => (show False from h7).elim)).trans ((hF1 b9 (fun j9 h8 h7 => h9 j9 h8 (show j9 = 0 ∨ j9 = 8 by have h6 : j9 = 0 ∨ j9 = 8 := h7; omega))).trans rfl))))))), (show (i_2 + 1) ≤ pe by omega), (show q ≤ (i_2 + 1) by omega), (show i_6 ≤ 600 by omega), (Or.inr ⟨i_4, rfl, (show i_4 + 4 ≤ i_6 by omega)⟩), (Or.inr (show q < i_2 + 1 by omega)), trivial⟩
          · have e_8 : ¬ (n_7 ≤ i_5) := fun h9 => c_9 ((nI_leI (a := n_7) (b := i_5) (by omega) (by omega)).mpr h9)
            refine z_aload_n B dX12_putRecords_142 rfl 7 rfl ?_
            refine z_aload_n B dX12_putRecords_143 rfl 7 rfl ?_
            obtain ⟨v_52, v_53, v_54, n_21, v_55, v_56, v_57, v_58, v_59, v_60, v_61, v_62, v_63, n_22, n_23, v_64, n_24, n_25, v_65, v_66, v_67, v_68, h_12, b_63, b_52, b_53, b_54, b_55, b_56, b_57, b_58, b_59, b_60, b_61, b_62⟩ := im0 hI5
            replace b_52 : 1 ≤ n_21 := b_52
            replace b_53 : n_21 ≤ 1024 := b_53
            replace b_54 : fl ≤ 12 := b_54
            replace b_55 : pe ≤ 24 := b_55
            replace b_56 : i_6 ≤ 700 := b_56
            replace b_57 : n_22 ≤ 12 := b_57
            replace b_58 : n_23 ≤ 8 := b_58
            replace b_59 : n_24 ≤ 24 := b_59
            replace b_60 : n_25 ≤ 24 := b_60
            replace b_61 : il ≤ 700 := b_61
            replace b_62 : nx ≤ 701 := b_62
            have h_13 : Φl2 x = some (o_ 14 [.int v_52, .ref (x + 1), .ref (x + 2), .int v_53, .int v_54, .int (nI n_21), .int v_55, .int v_56, .ref (x + 3), .ref (x + 4), .int v_57, .long v_58, .ref (x + 5), .int (nI fl), .int v_59, .long v_60, .long v_61, .long v_62, .long v_63, .ref (x + 6), .ref (x + 7), .int (nI pe), .ref (x + 8), .int (nI i_6), .ref (x + 9), .ref (x + 10), .int (nI n_22), .ref (x + 11), .ref (x + 12), .ref (x + 13), .ref (x + 14), .ref (x + 15), .ref (x + 16), .int (nI n_23), .long v_64, .ref (x + 17), .ref (x + 18), .ref (x + 19), .ref (x + 20), .ref (x + 21), .ref (x + 22), .int (nI n_24), .ref (x + 23), .ref (x + 24), .int (nI n_25), .ref (x + 25), .int (nI il), .int (nI nx), .int ec, .int v_65, .int kn, .int v_66, .int v_67, .long v_68]) := h_12
            refine z_get (ref := "FlowExporterModel") (C := RX12) (T := TX12) (N := 54) (ci := 14) (v := .ref (x + 7)) B (by decide +kernel) rfl 20 (by decide) (by decide +kernel) rfl h_13 rfl dX12_putRecords_144 ?_
            refine z_bipush (v := 30) B dX12_putRecords_147 rfl ?_
            refine z_iload_n B dX12_putRecords_149 rfl 6 rfl ?_
            refine z_imul B dX12_putRecords_150 ?_
            refine z_top (st1 := [.int (nI (30 * i_2)), .ref (x + 7), .ref x]) (congrArg (fun w9 : Int32 => ([.int w9, .ref (x + 7), .ref x] : List Value)) (nI_mul 30 i_2)) ?_
            refine z_iload B dX12_putRecords_151 0 rfl ?_
            refine z_iadd B dX12_putRecords_153 ?_
            refine z_top (st1 := [.int (nI (30 * i_2 + i_5)), .ref (x + 7), .ref x]) (congrArg (fun w9 : Int32 => ([.int w9, .ref (x + 7), .ref x] : List Value)) (nI_add (30 * i_2) i_5)) ?_
            obtain ⟨f_3, h_14⟩ := imk (k := 7) hI5
            have h_15 : Φl2 (x + 7) = some (ai_ G 720 f_3) := h_14
            refine z_iald B h_15 (vp_in_nI (by omega) (by omega)) dX12_putRecords_154 ?_
            refine z_fi (fun v_69 => ?_)
            refine z_i2l (v := v_69.toInt64) B dX12_putRecords_155 rfl ?_
            refine z_iconst (v := 1) B dX12_putRecords_156 rfl ?_
            refine z_callV (As := [.long v_69.toInt64, .int 1]) (rest := []) B (r_put G l Φl2 sz x rd fl pe i_6 nx il kn ec v_69.toInt64 1 hx hI5 (show 1 ≤ 8 by omega) (show i_6 + 1 ≤ 700 by omega)) (cwV 2 B.1.2.2.2.2 gX12_putRecords_X12_put rfl rfl rfl (by decide +kernel) ⟨Nat.le_of_ble_eq_true rfl, Nat.le_of_ble_eq_true rfl⟩) h_13 rfl rfl rfl rfl (Nat.le_of_ble_eq_true rfl) dX12_putRecords_157 ⟨Nat.le_of_ble_eq_true rfl, Nat.le_of_ble_eq_true rfl⟩ (fun r_8 Φ5 sz5 st5 hp5 hs5 => ?_)
            obtain ⟨rfl, hq5, ⟨n_26, b_64, hI7⟩, hF7⟩ := hp5
            subst sz5
            replace hs5 : st5 = [] := hs5
            subst st5
            replace hI7 : Im G x (rd, NN, fl, pe, n_26, nx, il, kn, ec) Φ5 := hI7
            replace b_64 : n_26 = i_6 + 1 := b_64
            refine z_iinc (k := 0) (v := nI (i_5 + 1)) (lv' := [(8, .int (nI (i_5 + 1))), (2, .int (nI i_4)), (4, .int 1), (7, .int (nI n_7)), (6, .int 1), (5, .int (nI n_6)), (3, .int (nI i_2)), (0, .ref x), (1, .int (nI q))]) B dX12_putRecords_160 rfl (nI_add i_5 1) (Nat.le_of_ble_eq_true rfl) rfl ?_
            refine z_goto (tgt := 135) B dX12_putRecords_163 rfl ?_
            refine z_lv [0, 1, 2, 3, 4, 5, 6, 7, 8] rfl ?_
            exact ih2 (i_5 + 1, n_26) Φ5 (show n_7 - (i_5 + 1) < n_7 - i_5 by omega) ⟨hI7, (fun b9 h9 => ((hF7 b9 (fun j9 h8 h7 => h9 j9 h8 (show j9 = 0 ∨ j9 = 8 by have h6 : j9 = 0 ∨ j9 = 8 := h7; omega))).trans ((hF5 b9 (fun j9 h8 h7 => h9 j9 h8 (show j9 = 0 ∨ j9 = 8 by have h6 : j9 = 0 ∨ j9 = 8 := h7; omega))).trans rfl))), (show (i_5 + 1) ≤ n_7 by omega), (show n_26 = n_15 + (i_5 + 1) by omega), trivial⟩
      · have b_66 : q < i_2 := by
          rcases b_5 with ⟨-, h2, -, -⟩ | h
          · exact absurd h2 c_3
          · exact h
        obtain ⟨n_27, rfl, b_65⟩ := Or.resolve_left b_4 c_3
        refine z_iload B dX12_putRecords_33 0 rfl ?_
        refine z_aload_n B dX12_putRecords_35 rfl 4 rfl ?_
        refine z_get (ref := "FlowExporterModel") (C := RX12) (T := TX12) (N := 54) (ci := 14) (v := .ref (x + 6)) B (by decide +kernel) rfl 19 (by decide) (by decide +kernel) rfl h_2 rfl dX12_putRecords_36 ?_
        refine z_iload_n B dX12_putRecords_39 rfl 2 rfl ?_
        refine z_iconst (v := 1) B dX12_putRecords_40 rfl ?_
        refine z_isub B dX12_putRecords_41 ?_
        refine z_top (st1 := [.int (nI (i_2 - 1)), .ref (x + 6), .int (nI n_6)]) (congrArg (fun w9 : Int32 => ([.int w9, .ref (x + 6), .int (nI n_6)] : List Value)) (nI_sub (show 1 ≤ i_2 by omega))) ?_
        refine z_iald B h_4 (vp_in_nI (by omega) (by omega)) dX12_putRecords_42 ?_
        obtain ⟨n_28, b_67, e_9⟩ := r_1 ((nI (i_2 - 1)).toNatClampNeg)
        refine z_top (st1 := [.int (nI n_28), .int (nI n_6)]) (congrArg (fun w9 : Int32 => ([.int w9, .int (nI n_6)] : List Value)) (e_9)) ?_
        refine z_icmp_eq (tgt := 50) B dX12_putRecords_43 rfl (fun c_10 => ?_) (fun c_10 => ?_)
        · have e_10 : n_6 = n_28 := (nI_eq (a := n_6) (b := n_28) (by omega) (by omega)).mp c_10
          refine z_iconst (v := 0) B dX12_putRecords_50 rfl ?_
          refine z_istore (lv' := [(6, .int 0), (5, .int (nI n_6)), (4, .int i_1), (3, .int (nI i_2)), (2, .int (nI n_27)), (0, .ref x), (1, .int (nI q))]) B dX12_putRecords_51 (Nat.le_of_ble_eq_true rfl) rfl ?_
          refine z_aload_n B dX12_putRecords_53 rfl 5 rfl ?_
          refine z_iload B dX12_putRecords_54 1 rfl ?_
          refine z_callV (As := [.int (nI n_6)]) (rest := []) B (r_recordLengthOf G l Φl1 sz x rd fl pe i_4 nx il kn ec n_6 hx hI1 (show n_6 < 4 by omega)) (cwV 1 B.1.2.2.2.2 gX12_putRecords_X12_recordLengthOf rfl rfl rfl (by decide +kernel) ⟨Nat.le_of_ble_eq_true rfl, Nat.le_of_ble_eq_true rfl⟩) h_2 rfl rfl rfl rfl (Nat.le_of_ble_eq_true rfl) dX12_putRecords_56 ⟨Nat.le_of_ble_eq_true rfl, Nat.le_of_ble_eq_true rfl⟩ (fun r_9 Φ6 sz6 st6 hp6 hs6 => ?_)
          obtain ⟨⟨n_29, rfl, b_68⟩, hq6, hI8, hF8⟩ := hp6
          subst sz6
          replace hs6 : st6 = [.int (nI n_29)] := hs6
          subst st6
          replace b_68 : n_29 ≤ 29 := b_68
          replace hI8 : Im G x (rd, NN, fl, pe, i_4, nx, il, kn, ec) Φ6 := hI8
          refine z_istore (lv' := [(7, .int (nI n_29)), (6, .int 0), (5, .int (nI n_6)), (4, .int i_1), (3, .int (nI i_2)), (2, .int (nI n_27)), (0, .ref x), (1, .int (nI q))]) B dX12_putRecords_59 (Nat.le_of_ble_eq_true rfl) rfl ?_
          refine z_aload_n B dX12_putRecords_61 rfl 6 rfl ?_
          have h_16 : Φ6 x = some (o_ 14 [.int v_1, .ref (x + 1), .ref (x + 2), .int v_2, .int v_3, .int (nI n_1), .int v_4, .int v_5, .ref (x + 3), .ref (x + 4), .int v_6, .long v_7, .ref (x + 5), .int (nI fl), .int v_8, .long v_9, .long v_10, .long v_11, .long v_12, .ref (x + 6), .ref (x + 7), .int (nI pe), .ref (x + 8), .int (nI i_4), .ref (x + 9), .ref (x + 10), .int (nI n_2), .ref (x + 11), .ref (x + 12), .ref (x + 13), .ref (x + 14), .ref (x + 15), .ref (x + 16), .int (nI n_3), .long v_13, .ref (x + 17), .ref (x + 18), .ref (x + 19), .ref (x + 20), .ref (x + 21), .ref (x + 22), .int (nI n_4), .ref (x + 23), .ref (x + 24), .int (nI n_5), .ref (x + 25), .int (nI il), .int (nI nx), .int ec, .int v_14, .int kn, .int v_15, .int v_16, .long v_17]) := ((hF8 x (fun j9 h8 h7 => (show False from h7).elim)).trans h_2)
          refine z_get (ref := "FlowExporterModel") (C := RX12) (T := TX12) (N := 54) (ci := 14) (v := .int (nI i_4)) B (by decide +kernel) rfl 23 (by decide) (by decide +kernel) rfl h_16 rfl dX12_putRecords_62 ?_
          refine z_iload B dX12_putRecords_65 0 rfl ?_
          refine z_iadd B dX12_putRecords_67 ?_
          refine z_top (st1 := [.int (nI (i_4 + n_29))]) (congrArg (fun w9 : Int32 => ([.int w9] : List Value)) (nI_add i_4 n_29)) ?_
          refine z_iload B dX12_putRecords_68 1 rfl ?_
          refine z_if_eq (tgt := 77) B dX12_putRecords_70 rfl (fun c_11 => ?_) (fun h9 => absurd (by decide) h9)
          refine z_iconst (v := 0) B dX12_putRecords_77 rfl ?_
          refine z_iadd B dX12_putRecords_78 ?_
          refine z_top (st1 := [.int (nI (i_4 + n_29 + 0))]) (congrArg (fun w9 : Int32 => ([.int w9] : List Value)) (nI_add (i_4 + n_29) 0)) ?_
          refine z_aload_n B dX12_putRecords_79 rfl 6 rfl ?_
          refine z_get (ref := "FlowExporterModel") (C := RX12) (T := TX12) (N := 54) (ci := 14) (v := .ref (x + 2)) B (by decide +kernel) rfl 2 (by decide) (by decide +kernel) rfl h_16 rfl dX12_putRecords_80 ?_
          refine z_bipush (v := 7) B dX12_putRecords_83 rfl ?_
          obtain ⟨f_4, h_17, r_10⟩ := imk (k := 2) hI8
          replace r_10 : NN f_4 := r_10
          have h_18 : Φ6 (x + 2) = some (ai_ G 307 f_4) := h_17
          refine z_iald B h_18 (vin rfl) dX12_putRecords_85 ?_
          obtain ⟨n_30, b_69, b_70, e_11⟩ := r_10.2.2.2.1
          refine z_top (st1 := [.int (nI n_30), .int (nI (i_4 + n_29 + 0))]) (congrArg (fun w9 : Int32 => ([.int w9, .int (nI (i_4 + n_29 + 0))] : List Value)) (e_11)) ?_
          refine z_icmp_gt (tgt := 93) B dX12_putRecords_86 rfl (fun c_12 => ?_) (fun c_12 => ?_)
          · have e_12 : n_30 < i_4 + n_29 + 0 := (nI_ltI (a := n_30) (b := i_4 + n_29 + 0) (by omega) (by omega)).mp c_12
            refine z_iconst (v := 0) B dX12_putRecords_93 rfl ?_
            refine z_istore (lv' := [(4, .int 0), (7, .int (nI n_29)), (6, .int 0), (5, .int (nI n_6)), (3, .int (nI i_2)), (2, .int (nI n_27)), (0, .ref x), (1, .int (nI q))]) B dX12_putRecords_94 (Nat.le_of_ble_eq_true rfl) rfl ?_
            refine z_iload B dX12_putRecords_96 0 rfl ?_
            refine z_if_ne (tgt := 104) B dX12_putRecords_98 rfl (fun h9 => absurd (by decide) h9) (fun c_13 => ?_)
            refine z_goto (tgt := 7) B dX12_putRecords_101 rfl ?_
            refine z_lv [0, 4, 5, 6, 7] rfl ?_
            exact ih1 (0, i_2, nI n_27, i_4) Φ6 (by simp only [if_neg c_1]; show (if (0 : Int32) = 0 then 0 else 1) + _ < _; rw [if_pos rfl]; omega) ⟨hI8, (fun b9 h9 => ((hF8 b9 (fun j9 h8 h7 => (show False from h7).elim)).trans ((hF1 b9 (fun j9 h8 h7 => h9 j9 h8 (show j9 = 0 ∨ j9 = 8 by have h6 : j9 = 0 ∨ j9 = 8 := h7; omega))).trans rfl))), (show i_2 ≤ pe by omega), (show q ≤ i_2 by omega), (show i_4 ≤ 600 by omega), (Or.inr ⟨n_27, rfl, (show n_27 + 4 ≤ i_4 by omega)⟩), (Or.inr (by rcases b_5 with ⟨h1, h2, h3, h4⟩ | h; first | exact absurd h2 c_3 | (exfalso; omega); exact h)), trivial⟩
          · have e_13 : ¬ (n_30 < i_4 + n_29 + 0) := fun h9 => c_12 ((nI_ltI (a := n_30) (b := i_4 + n_29 + 0) (by omega) (by omega)).mpr h9)
            refine z_iconst (v := 1) B dX12_putRecords_89 rfl ?_
            refine z_goto (tgt := 94) B dX12_putRecords_90 rfl ?_
            refine z_istore (lv' := [(4, .int 1), (7, .int (nI n_29)), (6, .int 0), (5, .int (nI n_6)), (3, .int (nI i_2)), (2, .int (nI n_27)), (0, .ref x), (1, .int (nI q))]) B dX12_putRecords_94 (Nat.le_of_ble_eq_true rfl) rfl ?_
            refine z_iload B dX12_putRecords_96 0 rfl ?_
            refine z_if_ne (tgt := 104) B dX12_putRecords_98 rfl (fun c_14 => ?_) (fun h9 => absurd h9 (by decide))
            refine z_iload B dX12_putRecords_104 2 rfl ?_
            refine z_if_eq (tgt := 132) B dX12_putRecords_106 rfl (fun c_15 => ?_) (fun h9 => absurd (by decide) h9)
            refine z_iconst (v := 0) B dX12_putRecords_132 rfl ?_
            refine z_istore (lv' := [(8, .int 0), (4, .int 1), (7, .int (nI n_29)), (6, .int 0), (5, .int (nI n_6)), (3, .int (nI i_2)), (2, .int (nI n_27)), (0, .ref x), (1, .int (nI q))]) B dX12_putRecords_133 (Nat.le_of_ble_eq_true rfl) rfl ?_
            refine z_lv [0, 1, 2, 3, 4, 5, 6, 7, 8] rfl ?_
            refine z_loop (α := Nat × Nat) (fun (a9 : Nat × Nat) Φi => Im G x (rd, NN, fl, pe, a9.2, nx, il, kn, ec) Φi ∧ Fr x (fun j9 => j9 = 0 ∨ j9 = 8) Φ6 Φi ∧ (a9.1 ≤ n_29) ∧ (a9.2 = i_4 + a9.1) ∧ True) (fun a9 => [(8, .int (nI (a9.1))), (4, .int 1), (7, .int (nI n_29)), (6, .int 0), (5, .int (nI n_6)), (3, .int (nI i_2)), (2, .int (nI n_27)), (0, .ref x), (1, .int (nI q))]) (fun a9 => n_29 - a9.1) ?_ (0, i_4) ⟨hI8, fun _ _ => rfl, (show 0 ≤ n_29 by omega), (show i_4 = i_4 + 0 by omega), trivial⟩
            rintro ⟨i_7, i_8⟩ Φl3 ⟨hI9, hF9, b_71, b_72, -⟩ ih3
            replace hI9 : Im G x (rd, NN, fl, pe, i_8, nx, il, kn, ec) Φl3 := hI9
            replace b_71 : i_7 ≤ n_29 := b_71
            replace b_72 : i_8 = i_4 + i_7 := b_72
            show Z p9 l e9 _ s9 m9 _ w9 t9 k9 _ G 9 135 [(8, .int (nI i_7)), (4, .int 1), (7, .int (nI n_29)), (6, .int 0), (5, .int (nI n_6)), (3, .int (nI i_2)), (2, .int (nI n_27)), (0, .ref x), (1, .int (nI q))] [] Φl3 _ _ _
            refine z_iload B dX12_putRecords_135 0 rfl ?_
            refine z_iload B dX12_putRecords_137 2 rfl ?_
            refine z_icmp_ge (tgt := 166) B dX12_putRecords_139 rfl (fun c_16 => ?_) (fun c_16 => ?_)
            · have e_14 : n_29 ≤ i_7 := (nI_leI (a := n_29) (b := i_7) (by omega) (by omega)).mp c_16
              refine z_aload_n B dX12_putRecords_166 rfl 7 rfl ?_
              refine z_iload_n B dX12_putRecords_167 rfl 6 rfl ?_
              refine z_iconst (v := 2) B dX12_putRecords_168 rfl ?_
              refine z_iadd B dX12_putRecords_169 ?_
              refine z_top (st1 := [.int (nI (n_27 + 2)), .ref x]) (congrArg (fun w9 : Int32 => ([.int w9, .ref x] : List Value)) (nI_add n_27 2)) ?_
              refine z_aload_n B dX12_putRecords_170 rfl 7 rfl ?_
              obtain ⟨v_70, v_71, v_72, n_31, v_73, v_74, v_75, v_76, v_77, v_78, v_79, v_80, v_81, n_32, n_33, v_82, n_34, n_35, v_83, v_84, v_85, v_86, h_19, b_84, b_73, b_74, b_75, b_76, b_77, b_78, b_79, b_80, b_81, b_82, b_83⟩ := im0 hI9
              replace b_73 : 1 ≤ n_31 := b_73
              replace b_74 : n_31 ≤ 1024 := b_74
              replace b_75 : fl ≤ 12 := b_75
              replace b_76 : pe ≤ 24 := b_76
              replace b_77 : i_8 ≤ 700 := b_77
              replace b_78 : n_32 ≤ 12 := b_78
              replace b_79 : n_33 ≤ 8 := b_79
              replace b_80 : n_34 ≤ 24 := b_80
              replace b_81 : n_35 ≤ 24 := b_81
              replace b_82 : il ≤ 700 := b_82
              replace b_83 : nx ≤ 701 := b_83
              have h_20 : Φl3 x = some (o_ 14 [.int v_70, .ref (x + 1), .ref (x + 2), .int v_71, .int v_72, .int (nI n_31), .int v_73, .int v_74, .ref (x + 3), .ref (x + 4), .int v_75, .long v_76, .ref (x + 5), .int (nI fl), .int v_77, .long v_78, .long v_79, .long v_80, .long v_81, .ref (x + 6), .ref (x + 7), .int (nI pe), .ref (x + 8), .int (nI i_8), .ref (x + 9), .ref (x + 10), .int (nI n_32), .ref (x + 11), .ref (x + 12), .ref (x + 13), .ref (x + 14), .ref (x + 15), .ref (x + 16), .int (nI n_33), .long v_82, .ref (x + 17), .ref (x + 18), .ref (x + 19), .ref (x + 20), .ref (x + 21), .ref (x + 22), .int (nI n_34), .ref (x + 23), .ref (x + 24), .int (nI n_35), .ref (x + 25), .int (nI il), .int (nI nx), .int ec, .int v_83, .int kn, .int v_84, .int v_85, .long v_86]) := h_19
              refine z_get (ref := "FlowExporterModel") (C := RX12) (T := TX12) (N := 54) (ci := 14) (v := .int (nI i_8)) B (by decide +kernel) rfl 23 (by decide) (by decide +kernel) rfl h_20 rfl dX12_putRecords_171 ?_
              refine z_iload_n B dX12_putRecords_174 rfl 6 rfl ?_
              refine z_isub B dX12_putRecords_175 ?_
              refine z_top (st1 := [.int (nI (i_8 - n_27)), .int (nI (n_27 + 2)), .ref x]) (congrArg (fun w9 : Int32 => ([.int w9, .int (nI (n_27 + 2)), .ref x] : List Value)) (nI_sub (show n_27 ≤ i_8 by omega))) ?_
              refine z_callV (As := [.int (nI (n_27 + 2)), .int (nI (i_8 - n_27))]) (rest := []) B (r_putAt G l Φl3 sz x rd fl pe i_8 nx il kn ec (n_27 + 2) (i_8 - n_27) hx hI9 (show (n_27 + 2) + 1 < 700 by omega) (show (i_8 - n_27) ≤ 65535 by omega)) (cwV 2 B.1.2.2.2.2 gX12_putRecords_X12_putAt rfl rfl rfl (by decide +kernel) ⟨Nat.le_of_ble_eq_true rfl, Nat.le_of_ble_eq_true rfl⟩) h_20 rfl rfl rfl rfl (Nat.le_of_ble_eq_true rfl) dX12_putRecords_176 ⟨Nat.le_of_ble_eq_true rfl, Nat.le_of_ble_eq_true rfl⟩ (fun r_11 Φ7 sz7 st7 hp7 hs7 => ?_)
              obtain ⟨rfl, hq7, hI10, hF10⟩ := hp7
              subst sz7
              replace hs7 : st7 = [] := hs7
              subst st7
              replace hI10 : Im G x (rd, NN, fl, pe, i_8, nx, il, kn, ec) Φ7 := hI10
              refine z_iinc (k := 5) (v := nI (i_2 + 1)) (lv' := [(3, .int (nI (i_2 + 1))), (8, .int (nI i_7)), (4, .int 1), (7, .int (nI n_29)), (6, .int 0), (5, .int (nI n_6)), (2, .int (nI n_27)), (0, .ref x), (1, .int (nI q))]) B dX12_putRecords_179 rfl (nI_add i_2 1) (Nat.le_of_ble_eq_true rfl) rfl ?_
              refine z_goto (tgt := 7) B dX12_putRecords_182 rfl ?_
              refine z_lv [2, 0, 6, 7, 8] rfl ?_
              exact ih1 (1, i_2 + 1, nI n_27, i_8) Φ7 (by simp only [if_neg c_1]; show (if (1 : Int32) = 0 then 0 else 1) + _ < _; rw [if_neg (by decide)]; omega) ⟨hI10, (fun b9 h9 => ((hF10 b9 (fun j9 h8 h7 => h9 j9 h8 (show j9 = 0 ∨ j9 = 8 by have h6 : j9 = 8 := h7; omega))).trans ((hF9 b9 (fun j9 h8 h7 => h9 j9 h8 (show j9 = 0 ∨ j9 = 8 by have h6 : j9 = 0 ∨ j9 = 8 := h7; omega))).trans ((hF8 b9 (fun j9 h8 h7 => (show False from h7).elim)).trans ((hF1 b9 (fun j9 h8 h7 => h9 j9 h8 (show j9 = 0 ∨ j9 = 8 by have h6 : j9 = 0 ∨ j9 = 8 := h7; omega))).trans rfl))))), (show (i_2 + 1) ≤ pe by omega), (show q ≤ (i_2 + 1) by omega), (show i_8 ≤ 600 by omega), (Or.inr ⟨n_27, rfl, (show n_27 + 4 ≤ i_8 by omega)⟩), (Or.inr (show q < i_2 + 1 by omega)), trivial⟩
            · have e_15 : ¬ (n_29 ≤ i_7) := fun h9 => c_16 ((nI_leI (a := n_29) (b := i_7) (by omega) (by omega)).mpr h9)
              refine z_aload_n B dX12_putRecords_142 rfl 7 rfl ?_
              refine z_aload_n B dX12_putRecords_143 rfl 7 rfl ?_
              obtain ⟨v_87, v_88, v_89, n_36, v_90, v_91, v_92, v_93, v_94, v_95, v_96, v_97, v_98, n_37, n_38, v_99, n_39, n_40, v_100, v_101, v_102, v_103, h_21, b_96, b_85, b_86, b_87, b_88, b_89, b_90, b_91, b_92, b_93, b_94, b_95⟩ := im0 hI9
              replace b_85 : 1 ≤ n_36 := b_85
              replace b_86 : n_36 ≤ 1024 := b_86
              replace b_87 : fl ≤ 12 := b_87
              replace b_88 : pe ≤ 24 := b_88
              replace b_89 : i_8 ≤ 700 := b_89
              replace b_90 : n_37 ≤ 12 := b_90
              replace b_91 : n_38 ≤ 8 := b_91
              replace b_92 : n_39 ≤ 24 := b_92
              replace b_93 : n_40 ≤ 24 := b_93
              replace b_94 : il ≤ 700 := b_94
              replace b_95 : nx ≤ 701 := b_95
              have h_22 : Φl3 x = some (o_ 14 [.int v_87, .ref (x + 1), .ref (x + 2), .int v_88, .int v_89, .int (nI n_36), .int v_90, .int v_91, .ref (x + 3), .ref (x + 4), .int v_92, .long v_93, .ref (x + 5), .int (nI fl), .int v_94, .long v_95, .long v_96, .long v_97, .long v_98, .ref (x + 6), .ref (x + 7), .int (nI pe), .ref (x + 8), .int (nI i_8), .ref (x + 9), .ref (x + 10), .int (nI n_37), .ref (x + 11), .ref (x + 12), .ref (x + 13), .ref (x + 14), .ref (x + 15), .ref (x + 16), .int (nI n_38), .long v_99, .ref (x + 17), .ref (x + 18), .ref (x + 19), .ref (x + 20), .ref (x + 21), .ref (x + 22), .int (nI n_39), .ref (x + 23), .ref (x + 24), .int (nI n_40), .ref (x + 25), .int (nI il), .int (nI nx), .int ec, .int v_100, .int kn, .int v_101, .int v_102, .long v_103]) := h_21
              refine z_get (ref := "FlowExporterModel") (C := RX12) (T := TX12) (N := 54) (ci := 14) (v := .ref (x + 7)) B (by decide +kernel) rfl 20 (by decide) (by decide +kernel) rfl h_22 rfl dX12_putRecords_144 ?_
              refine z_bipush (v := 30) B dX12_putRecords_147 rfl ?_
              refine z_iload_n B dX12_putRecords_149 rfl 5 rfl ?_
              refine z_imul B dX12_putRecords_150 ?_
              refine z_top (st1 := [.int (nI (30 * i_2)), .ref (x + 7), .ref x]) (congrArg (fun w9 : Int32 => ([.int w9, .ref (x + 7), .ref x] : List Value)) (nI_mul 30 i_2)) ?_
              refine z_iload B dX12_putRecords_151 0 rfl ?_
              refine z_iadd B dX12_putRecords_153 ?_
              refine z_top (st1 := [.int (nI (30 * i_2 + i_7)), .ref (x + 7), .ref x]) (congrArg (fun w9 : Int32 => ([.int w9, .ref (x + 7), .ref x] : List Value)) (nI_add (30 * i_2) i_7)) ?_
              obtain ⟨f_5, h_23⟩ := imk (k := 7) hI9
              have h_24 : Φl3 (x + 7) = some (ai_ G 720 f_5) := h_23
              refine z_iald B h_24 (vp_in_nI (by omega) (by omega)) dX12_putRecords_154 ?_
              refine z_fi (fun v_104 => ?_)
              refine z_i2l (v := v_104.toInt64) B dX12_putRecords_155 rfl ?_
              refine z_iconst (v := 1) B dX12_putRecords_156 rfl ?_
              refine z_callV (As := [.long v_104.toInt64, .int 1]) (rest := []) B (r_put G l Φl3 sz x rd fl pe i_8 nx il kn ec v_104.toInt64 1 hx hI9 (show 1 ≤ 8 by omega) (show i_8 + 1 ≤ 700 by omega)) (cwV 2 B.1.2.2.2.2 gX12_putRecords_X12_put rfl rfl rfl (by decide +kernel) ⟨Nat.le_of_ble_eq_true rfl, Nat.le_of_ble_eq_true rfl⟩) h_22 rfl rfl rfl rfl (Nat.le_of_ble_eq_true rfl) dX12_putRecords_157 ⟨Nat.le_of_ble_eq_true rfl, Nat.le_of_ble_eq_true rfl⟩ (fun r_13 Φ8 sz8 st8 hp8 hs8 => ?_)
              obtain ⟨rfl, hq8, ⟨n_41, b_97, hI11⟩, hF11⟩ := hp8
              subst sz8
              replace hs8 : st8 = [] := hs8
              subst st8
              replace hI11 : Im G x (rd, NN, fl, pe, n_41, nx, il, kn, ec) Φ8 := hI11
              replace b_97 : n_41 = i_8 + 1 := b_97
              refine z_iinc (k := 0) (v := nI (i_7 + 1)) (lv' := [(8, .int (nI (i_7 + 1))), (4, .int 1), (7, .int (nI n_29)), (6, .int 0), (5, .int (nI n_6)), (3, .int (nI i_2)), (2, .int (nI n_27)), (0, .ref x), (1, .int (nI q))]) B dX12_putRecords_160 rfl (nI_add i_7 1) (Nat.le_of_ble_eq_true rfl) rfl ?_
              refine z_goto (tgt := 135) B dX12_putRecords_163 rfl ?_
              refine z_lv [0, 1, 2, 3, 4, 5, 6, 7, 8] rfl ?_
              exact ih3 (i_7 + 1, n_41) Φ8 (show n_29 - (i_7 + 1) < n_29 - i_7 by omega) ⟨hI11, (fun b9 h9 => ((hF11 b9 (fun j9 h8 h7 => h9 j9 h8 (show j9 = 0 ∨ j9 = 8 by have h6 : j9 = 0 ∨ j9 = 8 := h7; omega))).trans ((hF9 b9 (fun j9 h8 h7 => h9 j9 h8 (show j9 = 0 ∨ j9 = 8 by have h6 : j9 = 0 ∨ j9 = 8 := h7; omega))).trans rfl))), (show (i_7 + 1) ≤ n_29 by omega), (show n_41 = i_4 + (i_7 + 1) by omega), trivial⟩
        · have e_16 : ¬ (n_6 = n_28) := fun h9 => c_10 ((nI_eq (a := n_6) (b := n_28) (by omega) (by omega)).mpr h9)
          refine z_iconst (v := 1) B dX12_putRecords_46 rfl ?_
          refine z_goto (tgt := 51) B dX12_putRecords_47 rfl ?_
          refine z_istore (lv' := [(6, .int 1), (5, .int (nI n_6)), (4, .int i_1), (3, .int (nI i_2)), (2, .int (nI n_27)), (0, .ref x), (1, .int (nI q))]) B dX12_putRecords_51 (Nat.le_of_ble_eq_true rfl) rfl ?_
          refine z_aload_n B dX12_putRecords_53 rfl 5 rfl ?_
          refine z_iload B dX12_putRecords_54 1 rfl ?_
          refine z_callV (As := [.int (nI n_6)]) (rest := []) B (r_recordLengthOf G l Φl1 sz x rd fl pe i_4 nx il kn ec n_6 hx hI1 (show n_6 < 4 by omega)) (cwV 1 B.1.2.2.2.2 gX12_putRecords_X12_recordLengthOf rfl rfl rfl (by decide +kernel) ⟨Nat.le_of_ble_eq_true rfl, Nat.le_of_ble_eq_true rfl⟩) h_2 rfl rfl rfl rfl (Nat.le_of_ble_eq_true rfl) dX12_putRecords_56 ⟨Nat.le_of_ble_eq_true rfl, Nat.le_of_ble_eq_true rfl⟩ (fun r_14 Φ9 sz9 st9 hp9 hs9 => ?_)
          obtain ⟨⟨n_42, rfl, b_98⟩, hq9, hI12, hF12⟩ := hp9
          subst sz9
          replace hs9 : st9 = [.int (nI n_42)] := hs9
          subst st9
          replace b_98 : n_42 ≤ 29 := b_98
          replace hI12 : Im G x (rd, NN, fl, pe, i_4, nx, il, kn, ec) Φ9 := hI12
          refine z_istore (lv' := [(7, .int (nI n_42)), (6, .int 1), (5, .int (nI n_6)), (4, .int i_1), (3, .int (nI i_2)), (2, .int (nI n_27)), (0, .ref x), (1, .int (nI q))]) B dX12_putRecords_59 (Nat.le_of_ble_eq_true rfl) rfl ?_
          refine z_aload_n B dX12_putRecords_61 rfl 6 rfl ?_
          have h_25 : Φ9 x = some (o_ 14 [.int v_1, .ref (x + 1), .ref (x + 2), .int v_2, .int v_3, .int (nI n_1), .int v_4, .int v_5, .ref (x + 3), .ref (x + 4), .int v_6, .long v_7, .ref (x + 5), .int (nI fl), .int v_8, .long v_9, .long v_10, .long v_11, .long v_12, .ref (x + 6), .ref (x + 7), .int (nI pe), .ref (x + 8), .int (nI i_4), .ref (x + 9), .ref (x + 10), .int (nI n_2), .ref (x + 11), .ref (x + 12), .ref (x + 13), .ref (x + 14), .ref (x + 15), .ref (x + 16), .int (nI n_3), .long v_13, .ref (x + 17), .ref (x + 18), .ref (x + 19), .ref (x + 20), .ref (x + 21), .ref (x + 22), .int (nI n_4), .ref (x + 23), .ref (x + 24), .int (nI n_5), .ref (x + 25), .int (nI il), .int (nI nx), .int ec, .int v_14, .int kn, .int v_15, .int v_16, .long v_17]) := ((hF12 x (fun j9 h8 h7 => (show False from h7).elim)).trans h_2)
          refine z_get (ref := "FlowExporterModel") (C := RX12) (T := TX12) (N := 54) (ci := 14) (v := .int (nI i_4)) B (by decide +kernel) rfl 23 (by decide) (by decide +kernel) rfl h_25 rfl dX12_putRecords_62 ?_
          refine z_iload B dX12_putRecords_65 0 rfl ?_
          refine z_iadd B dX12_putRecords_67 ?_
          refine z_top (st1 := [.int (nI (i_4 + n_42))]) (congrArg (fun w9 : Int32 => ([.int w9] : List Value)) (nI_add i_4 n_42)) ?_
          refine z_iload B dX12_putRecords_68 1 rfl ?_
          refine z_if_eq (tgt := 77) B dX12_putRecords_70 rfl (fun h9 => absurd h9 (by decide)) (fun c_17 => ?_)
          refine z_iconst (v := 4) B dX12_putRecords_73 rfl ?_
          refine z_goto (tgt := 78) B dX12_putRecords_74 rfl ?_
          refine z_iadd B dX12_putRecords_78 ?_
          refine z_top (st1 := [.int (nI (i_4 + n_42 + 4))]) (congrArg (fun w9 : Int32 => ([.int w9] : List Value)) (nI_add (i_4 + n_42) 4)) ?_
          refine z_aload_n B dX12_putRecords_79 rfl 6 rfl ?_
          refine z_get (ref := "FlowExporterModel") (C := RX12) (T := TX12) (N := 54) (ci := 14) (v := .ref (x + 2)) B (by decide +kernel) rfl 2 (by decide) (by decide +kernel) rfl h_25 rfl dX12_putRecords_80 ?_
          refine z_bipush (v := 7) B dX12_putRecords_83 rfl ?_
          obtain ⟨f_6, h_26, r_15⟩ := imk (k := 2) hI12
          replace r_15 : NN f_6 := r_15
          have h_27 : Φ9 (x + 2) = some (ai_ G 307 f_6) := h_26
          refine z_iald B h_27 (vin rfl) dX12_putRecords_85 ?_
          obtain ⟨n_43, b_99, b_100, e_17⟩ := r_15.2.2.2.1
          refine z_top (st1 := [.int (nI n_43), .int (nI (i_4 + n_42 + 4))]) (congrArg (fun w9 : Int32 => ([.int w9, .int (nI (i_4 + n_42 + 4))] : List Value)) (e_17)) ?_
          refine z_icmp_gt (tgt := 93) B dX12_putRecords_86 rfl (fun c_18 => ?_) (fun c_18 => ?_)
          · have e_18 : n_43 < i_4 + n_42 + 4 := (nI_ltI (a := n_43) (b := i_4 + n_42 + 4) (by omega) (by omega)).mp c_18
            refine z_iconst (v := 0) B dX12_putRecords_93 rfl ?_
            refine z_istore (lv' := [(4, .int 0), (7, .int (nI n_42)), (6, .int 1), (5, .int (nI n_6)), (3, .int (nI i_2)), (2, .int (nI n_27)), (0, .ref x), (1, .int (nI q))]) B dX12_putRecords_94 (Nat.le_of_ble_eq_true rfl) rfl ?_
            refine z_iload B dX12_putRecords_96 0 rfl ?_
            refine z_if_ne (tgt := 104) B dX12_putRecords_98 rfl (fun h9 => absurd (by decide) h9) (fun c_19 => ?_)
            refine z_goto (tgt := 7) B dX12_putRecords_101 rfl ?_
            refine z_lv [0, 4, 5, 6, 7] rfl ?_
            exact ih1 (0, i_2, nI n_27, i_4) Φ9 (by simp only [if_neg c_1]; show (if (0 : Int32) = 0 then 0 else 1) + _ < _; rw [if_pos rfl]; omega) ⟨hI12, (fun b9 h9 => ((hF12 b9 (fun j9 h8 h7 => (show False from h7).elim)).trans ((hF1 b9 (fun j9 h8 h7 => h9 j9 h8 (show j9 = 0 ∨ j9 = 8 by have h6 : j9 = 0 ∨ j9 = 8 := h7; omega))).trans rfl))), (show i_2 ≤ pe by omega), (show q ≤ i_2 by omega), (show i_4 ≤ 600 by omega), (Or.inr ⟨n_27, rfl, (show n_27 + 4 ≤ i_4 by omega)⟩), (Or.inr (by rcases b_5 with ⟨h1, h2, h3, h4⟩ | h; first | exact absurd h2 c_3 | (exfalso; omega); exact h)), trivial⟩
          · have e_19 : ¬ (n_43 < i_4 + n_42 + 4) := fun h9 => c_18 ((nI_ltI (a := n_43) (b := i_4 + n_42 + 4) (by omega) (by omega)).mpr h9)
            refine z_iconst (v := 1) B dX12_putRecords_89 rfl ?_
            refine z_goto (tgt := 94) B dX12_putRecords_90 rfl ?_
            refine z_istore (lv' := [(4, .int 1), (7, .int (nI n_42)), (6, .int 1), (5, .int (nI n_6)), (3, .int (nI i_2)), (2, .int (nI n_27)), (0, .ref x), (1, .int (nI q))]) B dX12_putRecords_94 (Nat.le_of_ble_eq_true rfl) rfl ?_
            refine z_iload B dX12_putRecords_96 0 rfl ?_
            refine z_if_ne (tgt := 104) B dX12_putRecords_98 rfl (fun c_20 => ?_) (fun h9 => absurd h9 (by decide))
            refine z_iload B dX12_putRecords_104 2 rfl ?_
            refine z_if_eq (tgt := 132) B dX12_putRecords_106 rfl (fun h9 => absurd h9 (by decide)) (fun c_21 => ?_)
            refine z_aload_n B dX12_putRecords_109 rfl 6 rfl ?_
            refine z_get (ref := "FlowExporterModel") (C := RX12) (T := TX12) (N := 54) (ci := 14) (v := .int (nI i_4)) B (by decide +kernel) rfl 23 (by decide) (by decide +kernel) rfl h_25 rfl dX12_putRecords_110 ?_
            refine z_istore_n (lv' := [(2, .int (nI i_4)), (4, .int 1), (7, .int (nI n_42)), (6, .int 1), (5, .int (nI n_6)), (3, .int (nI i_2)), (0, .ref x), (1, .int (nI q))]) B dX12_putRecords_113 rfl (Nat.le_of_ble_eq_true rfl) rfl ?_
            refine z_aload_n B dX12_putRecords_114 rfl 6 rfl ?_
            refine z_sipush (v := 256) B dX12_putRecords_115 rfl ?_
            refine z_iload B dX12_putRecords_118 4 rfl ?_
            refine z_iadd B dX12_putRecords_120 ?_
            refine z_top (st1 := [.int (nI (256 + n_6)), .ref x]) (congrArg (fun w9 : Int32 => ([.int w9, .ref x] : List Value)) (nI_add 256 n_6)) ?_
            refine z_i2l (v := (nI (256 + n_6)).toInt64) B dX12_putRecords_121 rfl ?_
            refine z_iconst (v := 2) B dX12_putRecords_122 rfl ?_
            refine z_callV (As := [.long ((nI (256 + n_6)).toInt64), .int 2]) (rest := []) B (r_put G l Φ9 sz x rd fl pe i_4 nx il kn ec ((nI (256 + n_6)).toInt64) 2 hx hI12 (show 2 ≤ 8 by omega) (show i_4 + 2 ≤ 700 by omega)) (cwV 2 B.1.2.2.2.2 gX12_putRecords_X12_put rfl rfl rfl (by decide +kernel) ⟨Nat.le_of_ble_eq_true rfl, Nat.le_of_ble_eq_true rfl⟩) h_25 rfl rfl rfl rfl (Nat.le_of_ble_eq_true rfl) dX12_putRecords_123 ⟨Nat.le_of_ble_eq_true rfl, Nat.le_of_ble_eq_true rfl⟩ (fun r_16 Φ10 sz10 st10 hp10 hs10 => ?_)
            obtain ⟨rfl, hq10, ⟨n_44, b_101, hI13⟩, hF13⟩ := hp10
            subst sz10
            replace hs10 : st10 = [] := hs10
            subst st10
            replace hI13 : Im G x (rd, NN, fl, pe, n_44, nx, il, kn, ec) Φ10 := hI13
            replace b_101 : n_44 = i_4 + 2 := b_101
            refine z_aload_n B dX12_putRecords_126 rfl 6 rfl ?_
            refine z_lconst (v := 0) B dX12_putRecords_127 rfl ?_
            refine z_iconst (v := 2) B dX12_putRecords_128 rfl ?_
            obtain ⟨v_105, v_106, v_107, n_45, v_108, v_109, v_110, v_111, v_112, v_113, v_114, v_115, v_116, n_46, n_47, v_117, n_48, n_49, v_118, v_119, v_120, v_121, h_28, b_113, b_102, b_103, b_104, b_105, b_106, b_107, b_108, b_109, b_110, b_111, b_112⟩ := im0 hI13
            replace b_102 : 1 ≤ n_45 := b_102
            replace b_103 : n_45 ≤ 1024 := b_103
            replace b_104 : fl ≤ 12 := b_104
            replace b_105 : pe ≤ 24 := b_105
            replace b_106 : n_44 ≤ 700 := b_106
            replace b_107 : n_46 ≤ 12 := b_107
            replace b_108 : n_47 ≤ 8 := b_108
            replace b_109 : n_48 ≤ 24 := b_109
            replace b_110 : n_49 ≤ 24 := b_110
            replace b_111 : il ≤ 700 := b_111
            replace b_112 : nx ≤ 701 := b_112
            have h_29 : Φ10 x = some (o_ 14 [.int v_105, .ref (x + 1), .ref (x + 2), .int v_106, .int v_107, .int (nI n_45), .int v_108, .int v_109, .ref (x + 3), .ref (x + 4), .int v_110, .long v_111, .ref (x + 5), .int (nI fl), .int v_112, .long v_113, .long v_114, .long v_115, .long v_116, .ref (x + 6), .ref (x + 7), .int (nI pe), .ref (x + 8), .int (nI n_44), .ref (x + 9), .ref (x + 10), .int (nI n_46), .ref (x + 11), .ref (x + 12), .ref (x + 13), .ref (x + 14), .ref (x + 15), .ref (x + 16), .int (nI n_47), .long v_117, .ref (x + 17), .ref (x + 18), .ref (x + 19), .ref (x + 20), .ref (x + 21), .ref (x + 22), .int (nI n_48), .ref (x + 23), .ref (x + 24), .int (nI n_49), .ref (x + 25), .int (nI il), .int (nI nx), .int ec, .int v_118, .int kn, .int v_119, .int v_120, .long v_121]) := h_28
            refine z_callV (As := [.long 0, .int 2]) (rest := []) B (r_put G l Φ10 sz x rd fl pe n_44 nx il kn ec 0 2 hx hI13 (show 2 ≤ 8 by omega) (show n_44 + 2 ≤ 700 by omega)) (cwV 2 B.1.2.2.2.2 gX12_putRecords_X12_put rfl rfl rfl (by decide +kernel) ⟨Nat.le_of_ble_eq_true rfl, Nat.le_of_ble_eq_true rfl⟩) h_29 rfl rfl rfl rfl (Nat.le_of_ble_eq_true rfl) dX12_putRecords_129 ⟨Nat.le_of_ble_eq_true rfl, Nat.le_of_ble_eq_true rfl⟩ (fun r_17 Φ11 sz11 st11 hp11 hs11 => ?_)
            obtain ⟨rfl, hq11, ⟨n_50, b_114, hI14⟩, hF14⟩ := hp11
            subst sz11
            replace hs11 : st11 = [] := hs11
            subst st11
            replace hI14 : Im G x (rd, NN, fl, pe, n_50, nx, il, kn, ec) Φ11 := hI14
            replace b_114 : n_50 = n_44 + 2 := b_114
            refine z_iconst (v := 0) B dX12_putRecords_132 rfl ?_
            refine z_istore (lv' := [(8, .int 0), (2, .int (nI i_4)), (4, .int 1), (7, .int (nI n_42)), (6, .int 1), (5, .int (nI n_6)), (3, .int (nI i_2)), (0, .ref x), (1, .int (nI q))]) B dX12_putRecords_133 (Nat.le_of_ble_eq_true rfl) rfl ?_
            refine z_lv [0, 1, 2, 3, 4, 5, 6, 7, 8] rfl ?_
            refine z_loop (α := Nat × Nat) (fun (a9 : Nat × Nat) Φi => Im G x (rd, NN, fl, pe, a9.2, nx, il, kn, ec) Φi ∧ Fr x (fun j9 => j9 = 0 ∨ j9 = 8) Φ11 Φi ∧ (a9.1 ≤ n_42) ∧ (a9.2 = n_50 + a9.1) ∧ True) (fun a9 => [(8, .int (nI (a9.1))), (2, .int (nI i_4)), (4, .int 1), (7, .int (nI n_42)), (6, .int 1), (5, .int (nI n_6)), (3, .int (nI i_2)), (0, .ref x), (1, .int (nI q))]) (fun a9 => n_42 - a9.1) ?_ (0, n_50) ⟨hI14, fun _ _ => rfl, (show 0 ≤ n_42 by omega), (show n_50 = n_50 + 0 by omega), trivial⟩
            rintro ⟨i_9, i_10⟩ Φl4 ⟨hI15, hF15, b_115, b_116, -⟩ ih4
            replace hI15 : Im G x (rd, NN, fl, pe, i_10, nx, il, kn, ec) Φl4 := hI15
            replace b_115 : i_9 ≤ n_42 := b_115
            replace b_116 : i_10 = n_50 + i_9 := b_116
            show Z p9 l e9 _ s9 m9 _ w9 t9 k9 _ G 9 135 [(8, .int (nI i_9)), (2, .int (nI i_4)), (4, .int 1), (7, .int (nI n_42)), (6, .int 1), (5, .int (nI n_6)), (3, .int (nI i_2)), (0, .ref x), (1, .int (nI q))] [] Φl4 _ _ _
            refine z_iload B dX12_putRecords_135 0 rfl ?_
            refine z_iload B dX12_putRecords_137 3 rfl ?_
            refine z_icmp_ge (tgt := 166) B dX12_putRecords_139 rfl (fun c_22 => ?_) (fun c_22 => ?_)
            · have e_20 : n_42 ≤ i_9 := (nI_leI (a := n_42) (b := i_9) (by omega) (by omega)).mp c_22
              refine z_aload_n B dX12_putRecords_166 rfl 7 rfl ?_
              refine z_iload_n B dX12_putRecords_167 rfl 1 rfl ?_
              refine z_iconst (v := 2) B dX12_putRecords_168 rfl ?_
              refine z_iadd B dX12_putRecords_169 ?_
              refine z_top (st1 := [.int (nI (i_4 + 2)), .ref x]) (congrArg (fun w9 : Int32 => ([.int w9, .ref x] : List Value)) (nI_add i_4 2)) ?_
              refine z_aload_n B dX12_putRecords_170 rfl 7 rfl ?_
              obtain ⟨v_122, v_123, v_124, n_51, v_125, v_126, v_127, v_128, v_129, v_130, v_131, v_132, v_133, n_52, n_53, v_134, n_54, n_55, v_135, v_136, v_137, v_138, h_30, b_128, b_117, b_118, b_119, b_120, b_121, b_122, b_123, b_124, b_125, b_126, b_127⟩ := im0 hI15
              replace b_117 : 1 ≤ n_51 := b_117
              replace b_118 : n_51 ≤ 1024 := b_118
              replace b_119 : fl ≤ 12 := b_119
              replace b_120 : pe ≤ 24 := b_120
              replace b_121 : i_10 ≤ 700 := b_121
              replace b_122 : n_52 ≤ 12 := b_122
              replace b_123 : n_53 ≤ 8 := b_123
              replace b_124 : n_54 ≤ 24 := b_124
              replace b_125 : n_55 ≤ 24 := b_125
              replace b_126 : il ≤ 700 := b_126
              replace b_127 : nx ≤ 701 := b_127
              have h_31 : Φl4 x = some (o_ 14 [.int v_122, .ref (x + 1), .ref (x + 2), .int v_123, .int v_124, .int (nI n_51), .int v_125, .int v_126, .ref (x + 3), .ref (x + 4), .int v_127, .long v_128, .ref (x + 5), .int (nI fl), .int v_129, .long v_130, .long v_131, .long v_132, .long v_133, .ref (x + 6), .ref (x + 7), .int (nI pe), .ref (x + 8), .int (nI i_10), .ref (x + 9), .ref (x + 10), .int (nI n_52), .ref (x + 11), .ref (x + 12), .ref (x + 13), .ref (x + 14), .ref (x + 15), .ref (x + 16), .int (nI n_53), .long v_134, .ref (x + 17), .ref (x + 18), .ref (x + 19), .ref (x + 20), .ref (x + 21), .ref (x + 22), .int (nI n_54), .ref (x + 23), .ref (x + 24), .int (nI n_55), .ref (x + 25), .int (nI il), .int (nI nx), .int ec, .int v_135, .int kn, .int v_136, .int v_137, .long v_138]) := h_30
              refine z_get (ref := "FlowExporterModel") (C := RX12) (T := TX12) (N := 54) (ci := 14) (v := .int (nI i_10)) B (by decide +kernel) rfl 23 (by decide) (by decide +kernel) rfl h_31 rfl dX12_putRecords_171 ?_
              refine z_iload_n B dX12_putRecords_174 rfl 1 rfl ?_
              refine z_isub B dX12_putRecords_175 ?_
              refine z_top (st1 := [.int (nI (i_10 - i_4)), .int (nI (i_4 + 2)), .ref x]) (congrArg (fun w9 : Int32 => ([.int w9, .int (nI (i_4 + 2)), .ref x] : List Value)) (nI_sub (show i_4 ≤ i_10 by omega))) ?_
              refine z_callV (As := [.int (nI (i_4 + 2)), .int (nI (i_10 - i_4))]) (rest := []) B (r_putAt G l Φl4 sz x rd fl pe i_10 nx il kn ec (i_4 + 2) (i_10 - i_4) hx hI15 (show (i_4 + 2) + 1 < 700 by omega) (show (i_10 - i_4) ≤ 65535 by omega)) (cwV 2 B.1.2.2.2.2 gX12_putRecords_X12_putAt rfl rfl rfl (by decide +kernel) ⟨Nat.le_of_ble_eq_true rfl, Nat.le_of_ble_eq_true rfl⟩) h_31 rfl rfl rfl rfl (Nat.le_of_ble_eq_true rfl) dX12_putRecords_176 ⟨Nat.le_of_ble_eq_true rfl, Nat.le_of_ble_eq_true rfl⟩ (fun r_18 Φ12 sz12 st12 hp12 hs12 => ?_)
              obtain ⟨rfl, hq12, hI16, hF16⟩ := hp12
              subst sz12
              replace hs12 : st12 = [] := hs12
              subst st12
              replace hI16 : Im G x (rd, NN, fl, pe, i_10, nx, il, kn, ec) Φ12 := hI16
              refine z_iinc (k := 6) (v := nI (i_2 + 1)) (lv' := [(3, .int (nI (i_2 + 1))), (8, .int (nI i_9)), (2, .int (nI i_4)), (4, .int 1), (7, .int (nI n_42)), (6, .int 1), (5, .int (nI n_6)), (0, .ref x), (1, .int (nI q))]) B dX12_putRecords_179 rfl (nI_add i_2 1) (Nat.le_of_ble_eq_true rfl) rfl ?_
              refine z_goto (tgt := 7) B dX12_putRecords_182 rfl ?_
              refine z_lv [3, 0, 2, 7, 8] rfl ?_
              exact ih1 (1, i_2 + 1, nI i_4, i_10) Φ12 (by simp only [if_neg c_1]; show (if (1 : Int32) = 0 then 0 else 1) + _ < _; rw [if_neg (by decide)]; omega) ⟨hI16, (fun b9 h9 => ((hF16 b9 (fun j9 h8 h7 => h9 j9 h8 (show j9 = 0 ∨ j9 = 8 by have h6 : j9 = 8 := h7; omega))).trans ((hF15 b9 (fun j9 h8 h7 => h9 j9 h8 (show j9 = 0 ∨ j9 = 8 by have h6 : j9 = 0 ∨ j9 = 8 := h7; omega))).trans ((hF14 b9 (fun j9 h8 h7 => h9 j9 h8 (show j9 = 0 ∨ j9 = 8 by have h6 : j9 = 0 ∨ j9 = 8 := h7; omega))).trans ((hF13 b9 (fun j9 h8 h7 => h9 j9 h8 (show j9 = 0 ∨ j9 = 8 by have h6 : j9 = 0 ∨ j9 = 8 := h7; omega))).trans ((hF12 b9 (fun j9 h8 h7 => (show False from h7).elim)).trans ((hF1 b9 (fun j9 h8 h7 => h9 j9 h8 (show j9 = 0 ∨ j9 = 8 by have h6 : j9 = 0 ∨ j9 = 8 := h7; omega))).trans rfl))))))), (show (i_2 + 1) ≤ pe by omega), (show q ≤ (i_2 + 1) by omega), (show i_10 ≤ 600 by omega), (Or.inr ⟨i_4, rfl, (show i_4 + 4 ≤ i_10 by omega)⟩), (Or.inr (show q < i_2 + 1 by omega)), trivial⟩
            · have e_21 : ¬ (n_42 ≤ i_9) := fun h9 => c_22 ((nI_leI (a := n_42) (b := i_9) (by omega) (by omega)).mpr h9)
              refine z_aload_n B dX12_putRecords_142 rfl 7 rfl ?_
              refine z_aload_n B dX12_putRecords_143 rfl 7 rfl ?_
              obtain ⟨v_139, v_140, v_141, n_56, v_142, v_143, v_144, v_145, v_146, v_147, v_148, v_149, v_150, n_57, n_58, v_151, n_59, n_60, v_152, v_153, v_154, v_155, h_32, b_140, b_129, b_130, b_131, b_132, b_133, b_134, b_135, b_136, b_137, b_138, b_139⟩ := im0 hI15
              replace b_129 : 1 ≤ n_56 := b_129
              replace b_130 : n_56 ≤ 1024 := b_130
              replace b_131 : fl ≤ 12 := b_131
              replace b_132 : pe ≤ 24 := b_132
              replace b_133 : i_10 ≤ 700 := b_133
              replace b_134 : n_57 ≤ 12 := b_134
              replace b_135 : n_58 ≤ 8 := b_135
              replace b_136 : n_59 ≤ 24 := b_136
              replace b_137 : n_60 ≤ 24 := b_137
              replace b_138 : il ≤ 700 := b_138
              replace b_139 : nx ≤ 701 := b_139
              have h_33 : Φl4 x = some (o_ 14 [.int v_139, .ref (x + 1), .ref (x + 2), .int v_140, .int v_141, .int (nI n_56), .int v_142, .int v_143, .ref (x + 3), .ref (x + 4), .int v_144, .long v_145, .ref (x + 5), .int (nI fl), .int v_146, .long v_147, .long v_148, .long v_149, .long v_150, .ref (x + 6), .ref (x + 7), .int (nI pe), .ref (x + 8), .int (nI i_10), .ref (x + 9), .ref (x + 10), .int (nI n_57), .ref (x + 11), .ref (x + 12), .ref (x + 13), .ref (x + 14), .ref (x + 15), .ref (x + 16), .int (nI n_58), .long v_151, .ref (x + 17), .ref (x + 18), .ref (x + 19), .ref (x + 20), .ref (x + 21), .ref (x + 22), .int (nI n_59), .ref (x + 23), .ref (x + 24), .int (nI n_60), .ref (x + 25), .int (nI il), .int (nI nx), .int ec, .int v_152, .int kn, .int v_153, .int v_154, .long v_155]) := h_32
              refine z_get (ref := "FlowExporterModel") (C := RX12) (T := TX12) (N := 54) (ci := 14) (v := .ref (x + 7)) B (by decide +kernel) rfl 20 (by decide) (by decide +kernel) rfl h_33 rfl dX12_putRecords_144 ?_
              refine z_bipush (v := 30) B dX12_putRecords_147 rfl ?_
              refine z_iload_n B dX12_putRecords_149 rfl 6 rfl ?_
              refine z_imul B dX12_putRecords_150 ?_
              refine z_top (st1 := [.int (nI (30 * i_2)), .ref (x + 7), .ref x]) (congrArg (fun w9 : Int32 => ([.int w9, .ref (x + 7), .ref x] : List Value)) (nI_mul 30 i_2)) ?_
              refine z_iload B dX12_putRecords_151 0 rfl ?_
              refine z_iadd B dX12_putRecords_153 ?_
              refine z_top (st1 := [.int (nI (30 * i_2 + i_9)), .ref (x + 7), .ref x]) (congrArg (fun w9 : Int32 => ([.int w9, .ref (x + 7), .ref x] : List Value)) (nI_add (30 * i_2) i_9)) ?_
              obtain ⟨f_7, h_34⟩ := imk (k := 7) hI15
              have h_35 : Φl4 (x + 7) = some (ai_ G 720 f_7) := h_34
              refine z_iald B h_35 (vp_in_nI (by omega) (by omega)) dX12_putRecords_154 ?_
              refine z_fi (fun v_156 => ?_)
              refine z_i2l (v := v_156.toInt64) B dX12_putRecords_155 rfl ?_
              refine z_iconst (v := 1) B dX12_putRecords_156 rfl ?_
              refine z_callV (As := [.long v_156.toInt64, .int 1]) (rest := []) B (r_put G l Φl4 sz x rd fl pe i_10 nx il kn ec v_156.toInt64 1 hx hI15 (show 1 ≤ 8 by omega) (show i_10 + 1 ≤ 700 by omega)) (cwV 2 B.1.2.2.2.2 gX12_putRecords_X12_put rfl rfl rfl (by decide +kernel) ⟨Nat.le_of_ble_eq_true rfl, Nat.le_of_ble_eq_true rfl⟩) h_33 rfl rfl rfl rfl (Nat.le_of_ble_eq_true rfl) dX12_putRecords_157 ⟨Nat.le_of_ble_eq_true rfl, Nat.le_of_ble_eq_true rfl⟩ (fun r_20 Φ13 sz13 st13 hp13 hs13 => ?_)
              obtain ⟨rfl, hq13, ⟨n_61, b_141, hI17⟩, hF17⟩ := hp13
              subst sz13
              replace hs13 : st13 = [] := hs13
              subst st13
              replace hI17 : Im G x (rd, NN, fl, pe, n_61, nx, il, kn, ec) Φ13 := hI17
              replace b_141 : n_61 = i_10 + 1 := b_141
              refine z_iinc (k := 0) (v := nI (i_9 + 1)) (lv' := [(8, .int (nI (i_9 + 1))), (2, .int (nI i_4)), (4, .int 1), (7, .int (nI n_42)), (6, .int 1), (5, .int (nI n_6)), (3, .int (nI i_2)), (0, .ref x), (1, .int (nI q))]) B dX12_putRecords_160 rfl (nI_add i_9 1) (Nat.le_of_ble_eq_true rfl) rfl ?_
              refine z_goto (tgt := 135) B dX12_putRecords_163 rfl ?_
              refine z_lv [0, 1, 2, 3, 4, 5, 6, 7, 8] rfl ?_
              exact ih4 (i_9 + 1, n_61) Φ13 (show n_42 - (i_9 + 1) < n_42 - i_9 by omega) ⟨hI17, (fun b9 h9 => ((hF17 b9 (fun j9 h8 h7 => h9 j9 h8 (show j9 = 0 ∨ j9 = 8 by have h6 : j9 = 0 ∨ j9 = 8 := h7; omega))).trans ((hF15 b9 (fun j9 h8 h7 => h9 j9 h8 (show j9 = 0 ∨ j9 = 8 by have h6 : j9 = 0 ∨ j9 = 8 := h7; omega))).trans rfl))), (show (i_9 + 1) ≤ n_42 by omega), (show n_61 = n_50 + (i_9 + 1) by omega), trivial⟩

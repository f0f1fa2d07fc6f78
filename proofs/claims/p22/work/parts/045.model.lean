set_option maxHeartbeats 4000000 in
set_option maxRecDepth 100000 in
theorem r_recordLengthOfC (G : EnvG) (l : Launch) (Φ : Hm) (sz x : Nat) (rd : (Nat → Int32) → Prop) (fl : Nat) (pe : Nat) (le : Nat) (nx : Nat) (il : Nat) (qu : Nat) (kn : Int32) (ec : Int32) (nu : Int32) (va : Int64) (st : Nat) (ep : Int32) (ti : Int32) (ad : Int32) (ob : Int64) (c : Cf) (t : Nat) (hx : G.2.2.2 ≤ x) (hI : Im G x (rd, (NNq c), fl, pe, le, nx, il, qu, kn, ec, nu, va, st, ep, ti, ad, ob) Φ) (ht : t < 4) : Ct G l yX12_recordLengthOf wsX12_recordLengthOf ({ frames := 3, cells := 0, slots := 0, locals := 66 }) 0 0 [.ref x, .int (nI t)] Φ sz (fun v Φ1 sz1 => (v = some (.int (nI (lenR (tfF c t &&& c 9) 9)))) ∧ sz1 = sz ∧ (Im G x (rd, (NNq c), fl, pe, le, nx, il, qu, kn, ec, nu, va, st, ep, ti, ad, ob) Φ1) ∧ Fr x (fun j9 => False) Φ Φ1) := by
  refine Ct.of (cc := cX12_recordLengthOf) (maxL := 4) (ret := (some .int)) (by decide) rfl (Nat.le_of_ble_eq_true rfl) ?_
  intro p9 e9 s9 m9 w9 t9 k9 B
  show Z p9 l e9 _ s9 m9 _ w9 t9 k9 _ G 4 0 [(0, .ref x), (1, .int (nI t))] [] Φ sz 0 0
  refine z_iconst (v := 0) B dX12_recordLengthOf_0 rfl ?_
  refine z_istore_n (lv' := [(2, .int 0), (0, .ref x), (1, .int (nI t))]) B dX12_recordLengthOf_1 rfl (Nat.le_of_ble_eq_true rfl) rfl ?_
  refine z_iconst (v := 0) B dX12_recordLengthOf_2 rfl ?_
  refine z_istore_n (lv' := [(3, .int 0), (2, .int 0), (0, .ref x), (1, .int (nI t))]) B dX12_recordLengthOf_3 rfl (Nat.le_of_ble_eq_true rfl) rfl ?_
  refine z_lv [0, 1, 2, 3] rfl ?_
  refine z_loop (α := Nat × Nat) (fun (a9 : Nat × Nat) Φi => Im G x (rd, (NNq c), fl, pe, le, nx, il, qu, kn, ec, nu, va, st, ep, ti, ad, ob) Φi ∧ Fr x (fun j9 => False) Φ Φi ∧ (a9.1 ≤ 9) ∧ (a9.2 ≤ lpx a9.1) ∧ (a9.2 = lenR (tfF c t &&& c 9) a9.1) ∧ True) (fun a9 => [(3, .int (nI (a9.1))), (2, .int (nI (a9.2))), (0, .ref x), (1, .int (nI t))]) (fun a9 => 9 - a9.1) ?_ (0, 0) ⟨hI, fun _ _ => rfl, (show 0 ≤ 9 by omega), (Nat.zero_le _), rfl, trivial⟩
  rintro ⟨i_1, i_2⟩ Φl1 ⟨hI1, hF1, b_1, b_2, b_3, -⟩ ih1
  replace hI1 : Im G x (rd, (NNq c), fl, pe, le, nx, il, qu, kn, ec, nu, va, st, ep, ti, ad, ob) Φl1 := hI1
  replace b_1 : i_1 ≤ 9 := b_1
  replace b_2 : i_2 ≤ lpx i_1 := b_2
  replace b_3 : i_2 = lenR (tfF c t &&& c 9) i_1 := b_3
  show Z p9 l e9 _ s9 m9 _ w9 t9 k9 _ G 4 4 [(3, .int (nI i_1)), (2, .int (nI i_2)), (0, .ref x), (1, .int (nI t))] [] Φl1 _ _ _
  refine z_iload_n B dX12_recordLengthOf_4 rfl 0 rfl ?_
  have b_4 := lpx_le (k := i_1) (by omega)
  refine z_bipush (v := 9) B dX12_recordLengthOf_5 rfl ?_
  refine z_icmp_ge (tgt := 36) B dX12_recordLengthOf_7 rfl (fun c_1 => ?_) (fun c_1 => ?_)
  · have e_1 : 9 ≤ i_1 := (nI_leI (a := 9) (b := i_1) (by omega) (by omega)).mp c_1
    refine z_iload_n B dX12_recordLengthOf_36 rfl 1 rfl ?_
    exact z_ret_i B dX12_recordLengthOf_37 ⟨(congrArg (fun w9 : Nat => some (Value.int (nI w9))) (b_3.trans (congrArg (lenR (tfF c t &&& c 9)) (show i_1 = 9 by omega)))), rfl, hI1, (fun b9 h9 => ((hF1 b9 (fun j9 h8 h7 => (show False from h7).elim)).trans rfl))⟩
  · have e_2 : ¬ (9 ≤ i_1) := fun h9 => c_1 ((nI_leI (a := 9) (b := i_1) (by omega) (by omega)).mpr h9)
    refine z_aload_n B dX12_recordLengthOf_10 rfl 2 rfl ?_
    refine z_iload_n B dX12_recordLengthOf_11 rfl 3 rfl ?_
    obtain ⟨v_1, v_2, n_1, v_3, v_4, v_5, v_6, v_7, v_8, v_9, n_2, v_10, n_3, n_4, h_1, b_17, b_5, b_6, b_7, b_8, b_9, b_10, b_11, b_12, b_13, b_14, b_15, b_16⟩ := im0 hI1
    replace b_5 : 1 ≤ n_1 := b_5
    replace b_6 : n_1 ≤ 1024 := b_6
    replace b_7 : fl ≤ 12 := b_7
    replace b_8 : pe ≤ 24 := b_8
    replace b_9 : le ≤ 700 := b_9
    replace b_10 : qu ≤ 12 := b_10
    replace b_11 : n_2 ≤ 8 := b_11
    replace b_12 : n_3 ≤ 24 := b_12
    replace b_13 : n_4 ≤ 24 := b_13
    replace b_14 : il ≤ 700 := b_14
    replace b_15 : nx ≤ 701 := b_15
    replace b_16 : st ≤ 701 := b_16
    have h_2 : Φl1 x = some (o_ 14 [.int v_1, .ref (x + 1), .ref (x + 2), .int ti, .int v_2, .int (nI n_1), .int v_3, .int ad, .ref (x + 3), .ref (x + 4), .int v_4, .long v_5, .ref (x + 5), .int (nI fl), .int v_6, .long ob, .long v_7, .long v_8, .long v_9, .ref (x + 6), .ref (x + 7), .int (nI pe), .ref (x + 8), .int (nI le), .ref (x + 9), .ref (x + 10), .int (nI qu), .ref (x + 11), .ref (x + 12), .ref (x + 13), .ref (x + 14), .ref (x + 15), .ref (x + 16), .int (nI n_2), .long v_10, .ref (x + 17), .ref (x + 18), .ref (x + 19), .ref (x + 20), .ref (x + 21), .ref (x + 22), .int (nI n_3), .ref (x + 23), .ref (x + 24), .int (nI n_4), .ref (x + 25), .int (nI il), .int (nI nx), .int ec, .int ep, .int kn, .int (nI st), .int nu, .long va]) := h_1
    refine z_callV (As := [.int (nI t)]) (rest := []) B (r_effectiveC G l Φl1 sz x rd fl pe le nx il qu kn ec nu va st ep ti ad ob c t hx hI1 (show t < 4 by omega)) (cwV 1 B.1.2.2.2.2 gX12_recordLengthOf_X12_effective rfl rfl rfl (by decide +kernel) ⟨Nat.le_of_ble_eq_true rfl, Nat.le_of_ble_eq_true rfl⟩) h_2 rfl rfl rfl rfl (Nat.le_of_ble_eq_true rfl) dX12_recordLengthOf_12 ⟨Nat.le_of_ble_eq_true rfl, Nat.le_of_ble_eq_true rfl⟩ (fun r_1 Φ1 sz1 st1 hp1 hs1 => ?_)
    obtain ⟨rfl, hq1, hI2, hF2⟩ := hp1
    subst sz1
    replace hs1 : st1 = [.int (tfF c t &&& c 9)] := hs1
    subst st1
    replace hI2 : Im G x (rd, (NNq c), fl, pe, le, nx, il, qu, kn, ec, nu, va, st, ep, ti, ad, ob) Φ1 := hI2
    refine z_iload_n B dX12_recordLengthOf_15 rfl 0 rfl ?_
    refine z_ishr B dX12_recordLengthOf_16 ?_
    refine z_iconst (v := 1) B dX12_recordLengthOf_17 rfl ?_
    refine z_iand B dX12_recordLengthOf_18 ?_
    refine z_iconst (v := 1) B dX12_recordLengthOf_19 rfl ?_
    refine z_icmp_ne (tgt := 30) B dX12_recordLengthOf_20 rfl (fun c_2 => ?_) (fun c_2 => ?_)
    · refine z_iinc (k := 0) (v := nI (i_1 + 1)) (lv' := [(3, .int (nI (i_1 + 1))), (2, .int (nI i_2)), (0, .ref x), (1, .int (nI t))]) B dX12_recordLengthOf_30 rfl (nI_add i_1 1) (Nat.le_of_ble_eq_true rfl) rfl ?_
      refine z_goto (tgt := 4) B dX12_recordLengthOf_33 rfl ?_
      refine z_lv [0, 1, 2, 3] rfl ?_
      exact ih1 (i_1 + 1, i_2) Φ1 (show 9 - (i_1 + 1) < 9 - i_1 by omega) ⟨hI2, (fun b9 h9 => ((hF2 b9 (fun j9 h8 h7 => (show False from h7).elim)).trans ((hF1 b9 (fun j9 h8 h7 => (show False from h7).elim)).trans rfl))), (show (i_1 + 1) ≤ 9 by omega), (lpx_k b_2), (show _ by rw [lenR_n (show ¬ bitI (nI _) _ from c_2)]; omega), trivial⟩
    · refine z_iload_n B dX12_recordLengthOf_23 rfl 1 rfl ?_
      refine z_iload_n B dX12_recordLengthOf_24 rfl 0 rfl ?_
      refine z_callS (As := [.int (nI i_1)]) (rest := [.int (nI i_2)]) B (r_lengthOf G l Φ1 sz x rd (NNq c) fl pe le nx il qu kn ec nu va st ep ti ad ob i_1 hx hI2 (show i_1 < 2 ^ 31 by omega) (fun f9 h9 => h9.1)) (va_cwS 1 B.1.2.2.2.2 gX12_recordLengthOf_X12_lengthOf rfl rfl rfl (by decide +kernel) ⟨Nat.le_of_ble_eq_true rfl, Nat.le_of_ble_eq_true rfl⟩) rfl rfl (Nat.le_of_ble_eq_true rfl) dX12_recordLengthOf_25 ⟨Nat.le_of_ble_eq_true rfl, Nat.le_of_ble_eq_true rfl⟩ (fun r_2 Φ2 sz2 st2 hp2 hs2 => ?_)
      obtain ⟨rfl, hq2, hI3, hF3⟩ := hp2
      subst sz2
      replace hs2 : st2 = [.int (nI (lnN i_1)), .int (nI i_2)] := hs2
      subst st2
      have b_18 := lnN_pos i_1
      have b_19 := lnN_le i_1
      replace hI3 : Im G x (rd, (NNq c), fl, pe, le, nx, il, qu, kn, ec, nu, va, st, ep, ti, ad, ob) Φ2 := hI3
      refine z_iadd B dX12_recordLengthOf_28 ?_
      refine z_top (st1 := [.int (nI (i_2 + lnN i_1))]) (congrArg (fun w9 : Int32 => ([.int w9] : List Value)) (nI_add i_2 (lnN i_1))) ?_
      refine z_istore_n (lv' := [(2, .int (nI (i_2 + lnN i_1))), (3, .int (nI i_1)), (0, .ref x), (1, .int (nI t))]) B dX12_recordLengthOf_29 rfl (Nat.le_of_ble_eq_true rfl) rfl ?_
      refine z_iinc (k := 1) (v := nI (i_1 + 1)) (lv' := [(3, .int (nI (i_1 + 1))), (2, .int (nI (i_2 + lnN i_1))), (0, .ref x), (1, .int (nI t))]) B dX12_recordLengthOf_30 rfl (nI_add i_1 1) (Nat.le_of_ble_eq_true rfl) rfl ?_
      refine z_goto (tgt := 4) B dX12_recordLengthOf_33 rfl ?_
      refine z_lv [0, 1, 2, 3] rfl ?_
      exact ih1 (i_1 + 1, i_2 + lnN i_1) Φ2 (show 9 - (i_1 + 1) < 9 - i_1 by omega) ⟨hI3, (fun b9 h9 => ((hF3 b9 (fun j9 h8 h7 => (show False from h7).elim)).trans ((hF2 b9 (fun j9 h8 h7 => (show False from h7).elim)).trans ((hF1 b9 (fun j9 h8 h7 => (show False from h7).elim)).trans rfl)))), (show (i_1 + 1) ≤ 9 by omega), (lpx_s b_2), (show _ by rw [lenR_y (show bitI (nI _) _ from c_2)]; omega), trivial⟩

set_option maxHeartbeats 4000000 in
set_option maxRecDepth 100000 in
theorem r_isSupportedC (G : EnvG) (l : Launch) (Φ : Hm) (sz x : Nat) (rd : (Nat → Int32) → Prop) (fl : Nat) (pe : Nat) (le : Nat) (nx : Nat) (il : Nat) (qu : Nat) (kn : Int32) (ec : Int32) (nu : Int32) (va : Int64) (st : Nat) (ep : Int32) (ti : Int32) (ad : Int32) (ob : Int64) (c : Cf) (a : Int32) (hx : G.2.2.2 ≤ x) (hI : Im G x (rd, (NNq c), fl, pe, le, nx, il, qu, kn, ec, nu, va, st, ep, ti, ad, ob) Φ)  : Ct G l yX12_isSupported wsX12_isSupported ({ frames := 0, cells := 0, slots := 0, locals := 0 }) 0 0 [.ref x, .int a] Φ sz (fun v Φ1 sz1 => (v = some (.int (suV c a))) ∧ sz1 = sz ∧ (Im G x (rd, (NNq c), fl, pe, le, nx, il, qu, kn, ec, nu, va, st, ep, ti, ad, ob) Φ1) ∧ Fr x (fun j9 => False) Φ Φ1) := by
  refine Ct.of (cc := cX12_isSupported) (maxL := 2) (ret := (some .boolean)) (by decide) rfl (Nat.le_of_ble_eq_true rfl) ?_
  intro p9 e9 s9 m9 w9 t9 k9 B
  show Z p9 l e9 _ s9 m9 _ w9 t9 k9 _ G 2 0 [(0, .ref x), (1, .int a)] [] Φ sz 0 0
  refine z_aload_n B dX12_isSupported_0 rfl 0 rfl ?_
  obtain ⟨v_1, v_2, n_1, v_3, v_4, v_5, v_6, v_7, v_8, v_9, n_2, v_10, n_3, n_4, h_1, b_13, b_1, b_2, b_3, b_4, b_5, b_6, b_7, b_8, b_9, b_10, b_11, b_12⟩ := im0 hI
  replace b_1 : 1 ≤ n_1 := b_1
  replace b_2 : n_1 ≤ 1024 := b_2
  replace b_3 : fl ≤ 12 := b_3
  replace b_4 : pe ≤ 24 := b_4
  replace b_5 : le ≤ 700 := b_5
  replace b_6 : qu ≤ 12 := b_6
  replace b_7 : n_2 ≤ 8 := b_7
  replace b_8 : n_3 ≤ 24 := b_8
  replace b_9 : n_4 ≤ 24 := b_9
  replace b_10 : il ≤ 700 := b_10
  replace b_11 : nx ≤ 701 := b_11
  replace b_12 : st ≤ 701 := b_12
  have h_2 : Φ x = some (o_ 14 [.int v_1, .ref (x + 1), .ref (x + 2), .int ti, .int v_2, .int (nI n_1), .int v_3, .int ad, .ref (x + 3), .ref (x + 4), .int v_4, .long v_5, .ref (x + 5), .int (nI fl), .int v_6, .long ob, .long v_7, .long v_8, .long v_9, .ref (x + 6), .ref (x + 7), .int (nI pe), .ref (x + 8), .int (nI le), .ref (x + 9), .ref (x + 10), .int (nI qu), .ref (x + 11), .ref (x + 12), .ref (x + 13), .ref (x + 14), .ref (x + 15), .ref (x + 16), .int (nI n_2), .long v_10, .ref (x + 17), .ref (x + 18), .ref (x + 19), .ref (x + 20), .ref (x + 21), .ref (x + 22), .int (nI n_3), .ref (x + 23), .ref (x + 24), .int (nI n_4), .ref (x + 25), .int (nI il), .int (nI nx), .int ec, .int ep, .int kn, .int (nI st), .int nu, .long va]) := h_1
  refine z_get (ref := "FlowExporterModel") (C := RX12) (T := TX12) (N := 54) (ci := 14) (v := .ref (x + 2)) B hu_X12_isSupported_X12 rfl 2 (Nat.le_of_ble_eq_true rfl) hv_X12_isSupported_17 rfl h_2 rfl dX12_isSupported_1 ?_
  refine z_bipush (v := 9) B dX12_isSupported_4 rfl ?_
  obtain ⟨f_1, h_3, r_1⟩ := imk (k := 2) hI
  replace r_1 : (NNq c) f_1 := r_1
  have r_2 : NN f_1 := r_1.1
  have h_4 : Φ (x + 2) = some (ai_ G 307 f_1) := h_3
  refine z_iald B h_4 (vin rfl) dX12_isSupported_6 ?_
  refine z_iload_n B dX12_isSupported_7 rfl 1 rfl ?_
  refine z_ishr B dX12_isSupported_8 ?_
  refine z_iconst (v := 1) B dX12_isSupported_9 rfl ?_
  refine z_iand B dX12_isSupported_10 ?_
  refine z_iconst (v := 1) B dX12_isSupported_11 rfl ?_
  refine z_icmp_ne (tgt := 19) B dX12_isSupported_12 rfl (fun c_1 => ?_) (fun c_1 => ?_)
  · refine z_iconst (v := 0) B dX12_isSupported_19 rfl ?_
    exact z_ret_z B dX12_isSupported_20 (by decide) ⟨(congrArg (fun w9 : Int32 => some (Value.int w9)) (suV_0 (show ¬ bitI _ _ from ((r_1.2 9 (by decide)) ▸ c_1))).symm), rfl, hI, (fun b9 h9 => rfl)⟩
  · refine z_iconst (v := 1) B dX12_isSupported_15 rfl ?_
    refine z_goto (tgt := 20) B dX12_isSupported_16 rfl ?_
    exact z_ret_z B dX12_isSupported_20 (by decide) ⟨(congrArg (fun w9 : Int32 => some (Value.int w9)) (suV_1 (show bitI _ _ from ((r_1.2 9 (by decide)) ▸ c_1))).symm), rfl, hI, (fun b9 h9 => rfl)⟩

set_option maxHeartbeats 4000000 in
set_option maxRecDepth 100000 in
theorem r_isTemplateC (G : EnvG) (l : Launch) (Φ : Hm) (sz x : Nat) (rd : (Nat → Int32) → Prop) (fl : Nat) (pe : Nat) (le : Nat) (nx : Nat) (il : Nat) (qu : Nat) (kn : Int32) (ec : Int32) (nu : Int32) (va : Int64) (st : Nat) (ep : Int32) (ti : Int32) (ad : Int32) (ob : Int64) (c : Cf) (a : Int32) (hx : G.2.2.2 ≤ x) (hI : Im G x (rd, (NNq c), fl, pe, le, nx, il, qu, kn, ec, nu, va, st, ep, ti, ad, ob) Φ)  : Ct G l yX12_isTemplate wsX12_isTemplate ({ frames := 1, cells := 0, slots := 0, locals := 25 }) 0 0 [.ref x, .int a] Φ sz (fun v Φ1 sz1 => ((v = some (.int 0) ∧ ¬ InT c a) ∨ (v = some (.int 1) ∧ ∃ n9 : Nat, n9 < 4 ∧ a = nI n9 ∧ InT c a)) ∧ sz1 = sz ∧ (Im G x (rd, (NNq c), fl, pe, le, nx, il, qu, kn, ec, nu, va, st, ep, ti, ad, ob) Φ1) ∧ Fr x (fun j9 => False) Φ Φ1) := by
  refine Ct.of (cc := cX12_isTemplate) (maxL := 2) (ret := (some .boolean)) (by decide) rfl (Nat.le_of_ble_eq_true rfl) ?_
  intro p9 e9 s9 m9 w9 t9 k9 B
  show Z p9 l e9 _ s9 m9 _ w9 t9 k9 _ G 2 0 [(0, .ref x), (1, .int a)] [] Φ sz 0 0
  refine z_iload_n B dX12_isTemplate_0 rfl 1 rfl ?_
  refine z_i2l (v := a.toInt64) B dX12_isTemplate_1 rfl ?_
  refine z_lconst (v := 0) B dX12_isTemplate_2 rfl ?_
  refine z_aload_n B dX12_isTemplate_3 rfl 0 rfl ?_
  obtain ⟨v_1, v_2, n_1, v_3, v_4, v_5, v_6, v_7, v_8, v_9, n_2, v_10, n_3, n_4, h_1, b_13, b_1, b_2, b_3, b_4, b_5, b_6, b_7, b_8, b_9, b_10, b_11, b_12⟩ := im0 hI
  replace b_1 : 1 ≤ n_1 := b_1
  replace b_2 : n_1 ≤ 1024 := b_2
  replace b_3 : fl ≤ 12 := b_3
  replace b_4 : pe ≤ 24 := b_4
  replace b_5 : le ≤ 700 := b_5
  replace b_6 : qu ≤ 12 := b_6
  replace b_7 : n_2 ≤ 8 := b_7
  replace b_8 : n_3 ≤ 24 := b_8
  replace b_9 : n_4 ≤ 24 := b_9
  replace b_10 : il ≤ 700 := b_10
  replace b_11 : nx ≤ 701 := b_11
  replace b_12 : st ≤ 701 := b_12
  have h_2 : Φ x = some (o_ 14 [.int v_1, .ref (x + 1), .ref (x + 2), .int ti, .int v_2, .int (nI n_1), .int v_3, .int ad, .ref (x + 3), .ref (x + 4), .int v_4, .long v_5, .ref (x + 5), .int (nI fl), .int v_6, .long ob, .long v_7, .long v_8, .long v_9, .ref (x + 6), .ref (x + 7), .int (nI pe), .ref (x + 8), .int (nI le), .ref (x + 9), .ref (x + 10), .int (nI qu), .ref (x + 11), .ref (x + 12), .ref (x + 13), .ref (x + 14), .ref (x + 15), .ref (x + 16), .int (nI n_2), .long v_10, .ref (x + 17), .ref (x + 18), .ref (x + 19), .ref (x + 20), .ref (x + 21), .ref (x + 22), .int (nI n_3), .ref (x + 23), .ref (x + 24), .int (nI n_4), .ref (x + 25), .int (nI il), .int (nI nx), .int ec, .int ep, .int kn, .int (nI st), .int nu, .long va]) := h_1
  refine z_get (ref := "FlowExporterModel") (C := RX12) (T := TX12) (N := 54) (ci := 14) (v := .ref (x + 2)) B hu_X12_isTemplate_X12 rfl 2 (Nat.le_of_ble_eq_true rfl) hv_X12_isTemplate_17 rfl h_2 rfl dX12_isTemplate_4 ?_
  refine z_bipush (v := 10) B dX12_isTemplate_7 rfl ?_
  obtain ⟨f_1, h_3, r_1⟩ := imk (k := 2) hI
  replace r_1 : (NNq c) f_1 := r_1
  have r_2 : NN f_1 := r_1.1
  have h_4 : Φ (x + 2) = some (ai_ G 307 f_1) := h_3
  refine z_iald B h_4 (vin rfl) dX12_isTemplate_9 ?_
  obtain ⟨n_5, b_14, e_1⟩ := r_2.2.2.2.2.1
  refine z_top (st1 := [.int (nI n_5), .long 0, .long a.toInt64]) (congrArg (fun w9 : Int32 => ([.int w9, .long 0, .long a.toInt64] : List Value)) (e_1)) ?_
  refine z_iconst (v := 1) B dX12_isTemplate_10 rfl ?_
  refine z_isub B dX12_isTemplate_11 ?_
  refine z_i2l (v := (nI n_5 - 1).toInt64) B dX12_isTemplate_12 rfl ?_
  by_cases hR1 : inP a.toInt64 0 ((nI n_5 - 1).toInt64)
  · obtain ⟨n_6, e_2, e_3, e_4, rfl⟩ := in_get (L := 0) (H := ((n_5 : Nat) : Int) - 1) (by decide) (predL (by omega)) hR1
    refine z_callS (As := [.long ((nI n_6).toInt64), .long 0, .long ((nI n_5 - 1).toInt64)]) (rest := []) B (c_inR1 G l Φ sz ((nI n_6).toInt64) 0 ((nI n_5 - 1).toInt64) hR1 (fun v8 Φ8 sz8 => v8 = some (.int 1) ∧ sz8 = sz ∧ Im G x (rd, (NNq c), fl, pe, le, nx, il, qu, kn, ec, nu, va, st, ep, ti, ad, ob) Φ8 ∧ Fr x (fun j9 => False) Φ Φ8) ⟨rfl, rfl, hI, fun _ _ => rfl⟩) (va_cwS 3 B.1.2.2.2.2 gX12_isTemplate_X12_inRange rfl rfl rfl (by decide +kernel) ⟨Nat.le_of_ble_eq_true rfl, Nat.le_of_ble_eq_true rfl⟩) rfl rfl (Nat.le_of_ble_eq_true rfl) dX12_isTemplate_13 ⟨Nat.le_of_ble_eq_true rfl, Nat.le_of_ble_eq_true rfl⟩ (fun r_3 Φ1 sz1 st1 hp1 hs1 => ?_)
    obtain ⟨rfl, hq1, hI1, hF1⟩ := hp1
    subst sz1
    replace hs1 : st1 = [.int 1] := hs1
    subst st1
    exact z_ret_z B dX12_isTemplate_16 (by decide) ⟨(Or.inr ⟨rfl, n_6, (show n_6 < 4 by omega), rfl, (InT_q r_1 e_1 b_14).mpr ⟨n_6, by omega, rfl⟩⟩), rfl, hI1, (fun b9 h9 => ((hF1 b9 (fun j9 h8 h7 => (show False from h7).elim)).trans rfl))⟩
  · refine z_callS (As := [.long a.toInt64, .long 0, .long ((nI n_5 - 1).toInt64)]) (rest := []) B (c_inR0 G l Φ sz a.toInt64 0 ((nI n_5 - 1).toInt64) hR1 (fun v8 Φ8 sz8 => v8 = some (.int 0) ∧ sz8 = sz ∧ Im G x (rd, (NNq c), fl, pe, le, nx, il, qu, kn, ec, nu, va, st, ep, ti, ad, ob) Φ8 ∧ Fr x (fun j9 => False) Φ Φ8) ⟨rfl, rfl, hI, fun _ _ => rfl⟩) (va_cwS 3 B.1.2.2.2.2 gX12_isTemplate_X12_inRange rfl rfl rfl (by decide +kernel) ⟨Nat.le_of_ble_eq_true rfl, Nat.le_of_ble_eq_true rfl⟩) rfl rfl (Nat.le_of_ble_eq_true rfl) dX12_isTemplate_13 ⟨Nat.le_of_ble_eq_true rfl, Nat.le_of_ble_eq_true rfl⟩ (fun r_4 Φ2 sz2 st2 hp2 hs2 => ?_)
    obtain ⟨rfl, hq2, hI2, hF2⟩ := hp2
    subst sz2
    replace hs2 : st2 = [.int 0] := hs2
    subst st2
    exact z_ret_z B dX12_isTemplate_16 (by decide) ⟨(Or.inl ⟨rfl, fun h7 => by obtain ⟨n9, h8, h9⟩ := (InT_q r_1 e_1 b_14).mp h7; exact hR1 (by subst h9; exact (in_nat (m := n9) (L := 0) (H := ((n_5 : Nat) : Int) - 1) (by decide) (predL (by omega)) (by omega)).mpr ⟨by omega, by omega⟩)⟩), rfl, hI2, (fun b9 h9 => ((hF2 b9 (fun j9 h8 h7 => (show False from h7).elim)).trans rfl))⟩

set_option maxHeartbeats 4000000 in
set_option maxRecDepth 100000 in
theorem r_throwsIf0 (G : EnvG) (l : Launch) (Φ : Hm) (sz x : Nat) (rd : (Nat → Int32) → Prop) (nw : (Nat → Int32) → Prop) (fl : Nat) (pe : Nat) (le : Nat) (nx : Nat) (il : Nat) (qu : Nat) (kn : Int32) (ec : Int32) (nu : Int32) (va : Int64) (st : Nat) (ep : Int32) (ti : Int32) (ad : Int32) (ob : Int64)  (hx : G.2.2.2 ≤ x) (hI : Im G x (rd, nw, fl, pe, le, nx, il, qu, kn, ec, nu, va, st, ep, ti, ad, ob) Φ) (hnw : ∀ f9 : Nat → Int32, nw f9 → NN f9) : Ct G l yX12_throwsIf wsX12_throwsIf ({ frames := 0, cells := 0, slots := 0, locals := 0 }) 0 0 [.ref x, .int 0, .int 1] Φ sz (fun v Φ1 sz1 => (v = some (.int 0)) ∧ sz1 = sz ∧ (Im G x (rd, nw, fl, pe, le, nx, il, qu, kn, ec, nu, va, st, ep, ti, ad, ob) Φ1) ∧ Fr x (fun j9 => False) Φ Φ1) := by
  refine Ct.of (cc := cX12_throwsIf) (maxL := 3) (ret := (some .boolean)) (by decide) rfl (Nat.le_of_ble_eq_true rfl) ?_
  intro p9 e9 s9 m9 w9 t9 k9 B
  show Z p9 l e9 _ s9 m9 _ w9 t9 k9 _ G 3 0 [(0, .ref x), (1, .int 0), (2, .int 1)] [] Φ sz 0 0
  refine z_iload_n B dX12_throwsIf_0 rfl 1 rfl ?_
  refine z_if_eq (tgt := 9) B dX12_throwsIf_1 rfl (fun c_1 => ?_) (fun h9 => absurd (by decide) h9)
  refine z_iload_n B dX12_throwsIf_9 rfl 1 rfl ?_
  exact z_ret_z B dX12_throwsIf_10 (by decide) ⟨rfl, rfl, hI, (fun b9 h9 => rfl)⟩

set_option maxHeartbeats 4000000 in
set_option maxRecDepth 100000 in
theorem r_throwsIf1 (G : EnvG) (l : Launch) (Φ : Hm) (sz x : Nat) (rd : (Nat → Int32) → Prop) (nw : (Nat → Int32) → Prop) (fl : Nat) (pe : Nat) (le : Nat) (nx : Nat) (il : Nat) (qu : Nat) (kn : Int32) (ec : Int32) (nu : Int32) (va : Int64) (st : Nat) (ep : Int32) (ti : Int32) (ad : Int32) (ob : Int64)  (hx : G.2.2.2 ≤ x) (hI : Im G x (rd, nw, fl, pe, le, nx, il, qu, kn, ec, nu, va, st, ep, ti, ad, ob) Φ) (hnw : ∀ f9 : Nat → Int32, nw f9 → NN f9) : Ct G l yX12_throwsIf wsX12_throwsIf ({ frames := 0, cells := 0, slots := 0, locals := 0 }) 0 0 [.ref x, .int 1, .int 1] Φ sz (fun v Φ1 sz1 => (v = some (.int 1) ∧ ∃ l9 : List Value, Φ1 x = some (o_ 14 (.int 1 :: l9))) ∧ sz1 = sz ∧ (Im G x (rd, nw, fl, pe, le, nx, il, qu, kn, ec, nu, va, st, ep, ti, ad, ob) Φ1) ∧ Fr x (fun j9 => j9 = 0) Φ Φ1) := by
  refine Ct.of (cc := cX12_throwsIf) (maxL := 3) (ret := (some .boolean)) (by decide) rfl (Nat.le_of_ble_eq_true rfl) ?_
  intro p9 e9 s9 m9 w9 t9 k9 B
  show Z p9 l e9 _ s9 m9 _ w9 t9 k9 _ G 3 0 [(0, .ref x), (1, .int 1), (2, .int 1)] [] Φ sz 0 0
  refine z_iload_n B dX12_throwsIf_0 rfl 1 rfl ?_
  refine z_if_eq (tgt := 9) B dX12_throwsIf_1 rfl (fun h9 => absurd h9 (by decide)) (fun c_1 => ?_)
  refine z_aload_n B dX12_throwsIf_4 rfl 0 rfl ?_
  refine z_iload_n B dX12_throwsIf_5 rfl 2 rfl ?_
  obtain ⟨v_1, v_2, n_1, v_3, v_4, v_5, v_6, v_7, v_8, v_9, n_2, v_10, n_3, n_4, h_1, b_13, b_1, b_2, b_3, b_4, b_5, b_6, b_7, b_8, b_9, b_10, b_11, b_12⟩ := im0 hI
  replace b_1 : 1 ≤ n_1 := b_1
  replace b_2 : n_1 ≤ 1024 := b_2
  replace b_3 : fl ≤ 12 := b_3
  replace b_4 : pe ≤ 24 := b_4
  replace b_5 : le ≤ 700 := b_5
  replace b_6 : qu ≤ 12 := b_6
  replace b_7 : n_2 ≤ 8 := b_7
  replace b_8 : n_3 ≤ 24 := b_8
  replace b_9 : n_4 ≤ 24 := b_9
  replace b_10 : il ≤ 700 := b_10
  replace b_11 : nx ≤ 701 := b_11
  replace b_12 : st ≤ 701 := b_12
  have h_2 : Φ x = some (o_ 14 [.int v_1, .ref (x + 1), .ref (x + 2), .int ti, .int v_2, .int (nI n_1), .int v_3, .int ad, .ref (x + 3), .ref (x + 4), .int v_4, .long v_5, .ref (x + 5), .int (nI fl), .int v_6, .long ob, .long v_7, .long v_8, .long v_9, .ref (x + 6), .ref (x + 7), .int (nI pe), .ref (x + 8), .int (nI le), .ref (x + 9), .ref (x + 10), .int (nI qu), .ref (x + 11), .ref (x + 12), .ref (x + 13), .ref (x + 14), .ref (x + 15), .ref (x + 16), .int (nI n_2), .long v_10, .ref (x + 17), .ref (x + 18), .ref (x + 19), .ref (x + 20), .ref (x + 21), .ref (x + 22), .int (nI n_3), .ref (x + 23), .ref (x + 24), .int (nI n_4), .ref (x + 25), .int (nI il), .int (nI nx), .int ec, .int ep, .int kn, .int (nI st), .int nu, .long va]) := h_1
  refine z_put (ref := "FlowExporterModel") (C := RX12) (T := TX12) (N := 54) (ci := 14) (v := .int 1) B hu_X12_throwsIf_X12 tyX12 tyX12_ok nmX12 rfl 0 (Nat.le_of_ble_eq_true rfl) hv_X12_throwsIf_1 rfl (Or.inl rfl) h_2 hx rfl rfl (Nat.le_of_ble_eq_true rfl) dX12_throwsIf_6 (fun Φ1 hΦ1 => ?_)
  have h_3 : Φ1 x = some (o_ 14 [.int 1, .ref (x + 1), .ref (x + 2), .int ti, .int v_2, .int (nI n_1), .int v_3, .int ad, .ref (x + 3), .ref (x + 4), .int v_4, .long v_5, .ref (x + 5), .int (nI fl), .int v_6, .long ob, .long v_7, .long v_8, .long v_9, .ref (x + 6), .ref (x + 7), .int (nI pe), .ref (x + 8), .int (nI le), .ref (x + 9), .ref (x + 10), .int (nI qu), .ref (x + 11), .ref (x + 12), .ref (x + 13), .ref (x + 14), .ref (x + 15), .ref (x + 16), .int (nI n_2), .long v_10, .ref (x + 17), .ref (x + 18), .ref (x + 19), .ref (x + 20), .ref (x + 21), .ref (x + 22), .int (nI n_3), .ref (x + 23), .ref (x + 24), .int (nI n_4), .ref (x + 25), .int (nI il), .int (nI nx), .int ec, .int ep, .int kn, .int (nI st), .int nu, .long va]) := fset_at hΦ1
  have hI1 : Im G x (rd, nw, fl, pe, le, nx, il, qu, kn, ec, nu, va, st, ep, ti, ad, ob) Φ1 := Im.put0 hI hΦ1 ⟨1, v_2, n_1, v_3, v_4, v_5, v_6, v_7, v_8, v_9, n_2, v_10, n_3, n_4, rfl, b_13, b_1, b_2, b_3, b_4, b_5, b_6, b_7, b_8, b_9, b_10, b_11, b_12⟩
  refine z_iload_n B dX12_throwsIf_9 rfl 1 rfl ?_
  exact z_ret_z B dX12_throwsIf_10 (by decide) ⟨⟨rfl, _, h_3⟩, rfl, hI1, (fun b9 h9 => ((fset_fr hΦ1 (fun h8 => h9 (0) h8 (show 0 = 0 by decide))).trans rfl))⟩

set_option maxHeartbeats 4000000 in
set_option maxRecDepth 100000 in
theorem r_templateFieldsC (G : EnvG) (l : Launch) (Φ : Hm) (sz x : Nat) (rd : (Nat → Int32) → Prop) (fl : Nat) (pe : Nat) (le : Nat) (nx : Nat) (il : Nat) (qu : Nat) (kn : Int32) (ec : Int32) (nu : Int32) (va : Int64) (st : Nat) (ep : Int32) (ti : Int32) (ad : Int32) (ob : Int64) (c : Cf) (a : Int32) (hx : G.2.2.2 ≤ x) (hI : Im G x (rd, (NNq c), fl, pe, le, nx, il, qu, kn, ec, nu, va, st, ep, ti, ad, ob) Φ)  : Ct G l yX12_templateFields wsX12_templateFields ({ frames := 2, cells := 0, slots := 0, locals := 46 }) 0 0 [.ref x, .int a] Φ sz (fun v Φ1 sz1 => (∃ (r9 th9 : Int32) (l9 : List Value), v = some (.int r9) ∧ Φ1 x = some (o_ 14 (.int th9 :: l9)) ∧ AnsR (InT c a) True (tfF c a.toNatClampNeg).toInt64 th9 r9.toInt64) ∧ sz1 = sz ∧ (Im G x (rd, (NNq c), fl, pe, le, nx, il, qu, kn, ec, nu, va, st, ep, ti, ad, ob) Φ1) ∧ Fr x (fun j9 => j9 = 0) Φ Φ1) := by
  refine Ct.of (cc := cX12_templateFields) (maxL := 2) (ret := (some .int)) (by decide) rfl (Nat.le_of_ble_eq_true rfl) ?_
  intro p9 e9 s9 m9 w9 t9 k9 B
  show Z p9 l e9 _ s9 m9 _ w9 t9 k9 _ G 2 0 [(0, .ref x), (1, .int a)] [] Φ sz 0 0
  refine z_aload_n B dX12_templateFields_0 rfl 0 rfl ?_
  refine z_iconst (v := 0) B dX12_templateFields_1 rfl ?_
  obtain ⟨v_1, v_2, n_1, v_3, v_4, v_5, v_6, v_7, v_8, v_9, n_2, v_10, n_3, n_4, h_1, b_13, b_1, b_2, b_3, b_4, b_5, b_6, b_7, b_8, b_9, b_10, b_11, b_12⟩ := im0 hI
  replace b_1 : 1 ≤ n_1 := b_1
  replace b_2 : n_1 ≤ 1024 := b_2
  replace b_3 : fl ≤ 12 := b_3
  replace b_4 : pe ≤ 24 := b_4
  replace b_5 : le ≤ 700 := b_5
  replace b_6 : qu ≤ 12 := b_6
  replace b_7 : n_2 ≤ 8 := b_7
  replace b_8 : n_3 ≤ 24 := b_8
  replace b_9 : n_4 ≤ 24 := b_9
  replace b_10 : il ≤ 700 := b_10
  replace b_11 : nx ≤ 701 := b_11
  replace b_12 : st ≤ 701 := b_12
  have h_2 : Φ x = some (o_ 14 [.int v_1, .ref (x + 1), .ref (x + 2), .int ti, .int v_2, .int (nI n_1), .int v_3, .int ad, .ref (x + 3), .ref (x + 4), .int v_4, .long v_5, .ref (x + 5), .int (nI fl), .int v_6, .long ob, .long v_7, .long v_8, .long v_9, .ref (x + 6), .ref (x + 7), .int (nI pe), .ref (x + 8), .int (nI le), .ref (x + 9), .ref (x + 10), .int (nI qu), .ref (x + 11), .ref (x + 12), .ref (x + 13), .ref (x + 14), .ref (x + 15), .ref (x + 16), .int (nI n_2), .long v_10, .ref (x + 17), .ref (x + 18), .ref (x + 19), .ref (x + 20), .ref (x + 21), .ref (x + 22), .int (nI n_3), .ref (x + 23), .ref (x + 24), .int (nI n_4), .ref (x + 25), .int (nI il), .int (nI nx), .int ec, .int ep, .int kn, .int (nI st), .int nu, .long va]) := h_1
  refine z_put (ref := "FlowExporterModel") (C := RX12) (T := TX12) (N := 54) (ci := 14) (v := .int 0) B hu_X12_templateFields_X12 tyX12 tyX12_ok nmX12 rfl 0 (Nat.le_of_ble_eq_true rfl) hv_X12_templateFields_1 rfl (Or.inl rfl) h_2 hx rfl rfl (Nat.le_of_ble_eq_true rfl) dX12_templateFields_2 (fun Φ1 hΦ1 => ?_)
  have h_3 : Φ1 x = some (o_ 14 [.int 0, .ref (x + 1), .ref (x + 2), .int ti, .int v_2, .int (nI n_1), .int v_3, .int ad, .ref (x + 3), .ref (x + 4), .int v_4, .long v_5, .ref (x + 5), .int (nI fl), .int v_6, .long ob, .long v_7, .long v_8, .long v_9, .ref (x + 6), .ref (x + 7), .int (nI pe), .ref (x + 8), .int (nI le), .ref (x + 9), .ref (x + 10), .int (nI qu), .ref (x + 11), .ref (x + 12), .ref (x + 13), .ref (x + 14), .ref (x + 15), .ref (x + 16), .int (nI n_2), .long v_10, .ref (x + 17), .ref (x + 18), .ref (x + 19), .ref (x + 20), .ref (x + 21), .ref (x + 22), .int (nI n_3), .ref (x + 23), .ref (x + 24), .int (nI n_4), .ref (x + 25), .int (nI il), .int (nI nx), .int ec, .int ep, .int kn, .int (nI st), .int nu, .long va]) := fset_at hΦ1
  have hI1 : Im G x (rd, (NNq c), fl, pe, le, nx, il, qu, kn, ec, nu, va, st, ep, ti, ad, ob) Φ1 := Im.put0 hI hΦ1 ⟨0, v_2, n_1, v_3, v_4, v_5, v_6, v_7, v_8, v_9, n_2, v_10, n_3, n_4, rfl, b_13, b_1, b_2, b_3, b_4, b_5, b_6, b_7, b_8, b_9, b_10, b_11, b_12⟩
  refine z_aload_n B dX12_templateFields_5 rfl 0 rfl ?_
  refine z_aload_n B dX12_templateFields_6 rfl 0 rfl ?_
  refine z_iload_n B dX12_templateFields_7 rfl 1 rfl ?_
  refine z_callV (As := [.int a]) (rest := [.ref x]) B (r_isTemplateC G l Φ1 sz x rd fl pe le nx il qu kn ec nu va st ep ti ad ob c a hx hI1 ) (cwV 1 B.1.2.2.2.2 gX12_templateFields_X12_isTemplate rfl rfl rfl (by decide +kernel) ⟨Nat.le_of_ble_eq_true rfl, Nat.le_of_ble_eq_true rfl⟩) h_3 rfl rfl rfl rfl (Nat.le_of_ble_eq_true rfl) dX12_templateFields_8 ⟨Nat.le_of_ble_eq_true rfl, Nat.le_of_ble_eq_true rfl⟩ (fun r_1 Φ2 sz1 st1 hp1 hs1 => ?_)
  obtain ⟨ha1, hq1, hI2, hF1⟩ := hp1
  subst sz1
  replace hI2 : Im G x (rd, (NNq c), fl, pe, le, nx, il, qu, kn, ec, nu, va, st, ep, ti, ad, ob) Φ2 := hI2
  rcases ha1 with ⟨rfl, hq2⟩ | ⟨rfl, n_5, b_14, rfl, hq3⟩
  · replace hs1 : st1 = [.int 0, .ref x] := hs1
    subst st1
    refine z_if_ne (tgt := 18) B dX12_templateFields_11 rfl (fun h9 => absurd (by decide) h9) (fun c_1 => ?_)
    refine z_iconst (v := 1) B dX12_templateFields_14 rfl ?_
    refine z_goto (tgt := 19) B dX12_templateFields_15 rfl ?_
    refine z_iconst (v := 1) B dX12_templateFields_19 rfl ?_
    have h_4 : Φ2 x = some (o_ 14 [.int 0, .ref (x + 1), .ref (x + 2), .int ti, .int v_2, .int (nI n_1), .int v_3, .int ad, .ref (x + 3), .ref (x + 4), .int v_4, .long v_5, .ref (x + 5), .int (nI fl), .int v_6, .long ob, .long v_7, .long v_8, .long v_9, .ref (x + 6), .ref (x + 7), .int (nI pe), .ref (x + 8), .int (nI le), .ref (x + 9), .ref (x + 10), .int (nI qu), .ref (x + 11), .ref (x + 12), .ref (x + 13), .ref (x + 14), .ref (x + 15), .ref (x + 16), .int (nI n_2), .long v_10, .ref (x + 17), .ref (x + 18), .ref (x + 19), .ref (x + 20), .ref (x + 21), .ref (x + 22), .int (nI n_3), .ref (x + 23), .ref (x + 24), .int (nI n_4), .ref (x + 25), .int (nI il), .int (nI nx), .int ec, .int ep, .int kn, .int (nI st), .int nu, .long va]) := ((hF1 x (fun j9 h8 h7 => (show False from h7).elim)).trans h_3)
    refine z_callV (As := [.int 1, .int 1]) (rest := []) B (r_throwsIf1 G l Φ2 sz x rd (NNq c) fl pe le nx il qu kn ec nu va st ep ti ad ob  hx hI2 (fun f9 h9 => h9.1)) (cwV 2 B.1.2.2.2.2 gX12_templateFields_X12_throwsIf rfl rfl rfl (by decide +kernel) ⟨Nat.le_of_ble_eq_true rfl, Nat.le_of_ble_eq_true rfl⟩) h_4 rfl rfl rfl rfl (Nat.le_of_ble_eq_true rfl) dX12_templateFields_20 ⟨Nat.le_of_ble_eq_true rfl, Nat.le_of_ble_eq_true rfl⟩ (fun r_2 Φ3 sz2 st2 hp2 hs2 => ?_)
    obtain ⟨⟨rfl, l_1, h_5⟩, hq4, hI3, hF2⟩ := hp2
    subst sz2
    replace hs2 : st2 = [.int 1] := hs2
    subst st2
    replace hI3 : Im G x (rd, (NNq c), fl, pe, le, nx, il, qu, kn, ec, nu, va, st, ep, ti, ad, ob) Φ3 := hI3
    refine z_if_eq (tgt := 30) B dX12_templateFields_23 rfl (fun h9 => absurd h9 (by decide)) (fun c_2 => ?_)
    refine z_iconst (v := 0) B dX12_templateFields_26 rfl ?_
    refine z_goto (tgt := 35) B dX12_templateFields_27 rfl ?_
    exact z_ret_i B dX12_templateFields_35 ⟨⟨0, 1, l_1, rfl, h_5, Or.inr (Or.inl ⟨hq2, rfl⟩)⟩, rfl, hI3, (fun b9 h9 => ((hF2 b9 h9).trans ((hF1 b9 (fun j9 h8 h7 => (show False from h7).elim)).trans ((fset_fr hΦ1 (fun h8 => h9 (0) h8 (show 0 = 0 by decide))).trans rfl))))⟩
  · replace hs1 : st1 = [.int 1, .ref x] := hs1
    subst st1
    replace b_14 : n_5 < 4 := b_14
    refine z_if_ne (tgt := 18) B dX12_templateFields_11 rfl (fun c_3 => ?_) (fun h9 => absurd h9 (by decide))
    refine z_iconst (v := 0) B dX12_templateFields_18 rfl ?_
    refine z_iconst (v := 1) B dX12_templateFields_19 rfl ?_
    have h_6 : Φ2 x = some (o_ 14 [.int 0, .ref (x + 1), .ref (x + 2), .int ti, .int v_2, .int (nI n_1), .int v_3, .int ad, .ref (x + 3), .ref (x + 4), .int v_4, .long v_5, .ref (x + 5), .int (nI fl), .int v_6, .long ob, .long v_7, .long v_8, .long v_9, .ref (x + 6), .ref (x + 7), .int (nI pe), .ref (x + 8), .int (nI le), .ref (x + 9), .ref (x + 10), .int (nI qu), .ref (x + 11), .ref (x + 12), .ref (x + 13), .ref (x + 14), .ref (x + 15), .ref (x + 16), .int (nI n_2), .long v_10, .ref (x + 17), .ref (x + 18), .ref (x + 19), .ref (x + 20), .ref (x + 21), .ref (x + 22), .int (nI n_3), .ref (x + 23), .ref (x + 24), .int (nI n_4), .ref (x + 25), .int (nI il), .int (nI nx), .int ec, .int ep, .int kn, .int (nI st), .int nu, .long va]) := ((hF1 x (fun j9 h8 h7 => (show False from h7).elim)).trans h_3)
    refine z_callV (As := [.int 0, .int 1]) (rest := []) B (r_throwsIf0 G l Φ2 sz x rd (NNq c) fl pe le nx il qu kn ec nu va st ep ti ad ob  hx hI2 (fun f9 h9 => h9.1)) (cwV 2 B.1.2.2.2.2 gX12_templateFields_X12_throwsIf rfl rfl rfl (by decide +kernel) ⟨Nat.le_of_ble_eq_true rfl, Nat.le_of_ble_eq_true rfl⟩) h_6 rfl rfl rfl rfl (Nat.le_of_ble_eq_true rfl) dX12_templateFields_20 ⟨Nat.le_of_ble_eq_true rfl, Nat.le_of_ble_eq_true rfl⟩ (fun r_3 Φ4 sz3 st3 hp3 hs3 => ?_)
    obtain ⟨rfl, hq5, hI4, hF3⟩ := hp3
    subst sz3
    replace hs3 : st3 = [.int 0] := hs3
    subst st3
    replace hI4 : Im G x (rd, (NNq c), fl, pe, le, nx, il, qu, kn, ec, nu, va, st, ep, ti, ad, ob) Φ4 := hI4
    refine z_if_eq (tgt := 30) B dX12_templateFields_23 rfl (fun c_4 => ?_) (fun h9 => absurd (by decide) h9)
    refine z_aload_n B dX12_templateFields_30 rfl 0 rfl ?_
    refine z_iload_n B dX12_templateFields_31 rfl 1 rfl ?_
    have h_7 : Φ4 x = some (o_ 14 [.int 0, .ref (x + 1), .ref (x + 2), .int ti, .int v_2, .int (nI n_1), .int v_3, .int ad, .ref (x + 3), .ref (x + 4), .int v_4, .long v_5, .ref (x + 5), .int (nI fl), .int v_6, .long ob, .long v_7, .long v_8, .long v_9, .ref (x + 6), .ref (x + 7), .int (nI pe), .ref (x + 8), .int (nI le), .ref (x + 9), .ref (x + 10), .int (nI qu), .ref (x + 11), .ref (x + 12), .ref (x + 13), .ref (x + 14), .ref (x + 15), .ref (x + 16), .int (nI n_2), .long v_10, .ref (x + 17), .ref (x + 18), .ref (x + 19), .ref (x + 20), .ref (x + 21), .ref (x + 22), .int (nI n_3), .ref (x + 23), .ref (x + 24), .int (nI n_4), .ref (x + 25), .int (nI il), .int (nI nx), .int ec, .int ep, .int kn, .int (nI st), .int nu, .long va]) := ((hF3 x (fun j9 h8 h7 => (show False from h7).elim)).trans h_6)
    refine z_callV (As := [.int (nI n_5)]) (rest := []) B (r_fieldsOfC G l Φ4 sz x rd fl pe le nx il qu kn ec nu va st ep ti ad ob c n_5 hx hI4 (show n_5 < 4 by omega)) (cwV 1 B.1.2.2.2.2 gX12_templateFields_X12_fieldsOf rfl rfl rfl (by decide +kernel) ⟨Nat.le_of_ble_eq_true rfl, Nat.le_of_ble_eq_true rfl⟩) h_7 rfl rfl rfl rfl (Nat.le_of_ble_eq_true rfl) dX12_templateFields_32 ⟨Nat.le_of_ble_eq_true rfl, Nat.le_of_ble_eq_true rfl⟩ (fun r_4 Φ5 sz4 st4 hp4 hs4 => ?_)
    obtain ⟨rfl, hq6, hI5, hF4⟩ := hp4
    subst sz4
    replace hs4 : st4 = [.int (tfF c n_5)] := hs4
    subst st4
    replace hI5 : Im G x (rd, (NNq c), fl, pe, le, nx, il, qu, kn, ec, nu, va, st, ep, ti, ad, ob) Φ5 := hI5
    have h_8 : Φ5 x = some (o_ 14 [.int 0, .ref (x + 1), .ref (x + 2), .int ti, .int v_2, .int (nI n_1), .int v_3, .int ad, .ref (x + 3), .ref (x + 4), .int v_4, .long v_5, .ref (x + 5), .int (nI fl), .int v_6, .long ob, .long v_7, .long v_8, .long v_9, .ref (x + 6), .ref (x + 7), .int (nI pe), .ref (x + 8), .int (nI le), .ref (x + 9), .ref (x + 10), .int (nI qu), .ref (x + 11), .ref (x + 12), .ref (x + 13), .ref (x + 14), .ref (x + 15), .ref (x + 16), .int (nI n_2), .long v_10, .ref (x + 17), .ref (x + 18), .ref (x + 19), .ref (x + 20), .ref (x + 21), .ref (x + 22), .int (nI n_3), .ref (x + 23), .ref (x + 24), .int (nI n_4), .ref (x + 25), .int (nI il), .int (nI nx), .int ec, .int ep, .int kn, .int (nI st), .int nu, .long va]) := ((hF4 x (fun j9 h8 h7 => (show False from h7).elim)).trans h_7)
    exact z_ret_i B dX12_templateFields_35 ⟨⟨tfF c n_5, 0, _, rfl, h_8, Or.inl ⟨hq3, trivial, rfl, (congrArg Int32.toInt64 (show tfF c n_5 = tfF c n_5 from rfl)).trans (congrArg (fun w9 : Nat => (tfF c w9).toInt64) (nI_clamp (n := n_5) (by omega)).symm)⟩⟩, rfl, hI5, (fun b9 h9 => ((hF4 b9 (fun j9 h8 h7 => (show False from h7).elim)).trans ((hF3 b9 (fun j9 h8 h7 => (show False from h7).elim)).trans ((hF1 b9 (fun j9 h8 h7 => (show False from h7).elim)).trans ((fset_fr hΦ1 (fun h8 => h9 (0) h8 (show 0 = 0 by decide))).trans rfl)))))⟩

set_option maxHeartbeats 4000000 in
set_option maxRecDepth 100000 in
theorem r_effectiveFieldsC (G : EnvG) (l : Launch) (Φ : Hm) (sz x : Nat) (rd : (Nat → Int32) → Prop) (fl : Nat) (pe : Nat) (le : Nat) (nx : Nat) (il : Nat) (qu : Nat) (kn : Int32) (ec : Int32) (nu : Int32) (va : Int64) (st : Nat) (ep : Int32) (ti : Int32) (ad : Int32) (ob : Int64) (c : Cf) (a : Int32) (hx : G.2.2.2 ≤ x) (hI : Im G x (rd, (NNq c), fl, pe, le, nx, il, qu, kn, ec, nu, va, st, ep, ti, ad, ob) Φ)  : Ct G l yX12_effectiveFields wsX12_effectiveFields ({ frames := 3, cells := 0, slots := 0, locals := 66 }) 0 0 [.ref x, .int a] Φ sz (fun v Φ1 sz1 => (∃ (r9 th9 : Int32) (l9 : List Value), v = some (.int r9) ∧ Φ1 x = some (o_ 14 (.int th9 :: l9)) ∧ AnsR (InT c a) True (tfF c a.toNatClampNeg &&& c 9).toInt64 th9 r9.toInt64) ∧ sz1 = sz ∧ (Im G x (rd, (NNq c), fl, pe, le, nx, il, qu, kn, ec, nu, va, st, ep, ti, ad, ob) Φ1) ∧ Fr x (fun j9 => j9 = 0) Φ Φ1) := by
  refine Ct.of (cc := cX12_effectiveFields) (maxL := 2) (ret := (some .int)) (by decide) rfl (Nat.le_of_ble_eq_true rfl) ?_
  intro p9 e9 s9 m9 w9 t9 k9 B
  show Z p9 l e9 _ s9 m9 _ w9 t9 k9 _ G 2 0 [(0, .ref x), (1, .int a)] [] Φ sz 0 0
  refine z_aload_n B dX12_effectiveFields_0 rfl 0 rfl ?_
  refine z_iconst (v := 0) B dX12_effectiveFields_1 rfl ?_
  obtain ⟨v_1, v_2, n_1, v_3, v_4, v_5, v_6, v_7, v_8, v_9, n_2, v_10, n_3, n_4, h_1, b_13, b_1, b_2, b_3, b_4, b_5, b_6, b_7, b_8, b_9, b_10, b_11, b_12⟩ := im0 hI
  replace b_1 : 1 ≤ n_1 := b_1
  replace b_2 : n_1 ≤ 1024 := b_2
  replace b_3 : fl ≤ 12 := b_3
  replace b_4 : pe ≤ 24 := b_4
  replace b_5 : le ≤ 700 := b_5
  replace b_6 : qu ≤ 12 := b_6
  replace b_7 : n_2 ≤ 8 := b_7
  replace b_8 : n_3 ≤ 24 := b_8
  replace b_9 : n_4 ≤ 24 := b_9
  replace b_10 : il ≤ 700 := b_10
  replace b_11 : nx ≤ 701 := b_11
  replace b_12 : st ≤ 701 := b_12
  have h_2 : Φ x = some (o_ 14 [.int v_1, .ref (x + 1), .ref (x + 2), .int ti, .int v_2, .int (nI n_1), .int v_3, .int ad, .ref (x + 3), .ref (x + 4), .int v_4, .long v_5, .ref (x + 5), .int (nI fl), .int v_6, .long ob, .long v_7, .long v_8, .long v_9, .ref (x + 6), .ref (x + 7), .int (nI pe), .ref (x + 8), .int (nI le), .ref (x + 9), .ref (x + 10), .int (nI qu), .ref (x + 11), .ref (x + 12), .ref (x + 13), .ref (x + 14), .ref (x + 15), .ref (x + 16), .int (nI n_2), .long v_10, .ref (x + 17), .ref (x + 18), .ref (x + 19), .ref (x + 20), .ref (x + 21), .ref (x + 22), .int (nI n_3), .ref (x + 23), .ref (x + 24), .int (nI n_4), .ref (x + 25), .int (nI il), .int (nI nx), .int ec, .int ep, .int kn, .int (nI st), .int nu, .long va]) := h_1
  refine z_put (ref := "FlowExporterModel") (C := RX12) (T := TX12) (N := 54) (ci := 14) (v := .int 0) B hu_X12_effectiveFields_X12 tyX12 tyX12_ok nmX12 rfl 0 (Nat.le_of_ble_eq_true rfl) hv_X12_effectiveFields_1 rfl (Or.inl rfl) h_2 hx rfl rfl (Nat.le_of_ble_eq_true rfl) dX12_effectiveFields_2 (fun Φ1 hΦ1 => ?_)
  have h_3 : Φ1 x = some (o_ 14 [.int 0, .ref (x + 1), .ref (x + 2), .int ti, .int v_2, .int (nI n_1), .int v_3, .int ad, .ref (x + 3), .ref (x + 4), .int v_4, .long v_5, .ref (x + 5), .int (nI fl), .int v_6, .long ob, .long v_7, .long v_8, .long v_9, .ref (x + 6), .ref (x + 7), .int (nI pe), .ref (x + 8), .int (nI le), .ref (x + 9), .ref (x + 10), .int (nI qu), .ref (x + 11), .ref (x + 12), .ref (x + 13), .ref (x + 14), .ref (x + 15), .ref (x + 16), .int (nI n_2), .long v_10, .ref (x + 17), .ref (x + 18), .ref (x + 19), .ref (x + 20), .ref (x + 21), .ref (x + 22), .int (nI n_3), .ref (x + 23), .ref (x + 24), .int (nI n_4), .ref (x + 25), .int (nI il), .int (nI nx), .int ec, .int ep, .int kn, .int (nI st), .int nu, .long va]) := fset_at hΦ1
  have hI1 : Im G x (rd, (NNq c), fl, pe, le, nx, il, qu, kn, ec, nu, va, st, ep, ti, ad, ob) Φ1 := Im.put0 hI hΦ1 ⟨0, v_2, n_1, v_3, v_4, v_5, v_6, v_7, v_8, v_9, n_2, v_10, n_3, n_4, rfl, b_13, b_1, b_2, b_3, b_4, b_5, b_6, b_7, b_8, b_9, b_10, b_11, b_12⟩
  refine z_aload_n B dX12_effectiveFields_5 rfl 0 rfl ?_
  refine z_aload_n B dX12_effectiveFields_6 rfl 0 rfl ?_
  refine z_iload_n B dX12_effectiveFields_7 rfl 1 rfl ?_
  refine z_callV (As := [.int a]) (rest := [.ref x]) B (r_isTemplateC G l Φ1 sz x rd fl pe le nx il qu kn ec nu va st ep ti ad ob c a hx hI1 ) (cwV 1 B.1.2.2.2.2 gX12_effectiveFields_X12_isTemplate rfl rfl rfl (by decide +kernel) ⟨Nat.le_of_ble_eq_true rfl, Nat.le_of_ble_eq_true rfl⟩) h_3 rfl rfl rfl rfl (Nat.le_of_ble_eq_true rfl) dX12_effectiveFields_8 ⟨Nat.le_of_ble_eq_true rfl, Nat.le_of_ble_eq_true rfl⟩ (fun r_1 Φ2 sz1 st1 hp1 hs1 => ?_)
  obtain ⟨ha1, hq1, hI2, hF1⟩ := hp1
  subst sz1
  replace hI2 : Im G x (rd, (NNq c), fl, pe, le, nx, il, qu, kn, ec, nu, va, st, ep, ti, ad, ob) Φ2 := hI2
  rcases ha1 with ⟨rfl, hq2⟩ | ⟨rfl, n_5, b_14, rfl, hq3⟩
  · replace hs1 : st1 = [.int 0, .ref x] := hs1
    subst st1
    refine z_if_ne (tgt := 18) B dX12_effectiveFields_11 rfl (fun h9 => absurd (by decide) h9) (fun c_1 => ?_)
    refine z_iconst (v := 1) B dX12_effectiveFields_14 rfl ?_
    refine z_goto (tgt := 19) B dX12_effectiveFields_15 rfl ?_
    refine z_iconst (v := 1) B dX12_effectiveFields_19 rfl ?_
    have h_4 : Φ2 x = some (o_ 14 [.int 0, .ref (x + 1), .ref (x + 2), .int ti, .int v_2, .int (nI n_1), .int v_3, .int ad, .ref (x + 3), .ref (x + 4), .int v_4, .long v_5, .ref (x + 5), .int (nI fl), .int v_6, .long ob, .long v_7, .long v_8, .long v_9, .ref (x + 6), .ref (x + 7), .int (nI pe), .ref (x + 8), .int (nI le), .ref (x + 9), .ref (x + 10), .int (nI qu), .ref (x + 11), .ref (x + 12), .ref (x + 13), .ref (x + 14), .ref (x + 15), .ref (x + 16), .int (nI n_2), .long v_10, .ref (x + 17), .ref (x + 18), .ref (x + 19), .ref (x + 20), .ref (x + 21), .ref (x + 22), .int (nI n_3), .ref (x + 23), .ref (x + 24), .int (nI n_4), .ref (x + 25), .int (nI il), .int (nI nx), .int ec, .int ep, .int kn, .int (nI st), .int nu, .long va]) := ((hF1 x (fun j9 h8 h7 => (show False from h7).elim)).trans h_3)
    refine z_callV (As := [.int 1, .int 1]) (rest := []) B (r_throwsIf1 G l Φ2 sz x rd (NNq c) fl pe le nx il qu kn ec nu va st ep ti ad ob  hx hI2 (fun f9 h9 => h9.1)) (cwV 2 B.1.2.2.2.2 gX12_effectiveFields_X12_throwsIf rfl rfl rfl (by decide +kernel) ⟨Nat.le_of_ble_eq_true rfl, Nat.le_of_ble_eq_true rfl⟩) h_4 rfl rfl rfl rfl (Nat.le_of_ble_eq_true rfl) dX12_effectiveFields_20 ⟨Nat.le_of_ble_eq_true rfl, Nat.le_of_ble_eq_true rfl⟩ (fun r_2 Φ3 sz2 st2 hp2 hs2 => ?_)
    obtain ⟨⟨rfl, l_1, h_5⟩, hq4, hI3, hF2⟩ := hp2
    subst sz2
    replace hs2 : st2 = [.int 1] := hs2
    subst st2
    replace hI3 : Im G x (rd, (NNq c), fl, pe, le, nx, il, qu, kn, ec, nu, va, st, ep, ti, ad, ob) Φ3 := hI3
    refine z_if_eq (tgt := 30) B dX12_effectiveFields_23 rfl (fun h9 => absurd h9 (by decide)) (fun c_2 => ?_)
    refine z_iconst (v := 0) B dX12_effectiveFields_26 rfl ?_
    refine z_goto (tgt := 35) B dX12_effectiveFields_27 rfl ?_
    exact z_ret_i B dX12_effectiveFields_35 ⟨⟨0, 1, l_1, rfl, h_5, Or.inr (Or.inl ⟨hq2, rfl⟩)⟩, rfl, hI3, (fun b9 h9 => ((hF2 b9 h9).trans ((hF1 b9 (fun j9 h8 h7 => (show False from h7).elim)).trans ((fset_fr hΦ1 (fun h8 => h9 (0) h8 (show 0 = 0 by decide))).trans rfl))))⟩
  · replace hs1 : st1 = [.int 1, .ref x] := hs1
    subst st1
    replace b_14 : n_5 < 4 := b_14
    refine z_if_ne (tgt := 18) B dX12_effectiveFields_11 rfl (fun c_3 => ?_) (fun h9 => absurd h9 (by decide))
    refine z_iconst (v := 0) B dX12_effectiveFields_18 rfl ?_
    refine z_iconst (v := 1) B dX12_effectiveFields_19 rfl ?_
    have h_6 : Φ2 x = some (o_ 14 [.int 0, .ref (x + 1), .ref (x + 2), .int ti, .int v_2, .int (nI n_1), .int v_3, .int ad, .ref (x + 3), .ref (x + 4), .int v_4, .long v_5, .ref (x + 5), .int (nI fl), .int v_6, .long ob, .long v_7, .long v_8, .long v_9, .ref (x + 6), .ref (x + 7), .int (nI pe), .ref (x + 8), .int (nI le), .ref (x + 9), .ref (x + 10), .int (nI qu), .ref (x + 11), .ref (x + 12), .ref (x + 13), .ref (x + 14), .ref (x + 15), .ref (x + 16), .int (nI n_2), .long v_10, .ref (x + 17), .ref (x + 18), .ref (x + 19), .ref (x + 20), .ref (x + 21), .ref (x + 22), .int (nI n_3), .ref (x + 23), .ref (x + 24), .int (nI n_4), .ref (x + 25), .int (nI il), .int (nI nx), .int ec, .int ep, .int kn, .int (nI st), .int nu, .long va]) := ((hF1 x (fun j9 h8 h7 => (show False from h7).elim)).trans h_3)
    refine z_callV (As := [.int 0, .int 1]) (rest := []) B (r_throwsIf0 G l Φ2 sz x rd (NNq c) fl pe le nx il qu kn ec nu va st ep ti ad ob  hx hI2 (fun f9 h9 => h9.1)) (cwV 2 B.1.2.2.2.2 gX12_effectiveFields_X12_throwsIf rfl rfl rfl (by decide +kernel) ⟨Nat.le_of_ble_eq_true rfl, Nat.le_of_ble_eq_true rfl⟩) h_6 rfl rfl rfl rfl (Nat.le_of_ble_eq_true rfl) dX12_effectiveFields_20 ⟨Nat.le_of_ble_eq_true rfl, Nat.le_of_ble_eq_true rfl⟩ (fun r_3 Φ4 sz3 st3 hp3 hs3 => ?_)
    obtain ⟨rfl, hq5, hI4, hF3⟩ := hp3
    subst sz3
    replace hs3 : st3 = [.int 0] := hs3
    subst st3
    replace hI4 : Im G x (rd, (NNq c), fl, pe, le, nx, il, qu, kn, ec, nu, va, st, ep, ti, ad, ob) Φ4 := hI4
    refine z_if_eq (tgt := 30) B dX12_effectiveFields_23 rfl (fun c_4 => ?_) (fun h9 => absurd (by decide) h9)
    refine z_aload_n B dX12_effectiveFields_30 rfl 0 rfl ?_
    refine z_iload_n B dX12_effectiveFields_31 rfl 1 rfl ?_
    have h_7 : Φ4 x = some (o_ 14 [.int 0, .ref (x + 1), .ref (x + 2), .int ti, .int v_2, .int (nI n_1), .int v_3, .int ad, .ref (x + 3), .ref (x + 4), .int v_4, .long v_5, .ref (x + 5), .int (nI fl), .int v_6, .long ob, .long v_7, .long v_8, .long v_9, .ref (x + 6), .ref (x + 7), .int (nI pe), .ref (x + 8), .int (nI le), .ref (x + 9), .ref (x + 10), .int (nI qu), .ref (x + 11), .ref (x + 12), .ref (x + 13), .ref (x + 14), .ref (x + 15), .ref (x + 16), .int (nI n_2), .long v_10, .ref (x + 17), .ref (x + 18), .ref (x + 19), .ref (x + 20), .ref (x + 21), .ref (x + 22), .int (nI n_3), .ref (x + 23), .ref (x + 24), .int (nI n_4), .ref (x + 25), .int (nI il), .int (nI nx), .int ec, .int ep, .int kn, .int (nI st), .int nu, .long va]) := ((hF3 x (fun j9 h8 h7 => (show False from h7).elim)).trans h_6)
    refine z_callV (As := [.int (nI n_5)]) (rest := []) B (r_effectiveC G l Φ4 sz x rd fl pe le nx il qu kn ec nu va st ep ti ad ob c n_5 hx hI4 (show n_5 < 4 by omega)) (cwV 1 B.1.2.2.2.2 gX12_effectiveFields_X12_effective rfl rfl rfl (by decide +kernel) ⟨Nat.le_of_ble_eq_true rfl, Nat.le_of_ble_eq_true rfl⟩) h_7 rfl rfl rfl rfl (Nat.le_of_ble_eq_true rfl) dX12_effectiveFields_32 ⟨Nat.le_of_ble_eq_true rfl, Nat.le_of_ble_eq_true rfl⟩ (fun r_4 Φ5 sz4 st4 hp4 hs4 => ?_)
    obtain ⟨rfl, hq6, hI5, hF4⟩ := hp4
    subst sz4
    replace hs4 : st4 = [.int (tfF c n_5 &&& c 9)] := hs4
    subst st4
    replace hI5 : Im G x (rd, (NNq c), fl, pe, le, nx, il, qu, kn, ec, nu, va, st, ep, ti, ad, ob) Φ5 := hI5
    have h_8 : Φ5 x = some (o_ 14 [.int 0, .ref (x + 1), .ref (x + 2), .int ti, .int v_2, .int (nI n_1), .int v_3, .int ad, .ref (x + 3), .ref (x + 4), .int v_4, .long v_5, .ref (x + 5), .int (nI fl), .int v_6, .long ob, .long v_7, .long v_8, .long v_9, .ref (x + 6), .ref (x + 7), .int (nI pe), .ref (x + 8), .int (nI le), .ref (x + 9), .ref (x + 10), .int (nI qu), .ref (x + 11), .ref (x + 12), .ref (x + 13), .ref (x + 14), .ref (x + 15), .ref (x + 16), .int (nI n_2), .long v_10, .ref (x + 17), .ref (x + 18), .ref (x + 19), .ref (x + 20), .ref (x + 21), .ref (x + 22), .int (nI n_3), .ref (x + 23), .ref (x + 24), .int (nI n_4), .ref (x + 25), .int (nI il), .int (nI nx), .int ec, .int ep, .int kn, .int (nI st), .int nu, .long va]) := ((hF4 x (fun j9 h8 h7 => (show False from h7).elim)).trans h_7)
    exact z_ret_i B dX12_effectiveFields_35 ⟨⟨tfF c n_5 &&& c 9, 0, _, rfl, h_8, Or.inl ⟨hq3, trivial, rfl, (congrArg Int32.toInt64 (show tfF c n_5 &&& c 9 = tfF c n_5 &&& c 9 from rfl)).trans (congrArg (fun w9 : Nat => (tfF c w9 &&& c 9).toInt64) (nI_clamp (n := n_5) (by omega)).symm)⟩⟩, rfl, hI5, (fun b9 h9 => ((hF4 b9 (fun j9 h8 h7 => (show False from h7).elim)).trans ((hF3 b9 (fun j9 h8 h7 => (show False from h7).elim)).trans ((hF1 b9 (fun j9 h8 h7 => (show False from h7).elim)).trans ((fset_fr hΦ1 (fun h8 => h9 (0) h8 (show 0 = 0 by decide))).trans rfl)))))⟩

set_option maxHeartbeats 4000000 in
set_option maxRecDepth 100000 in
theorem r_recordLengthC (G : EnvG) (l : Launch) (Φ : Hm) (sz x : Nat) (rd : (Nat → Int32) → Prop) (fl : Nat) (pe : Nat) (le : Nat) (nx : Nat) (il : Nat) (qu : Nat) (kn : Int32) (ec : Int32) (nu : Int32) (va : Int64) (st : Nat) (ep : Int32) (ti : Int32) (ad : Int32) (ob : Int64) (c : Cf) (a : Int32) (hx : G.2.2.2 ≤ x) (hI : Im G x (rd, (NNq c), fl, pe, le, nx, il, qu, kn, ec, nu, va, st, ep, ti, ad, ob) Φ)  : Ct G l yX12_recordLength wsX12_recordLength ({ frames := 4, cells := 0, slots := 0, locals := 89 }) 0 0 [.ref x, .int a] Φ sz (fun v Φ1 sz1 => (∃ (r9 th9 : Int32) (l9 : List Value), v = some (.int r9) ∧ Φ1 x = some (o_ 14 (.int th9 :: l9)) ∧ AnsR (InT c a) True (nI (lenR (tfF c a.toNatClampNeg &&& c 9) 9)).toInt64 th9 r9.toInt64) ∧ sz1 = sz ∧ (Im G x (rd, (NNq c), fl, pe, le, nx, il, qu, kn, ec, nu, va, st, ep, ti, ad, ob) Φ1) ∧ Fr x (fun j9 => j9 = 0) Φ Φ1) := by
  refine Ct.of (cc := cX12_recordLength) (maxL := 2) (ret := (some .int)) (by decide) rfl (Nat.le_of_ble_eq_true rfl) ?_
  intro p9 e9 s9 m9 w9 t9 k9 B
  show Z p9 l e9 _ s9 m9 _ w9 t9 k9 _ G 2 0 [(0, .ref x), (1, .int a)] [] Φ sz 0 0
  refine z_aload_n B dX12_recordLength_0 rfl 0 rfl ?_
  refine z_iconst (v := 0) B dX12_recordLength_1 rfl ?_
  obtain ⟨v_1, v_2, n_1, v_3, v_4, v_5, v_6, v_7, v_8, v_9, n_2, v_10, n_3, n_4, h_1, b_13, b_1, b_2, b_3, b_4, b_5, b_6, b_7, b_8, b_9, b_10, b_11, b_12⟩ := im0 hI
  replace b_1 : 1 ≤ n_1 := b_1
  replace b_2 : n_1 ≤ 1024 := b_2
  replace b_3 : fl ≤ 12 := b_3
  replace b_4 : pe ≤ 24 := b_4
  replace b_5 : le ≤ 700 := b_5
  replace b_6 : qu ≤ 12 := b_6
  replace b_7 : n_2 ≤ 8 := b_7
  replace b_8 : n_3 ≤ 24 := b_8
  replace b_9 : n_4 ≤ 24 := b_9
  replace b_10 : il ≤ 700 := b_10
  replace b_11 : nx ≤ 701 := b_11
  replace b_12 : st ≤ 701 := b_12
  have h_2 : Φ x = some (o_ 14 [.int v_1, .ref (x + 1), .ref (x + 2), .int ti, .int v_2, .int (nI n_1), .int v_3, .int ad, .ref (x + 3), .ref (x + 4), .int v_4, .long v_5, .ref (x + 5), .int (nI fl), .int v_6, .long ob, .long v_7, .long v_8, .long v_9, .ref (x + 6), .ref (x + 7), .int (nI pe), .ref (x + 8), .int (nI le), .ref (x + 9), .ref (x + 10), .int (nI qu), .ref (x + 11), .ref (x + 12), .ref (x + 13), .ref (x + 14), .ref (x + 15), .ref (x + 16), .int (nI n_2), .long v_10, .ref (x + 17), .ref (x + 18), .ref (x + 19), .ref (x + 20), .ref (x + 21), .ref (x + 22), .int (nI n_3), .ref (x + 23), .ref (x + 24), .int (nI n_4), .ref (x + 25), .int (nI il), .int (nI nx), .int ec, .int ep, .int kn, .int (nI st), .int nu, .long va]) := h_1
  refine z_put (ref := "FlowExporterModel") (C := RX12) (T := TX12) (N := 54) (ci := 14) (v := .int 0) B hu_X12_recordLength_X12 tyX12 tyX12_ok nmX12 rfl 0 (Nat.le_of_ble_eq_true rfl) hv_X12_recordLength_1 rfl (Or.inl rfl) h_2 hx rfl rfl (Nat.le_of_ble_eq_true rfl) dX12_recordLength_2 (fun Φ1 hΦ1 => ?_)
  have h_3 : Φ1 x = some (o_ 14 [.int 0, .ref (x + 1), .ref (x + 2), .int ti, .int v_2, .int (nI n_1), .int v_3, .int ad, .ref (x + 3), .ref (x + 4), .int v_4, .long v_5, .ref (x + 5), .int (nI fl), .int v_6, .long ob, .long v_7, .long v_8, .long v_9, .ref (x + 6), .ref (x + 7), .int (nI pe), .ref (x + 8), .int (nI le), .ref (x + 9), .ref (x + 10), .int (nI qu), .ref (x + 11), .ref (x + 12), .ref (x + 13), .ref (x + 14), .ref (x + 15), .ref (x + 16), .int (nI n_2), .long v_10, .ref (x + 17), .ref (x + 18), .ref (x + 19), .ref (x + 20), .ref (x + 21), .ref (x + 22), .int (nI n_3), .ref (x + 23), .ref (x + 24), .int (nI n_4), .ref (x + 25), .int (nI il), .int (nI nx), .int ec, .int ep, .int kn, .int (nI st), .int nu, .long va]) := fset_at hΦ1
  have hI1 : Im G x (rd, (NNq c), fl, pe, le, nx, il, qu, kn, ec, nu, va, st, ep, ti, ad, ob) Φ1 := Im.put0 hI hΦ1 ⟨0, v_2, n_1, v_3, v_4, v_5, v_6, v_7, v_8, v_9, n_2, v_10, n_3, n_4, rfl, b_13, b_1, b_2, b_3, b_4, b_5, b_6, b_7, b_8, b_9, b_10, b_11, b_12⟩
  refine z_aload_n B dX12_recordLength_5 rfl 0 rfl ?_
  refine z_aload_n B dX12_recordLength_6 rfl 0 rfl ?_
  refine z_iload_n B dX12_recordLength_7 rfl 1 rfl ?_
  refine z_callV (As := [.int a]) (rest := [.ref x]) B (r_isTemplateC G l Φ1 sz x rd fl pe le nx il qu kn ec nu va st ep ti ad ob c a hx hI1 ) (cwV 1 B.1.2.2.2.2 gX12_recordLength_X12_isTemplate rfl rfl rfl (by decide +kernel) ⟨Nat.le_of_ble_eq_true rfl, Nat.le_of_ble_eq_true rfl⟩) h_3 rfl rfl rfl rfl (Nat.le_of_ble_eq_true rfl) dX12_recordLength_8 ⟨Nat.le_of_ble_eq_true rfl, Nat.le_of_ble_eq_true rfl⟩ (fun r_1 Φ2 sz1 st1 hp1 hs1 => ?_)
  obtain ⟨ha1, hq1, hI2, hF1⟩ := hp1
  subst sz1
  replace hI2 : Im G x (rd, (NNq c), fl, pe, le, nx, il, qu, kn, ec, nu, va, st, ep, ti, ad, ob) Φ2 := hI2
  rcases ha1 with ⟨rfl, hq2⟩ | ⟨rfl, n_5, b_14, rfl, hq3⟩
  · replace hs1 : st1 = [.int 0, .ref x] := hs1
    subst st1
    refine z_if_ne (tgt := 18) B dX12_recordLength_11 rfl (fun h9 => absurd (by decide) h9) (fun c_1 => ?_)
    refine z_iconst (v := 1) B dX12_recordLength_14 rfl ?_
    refine z_goto (tgt := 19) B dX12_recordLength_15 rfl ?_
    refine z_iconst (v := 1) B dX12_recordLength_19 rfl ?_
    have h_4 : Φ2 x = some (o_ 14 [.int 0, .ref (x + 1), .ref (x + 2), .int ti, .int v_2, .int (nI n_1), .int v_3, .int ad, .ref (x + 3), .ref (x + 4), .int v_4, .long v_5, .ref (x + 5), .int (nI fl), .int v_6, .long ob, .long v_7, .long v_8, .long v_9, .ref (x + 6), .ref (x + 7), .int (nI pe), .ref (x + 8), .int (nI le), .ref (x + 9), .ref (x + 10), .int (nI qu), .ref (x + 11), .ref (x + 12), .ref (x + 13), .ref (x + 14), .ref (x + 15), .ref (x + 16), .int (nI n_2), .long v_10, .ref (x + 17), .ref (x + 18), .ref (x + 19), .ref (x + 20), .ref (x + 21), .ref (x + 22), .int (nI n_3), .ref (x + 23), .ref (x + 24), .int (nI n_4), .ref (x + 25), .int (nI il), .int (nI nx), .int ec, .int ep, .int kn, .int (nI st), .int nu, .long va]) := ((hF1 x (fun j9 h8 h7 => (show False from h7).elim)).trans h_3)
    refine z_callV (As := [.int 1, .int 1]) (rest := []) B (r_throwsIf1 G l Φ2 sz x rd (NNq c) fl pe le nx il qu kn ec nu va st ep ti ad ob  hx hI2 (fun f9 h9 => h9.1)) (cwV 2 B.1.2.2.2.2 gX12_recordLength_X12_throwsIf rfl rfl rfl (by decide +kernel) ⟨Nat.le_of_ble_eq_true rfl, Nat.le_of_ble_eq_true rfl⟩) h_4 rfl rfl rfl rfl (Nat.le_of_ble_eq_true rfl) dX12_recordLength_20 ⟨Nat.le_of_ble_eq_true rfl, Nat.le_of_ble_eq_true rfl⟩ (fun r_2 Φ3 sz2 st2 hp2 hs2 => ?_)
    obtain ⟨⟨rfl, l_1, h_5⟩, hq4, hI3, hF2⟩ := hp2
    subst sz2
    replace hs2 : st2 = [.int 1] := hs2
    subst st2
    replace hI3 : Im G x (rd, (NNq c), fl, pe, le, nx, il, qu, kn, ec, nu, va, st, ep, ti, ad, ob) Φ3 := hI3
    refine z_if_eq (tgt := 30) B dX12_recordLength_23 rfl (fun h9 => absurd h9 (by decide)) (fun c_2 => ?_)
    refine z_iconst (v := 0) B dX12_recordLength_26 rfl ?_
    refine z_goto (tgt := 35) B dX12_recordLength_27 rfl ?_
    exact z_ret_i B dX12_recordLength_35 ⟨⟨0, 1, l_1, rfl, h_5, Or.inr (Or.inl ⟨hq2, rfl⟩)⟩, rfl, hI3, (fun b9 h9 => ((hF2 b9 h9).trans ((hF1 b9 (fun j9 h8 h7 => (show False from h7).elim)).trans ((fset_fr hΦ1 (fun h8 => h9 (0) h8 (show 0 = 0 by decide))).trans rfl))))⟩
  · replace hs1 : st1 = [.int 1, .ref x] := hs1
    subst st1
    replace b_14 : n_5 < 4 := b_14
    refine z_if_ne (tgt := 18) B dX12_recordLength_11 rfl (fun c_3 => ?_) (fun h9 => absurd h9 (by decide))
    refine z_iconst (v := 0) B dX12_recordLength_18 rfl ?_
    refine z_iconst (v := 1) B dX12_recordLength_19 rfl ?_
    have h_6 : Φ2 x = some (o_ 14 [.int 0, .ref (x + 1), .ref (x + 2), .int ti, .int v_2, .int (nI n_1), .int v_3, .int ad, .ref (x + 3), .ref (x + 4), .int v_4, .long v_5, .ref (x + 5), .int (nI fl), .int v_6, .long ob, .long v_7, .long v_8, .long v_9, .ref (x + 6), .ref (x + 7), .int (nI pe), .ref (x + 8), .int (nI le), .ref (x + 9), .ref (x + 10), .int (nI qu), .ref (x + 11), .ref (x + 12), .ref (x + 13), .ref (x + 14), .ref (x + 15), .ref (x + 16), .int (nI n_2), .long v_10, .ref (x + 17), .ref (x + 18), .ref (x + 19), .ref (x + 20), .ref (x + 21), .ref (x + 22), .int (nI n_3), .ref (x + 23), .ref (x + 24), .int (nI n_4), .ref (x + 25), .int (nI il), .int (nI nx), .int ec, .int ep, .int kn, .int (nI st), .int nu, .long va]) := ((hF1 x (fun j9 h8 h7 => (show False from h7).elim)).trans h_3)
    refine z_callV (As := [.int 0, .int 1]) (rest := []) B (r_throwsIf0 G l Φ2 sz x rd (NNq c) fl pe le nx il qu kn ec nu va st ep ti ad ob  hx hI2 (fun f9 h9 => h9.1)) (cwV 2 B.1.2.2.2.2 gX12_recordLength_X12_throwsIf rfl rfl rfl (by decide +kernel) ⟨Nat.le_of_ble_eq_true rfl, Nat.le_of_ble_eq_true rfl⟩) h_6 rfl rfl rfl rfl (Nat.le_of_ble_eq_true rfl) dX12_recordLength_20 ⟨Nat.le_of_ble_eq_true rfl, Nat.le_of_ble_eq_true rfl⟩ (fun r_3 Φ4 sz3 st3 hp3 hs3 => ?_)
    obtain ⟨rfl, hq5, hI4, hF3⟩ := hp3
    subst sz3
    replace hs3 : st3 = [.int 0] := hs3
    subst st3
    replace hI4 : Im G x (rd, (NNq c), fl, pe, le, nx, il, qu, kn, ec, nu, va, st, ep, ti, ad, ob) Φ4 := hI4
    refine z_if_eq (tgt := 30) B dX12_recordLength_23 rfl (fun c_4 => ?_) (fun h9 => absurd (by decide) h9)
    refine z_aload_n B dX12_recordLength_30 rfl 0 rfl ?_
    refine z_iload_n B dX12_recordLength_31 rfl 1 rfl ?_
    have h_7 : Φ4 x = some (o_ 14 [.int 0, .ref (x + 1), .ref (x + 2), .int ti, .int v_2, .int (nI n_1), .int v_3, .int ad, .ref (x + 3), .ref (x + 4), .int v_4, .long v_5, .ref (x + 5), .int (nI fl), .int v_6, .long ob, .long v_7, .long v_8, .long v_9, .ref (x + 6), .ref (x + 7), .int (nI pe), .ref (x + 8), .int (nI le), .ref (x + 9), .ref (x + 10), .int (nI qu), .ref (x + 11), .ref (x + 12), .ref (x + 13), .ref (x + 14), .ref (x + 15), .ref (x + 16), .int (nI n_2), .long v_10, .ref (x + 17), .ref (x + 18), .ref (x + 19), .ref (x + 20), .ref (x + 21), .ref (x + 22), .int (nI n_3), .ref (x + 23), .ref (x + 24), .int (nI n_4), .ref (x + 25), .int (nI il), .int (nI nx), .int ec, .int ep, .int kn, .int (nI st), .int nu, .long va]) := ((hF3 x (fun j9 h8 h7 => (show False from h7).elim)).trans h_6)
    refine z_callV (As := [.int (nI n_5)]) (rest := []) B (r_recordLengthOfC G l Φ4 sz x rd fl pe le nx il qu kn ec nu va st ep ti ad ob c n_5 hx hI4 (show n_5 < 4 by omega)) (cwV 1 B.1.2.2.2.2 gX12_recordLength_X12_recordLengthOf rfl rfl rfl (by decide +kernel) ⟨Nat.le_of_ble_eq_true rfl, Nat.le_of_ble_eq_true rfl⟩) h_7 rfl rfl rfl rfl (Nat.le_of_ble_eq_true rfl) dX12_recordLength_32 ⟨Nat.le_of_ble_eq_true rfl, Nat.le_of_ble_eq_true rfl⟩ (fun r_4 Φ5 sz4 st4 hp4 hs4 => ?_)
    obtain ⟨rfl, hq6, hI5, hF4⟩ := hp4
    subst sz4
    replace hs4 : st4 = [.int (nI (lenR (tfF c n_5 &&& c 9) 9))] := hs4
    subst st4
    replace hI5 : Im G x (rd, (NNq c), fl, pe, le, nx, il, qu, kn, ec, nu, va, st, ep, ti, ad, ob) Φ5 := hI5
    have h_8 : Φ5 x = some (o_ 14 [.int 0, .ref (x + 1), .ref (x + 2), .int ti, .int v_2, .int (nI n_1), .int v_3, .int ad, .ref (x + 3), .ref (x + 4), .int v_4, .long v_5, .ref (x + 5), .int (nI fl), .int v_6, .long ob, .long v_7, .long v_8, .long v_9, .ref (x + 6), .ref (x + 7), .int (nI pe), .ref (x + 8), .int (nI le), .ref (x + 9), .ref (x + 10), .int (nI qu), .ref (x + 11), .ref (x + 12), .ref (x + 13), .ref (x + 14), .ref (x + 15), .ref (x + 16), .int (nI n_2), .long v_10, .ref (x + 17), .ref (x + 18), .ref (x + 19), .ref (x + 20), .ref (x + 21), .ref (x + 22), .int (nI n_3), .ref (x + 23), .ref (x + 24), .int (nI n_4), .ref (x + 25), .int (nI il), .int (nI nx), .int ec, .int ep, .int kn, .int (nI st), .int nu, .long va]) := ((hF4 x (fun j9 h8 h7 => (show False from h7).elim)).trans h_7)
    exact z_ret_i B dX12_recordLength_35 ⟨⟨nI (lenR (tfF c n_5 &&& c 9) 9), 0, _, rfl, h_8, Or.inl ⟨hq3, trivial, rfl, (congrArg Int32.toInt64 (show nI (lenR (tfF c n_5 &&& c 9) 9) = nI (lenR (tfF c n_5 &&& c 9) 9) from rfl)).trans (congrArg (fun w9 : Nat => (nI (lenR (tfF c w9 &&& c 9) 9)).toInt64) (nI_clamp (n := n_5) (by omega)).symm)⟩⟩, rfl, hI5, (fun b9 h9 => ((hF4 b9 (fun j9 h8 h7 => (show False from h7).elim)).trans ((hF3 b9 (fun j9 h8 h7 => (show False from h7).elim)).trans ((hF1 b9 (fun j9 h8 h7 => (show False from h7).elim)).trans ((fset_fr hΦ1 (fun h8 => h9 (0) h8 (show 0 = 0 by decide))).trans rfl)))))⟩

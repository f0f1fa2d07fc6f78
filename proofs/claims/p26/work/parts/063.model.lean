set_option maxHeartbeats 4000000 in
set_option maxRecDepth 100000 in
theorem r_sizeOfC (G : EnvG) (l : Launch) (Φ : Hm) (sz x : Nat) (rd : (Nat → Int32) → Prop) (cr : (Nat → Int64) → Prop) (tp : (Nat → Int32) → Prop) (tt : (Nat → Int64) → Prop) (sI : (Nat → Int32) → Prop) (sT : (Nat → Int32) → Prop) (pt : (Nat → Int32) → Prop) (ql : (Nat → Int32) → Prop) (fl : Nat) (pe : Nat) (le : Nat) (nx : Nat) (il : Nat) (qu : Nat) (kn : Int32) (ec : Int32) (nu : Int32) (va : Int64) (st : Nat) (ep : Int32) (ti : Int32) (ad : Int32) (ob : Int64) (ra : Int32) (rt : Nat) (ex : Int32) (sa : Int64) (us : Int64) (tk : Nat) (th : Int32) (me : Int32) (dr : Int32) (se : Int64) (sn : Int64) (c : Cf) (t : Nat) (hx : G.2.2.2 ≤ x) (hI : Im G x (rd, (NNq c), cr, tp, tt, sI, sT, pt, ql, fl, pe, le, nx, il, qu, kn, ec, nu, va, st, ep, ti, ad, ob, ra, rt, ex, sa, us, tk, th, me, dr, se, sn) Φ) (ht : t < 4) : Ct G l yX12_sizeOf wsX12_sizeOf ({ frames := 0, cells := 0, slots := 0, locals := 0 }) 0 0 [.ref x, .int (nI t)] Φ sz (fun v Φ1 sz1 => (szC c t ≤ 9 ∧ v = some (.int (nI (szC c t)))) ∧ sz1 = sz ∧ (Im G x (rd, (NNq c), cr, tp, tt, sI, sT, pt, ql, fl, pe, le, nx, il, qu, kn, ec, nu, va, st, ep, ti, ad, ob, ra, rt, ex, sa, us, tk, th, me, dr, se, sn) Φ1) ∧ Fr x (fun j9 => False) Φ Φ1) := by
  refine Ct.of (cc := cX12_sizeOf) (maxL := 2) (ret := (some .int)) (by decide) rfl (Nat.le_of_ble_eq_true rfl) ?_
  intro p9 e9 s9 m9 w9 t9 k9 B
  show Z p9 l e9 _ s9 m9 _ w9 t9 k9 _ G 2 0 [(0, .ref x), (1, .int (nI t))] [] Φ sz 0 0
  refine z_aload_n B dX12_sizeOf_0 rfl 0 rfl ?_
  obtain ⟨n_1, v_1, n_2, h_1, b_13, b_1, b_2, b_3, b_4, b_5, b_6, b_7, b_8, b_9, b_10, b_11, b_12⟩ := im0 hI
  replace b_1 : 1 ≤ rt := b_1
  replace b_2 : rt ≤ 1024 := b_2
  replace b_3 : fl ≤ 12 := b_3
  replace b_4 : pe ≤ 24 := b_4
  replace b_5 : le ≤ 700 := b_5
  replace b_6 : qu ≤ 12 := b_6
  replace b_7 : n_1 ≤ 8 := b_7
  replace b_8 : n_2 ≤ 24 := b_8
  replace b_9 : tk ≤ 24 := b_9
  replace b_10 : il ≤ 700 := b_10
  replace b_11 : nx ≤ 701 := b_11
  replace b_12 : st ≤ 701 := b_12
  have h_2 : Φ x = some (o_ 14 [.int th, .ref (x + 1), .ref (x + 2), .int ti, .int ra, .int (nI rt), .int ex, .int ad, .ref (x + 3), .ref (x + 4), .int me, .long se, .ref (x + 5), .int (nI fl), .int dr, .long ob, .long sa, .long sn, .long us, .ref (x + 6), .ref (x + 7), .int (nI pe), .ref (x + 8), .int (nI le), .ref (x + 9), .ref (x + 10), .int (nI qu), .ref (x + 11), .ref (x + 12), .ref (x + 13), .ref (x + 14), .ref (x + 15), .ref (x + 16), .int (nI n_1), .long v_1, .ref (x + 17), .ref (x + 18), .ref (x + 19), .ref (x + 20), .ref (x + 21), .ref (x + 22), .int (nI n_2), .ref (x + 23), .ref (x + 24), .int (nI tk), .ref (x + 25), .int (nI il), .int (nI nx), .int ec, .int ep, .int kn, .int (nI st), .int nu, .long va]) := h_1
  refine z_get (ref := "FlowExporterModel") (C := RX12) (T := TX12) (N := 54) (ci := 14) (v := .ref (x + 2)) B hu_X12_sizeOf_X12 rfl 2 (Nat.le_of_ble_eq_true rfl) hv_X12_sizeOf_17 rfl h_2 rfl dX12_sizeOf_1 ?_
  refine z_bipush (v := 11) B dX12_sizeOf_4 rfl ?_
  refine z_iload_n B dX12_sizeOf_6 rfl 1 rfl ?_
  refine z_iadd B dX12_sizeOf_7 ?_
  refine z_top (st1 := [.int (nI (11 + t)), .ref (x + 2)]) (congrArg (fun w9 : Int32 => ([.int w9, .ref (x + 2)] : List Value)) (nI_add 11 t)) ?_
  obtain ⟨f_1, h_3, r_1⟩ := imk (k := 2) hI
  replace r_1 : (NNq c) f_1 := r_1
  have r_2 : NN f_1 := r_1.1
  have h_4 : Φ (x + 2) = some (ai_ G 307 f_1) := h_3
  refine z_iald B h_4 (vp_in_nI (by omega) (by omega)) dX12_sizeOf_8 ?_
  have hs1 := sz_q (t := t) r_1 (by omega)
  refine z_top (st1 := [.int (nI (szC c t))]) (congrArg (fun w9 : Int32 => ([.int w9] : List Value)) ((congrArg f_1 (nI_clamp (by omega))).trans hs1.2)) ?_
  exact z_ret_i B dX12_sizeOf_9 ⟨⟨hs1.1, rfl⟩, rfl, hI, (fun b9 h9 => rfl)⟩

set_option maxHeartbeats 4000000 in
set_option maxRecDepth 100000 in
theorem r_fieldOfC (G : EnvG) (l : Launch) (Φ : Hm) (sz x : Nat) (rd : (Nat → Int32) → Prop) (cr : (Nat → Int64) → Prop) (tp : (Nat → Int32) → Prop) (tt : (Nat → Int64) → Prop) (sI : (Nat → Int32) → Prop) (sT : (Nat → Int32) → Prop) (pt : (Nat → Int32) → Prop) (ql : (Nat → Int32) → Prop) (fl : Nat) (pe : Nat) (le : Nat) (nx : Nat) (il : Nat) (qu : Nat) (kn : Int32) (ec : Int32) (nu : Int32) (va : Int64) (st : Nat) (ep : Int32) (ti : Int32) (ad : Int32) (ob : Int64) (ra : Int32) (rt : Nat) (ex : Int32) (sa : Int64) (us : Int64) (tk : Nat) (th : Int32) (me : Int32) (dr : Int32) (se : Int64) (sn : Int64) (c : Cf) (t : Nat) (q : Nat) (hx : G.2.2.2 ≤ x) (hI : Im G x (rd, (NNq c), cr, tp, tt, sI, sT, pt, ql, fl, pe, le, nx, il, qu, kn, ec, nu, va, st, ep, ti, ad, ob, ra, rt, ex, sa, us, tk, th, me, dr, se, sn) Φ) (ht : t < 4) (hq : q < 9) : Ct G l yX12_fieldOf wsX12_fieldOf ({ frames := 0, cells := 0, slots := 0, locals := 0 }) 0 0 [.ref x, .int (nI t), .int (nI q)] Φ sz (fun v Φ1 sz1 => (∃ n9 : Nat, n9 ≤ 8 ∧ rwC c t q = nI n9 ∧ v = some (.int (nI n9))) ∧ sz1 = sz ∧ (Im G x (rd, (NNq c), cr, tp, tt, sI, sT, pt, ql, fl, pe, le, nx, il, qu, kn, ec, nu, va, st, ep, ti, ad, ob, ra, rt, ex, sa, us, tk, th, me, dr, se, sn) Φ1) ∧ Fr x (fun j9 => False) Φ Φ1) := by
  refine Ct.of (cc := cX12_fieldOf) (maxL := 3) (ret := (some .int)) (by decide) rfl (Nat.le_of_ble_eq_true rfl) ?_
  intro p9 e9 s9 m9 w9 t9 k9 B
  show Z p9 l e9 _ s9 m9 _ w9 t9 k9 _ G 3 0 [(0, .ref x), (1, .int (nI t)), (2, .int (nI q))] [] Φ sz 0 0
  refine z_aload_n B dX12_fieldOf_0 rfl 0 rfl ?_
  obtain ⟨n_1, v_1, n_2, h_1, b_13, b_1, b_2, b_3, b_4, b_5, b_6, b_7, b_8, b_9, b_10, b_11, b_12⟩ := im0 hI
  replace b_1 : 1 ≤ rt := b_1
  replace b_2 : rt ≤ 1024 := b_2
  replace b_3 : fl ≤ 12 := b_3
  replace b_4 : pe ≤ 24 := b_4
  replace b_5 : le ≤ 700 := b_5
  replace b_6 : qu ≤ 12 := b_6
  replace b_7 : n_1 ≤ 8 := b_7
  replace b_8 : n_2 ≤ 24 := b_8
  replace b_9 : tk ≤ 24 := b_9
  replace b_10 : il ≤ 700 := b_10
  replace b_11 : nx ≤ 701 := b_11
  replace b_12 : st ≤ 701 := b_12
  have h_2 : Φ x = some (o_ 14 [.int th, .ref (x + 1), .ref (x + 2), .int ti, .int ra, .int (nI rt), .int ex, .int ad, .ref (x + 3), .ref (x + 4), .int me, .long se, .ref (x + 5), .int (nI fl), .int dr, .long ob, .long sa, .long sn, .long us, .ref (x + 6), .ref (x + 7), .int (nI pe), .ref (x + 8), .int (nI le), .ref (x + 9), .ref (x + 10), .int (nI qu), .ref (x + 11), .ref (x + 12), .ref (x + 13), .ref (x + 14), .ref (x + 15), .ref (x + 16), .int (nI n_1), .long v_1, .ref (x + 17), .ref (x + 18), .ref (x + 19), .ref (x + 20), .ref (x + 21), .ref (x + 22), .int (nI n_2), .ref (x + 23), .ref (x + 24), .int (nI tk), .ref (x + 25), .int (nI il), .int (nI nx), .int ec, .int ep, .int kn, .int (nI st), .int nu, .long va]) := h_1
  refine z_get (ref := "FlowExporterModel") (C := RX12) (T := TX12) (N := 54) (ci := 14) (v := .ref (x + 2)) B hu_X12_fieldOf_X12 rfl 2 (Nat.le_of_ble_eq_true rfl) hv_X12_fieldOf_17 rfl h_2 rfl dX12_fieldOf_1 ?_
  refine z_bipush (v := 15) B dX12_fieldOf_4 rfl ?_
  refine z_bipush (v := 9) B dX12_fieldOf_6 rfl ?_
  refine z_iload_n B dX12_fieldOf_8 rfl 1 rfl ?_
  refine z_imul B dX12_fieldOf_9 ?_
  refine z_top (st1 := [.int (nI (9 * t)), .int 15, .ref (x + 2)]) (congrArg (fun w9 : Int32 => ([.int w9, .int 15, .ref (x + 2)] : List Value)) (nI_mul 9 t)) ?_
  refine z_iadd B dX12_fieldOf_10 ?_
  refine z_top (st1 := [.int (nI (15 + 9 * t)), .ref (x + 2)]) (congrArg (fun w9 : Int32 => ([.int w9, .ref (x + 2)] : List Value)) (nI_add 15 (9 * t))) ?_
  refine z_iload_n B dX12_fieldOf_11 rfl 2 rfl ?_
  refine z_iadd B dX12_fieldOf_12 ?_
  refine z_top (st1 := [.int (nI (15 + 9 * t + q)), .ref (x + 2)]) (congrArg (fun w9 : Int32 => ([.int w9, .ref (x + 2)] : List Value)) (nI_add (15 + 9 * t) q)) ?_
  obtain ⟨f_1, h_3, r_1⟩ := imk (k := 2) hI
  replace r_1 : (NNq c) f_1 := r_1
  have r_2 : NN f_1 := r_1.1
  have h_4 : Φ (x + 2) = some (ai_ G 307 f_1) := h_3
  refine z_iald B h_4 (vp_in_nI (by omega) (by omega)) dX12_fieldOf_13 ?_
  obtain ⟨n_3, b_14, e_1, e_2⟩ := fl_q (t := t) (q := q) r_1 (by omega) (by omega)
  refine z_top (st1 := [.int (nI n_3)]) (congrArg (fun w9 : Int32 => ([.int w9] : List Value)) ((congrArg f_1 (nI_clamp (by omega))).trans e_2)) ?_
  exact z_ret_i B dX12_fieldOf_14 ⟨⟨n_3, b_14, e_1, rfl⟩, rfl, hI, (fun b9 h9 => rfl)⟩

set_option maxHeartbeats 4000000 in
set_option maxRecDepth 100000 in
theorem r_fieldsOfC (G : EnvG) (l : Launch) (Φ : Hm) (sz x : Nat) (rd : (Nat → Int32) → Prop) (cr : (Nat → Int64) → Prop) (tp : (Nat → Int32) → Prop) (tt : (Nat → Int64) → Prop) (sI : (Nat → Int32) → Prop) (sT : (Nat → Int32) → Prop) (pt : (Nat → Int32) → Prop) (ql : (Nat → Int32) → Prop) (fl : Nat) (pe : Nat) (le : Nat) (nx : Nat) (il : Nat) (qu : Nat) (kn : Int32) (ec : Int32) (nu : Int32) (va : Int64) (st : Nat) (ep : Int32) (ti : Int32) (ad : Int32) (ob : Int64) (ra : Int32) (rt : Nat) (ex : Int32) (sa : Int64) (us : Int64) (tk : Nat) (th : Int32) (me : Int32) (dr : Int32) (se : Int64) (sn : Int64) (c : Cf) (t : Nat) (hx : G.2.2.2 ≤ x) (hI : Im G x (rd, (NNq c), cr, tp, tt, sI, sT, pt, ql, fl, pe, le, nx, il, qu, kn, ec, nu, va, st, ep, ti, ad, ob, ra, rt, ex, sa, us, tk, th, me, dr, se, sn) Φ) (ht : t < 4) : Ct G l yX12_fieldsOf wsX12_fieldsOf ({ frames := 1, cells := 0, slots := 0, locals := 22 }) 0 0 [.ref x, .int (nI t)] Φ sz (fun v Φ1 sz1 => (v = some (.int (tfF c t))) ∧ sz1 = sz ∧ (Im G x (rd, (NNq c), cr, tp, tt, sI, sT, pt, ql, fl, pe, le, nx, il, qu, kn, ec, nu, va, st, ep, ti, ad, ob, ra, rt, ex, sa, us, tk, th, me, dr, se, sn) Φ1) ∧ Fr x (fun j9 => False) Φ Φ1) := by
  refine Ct.of (cc := cX12_fieldsOf) (maxL := 4) (ret := (some .int)) (by decide) rfl (Nat.le_of_ble_eq_true rfl) ?_
  intro p9 e9 s9 m9 w9 t9 k9 B
  show Z p9 l e9 _ s9 m9 _ w9 t9 k9 _ G 4 0 [(0, .ref x), (1, .int (nI t))] [] Φ sz 0 0
  refine z_iconst (v := 0) B dX12_fieldsOf_0 rfl ?_
  refine z_istore_n (lv' := [(2, .int 0), (0, .ref x), (1, .int (nI t))]) B dX12_fieldsOf_1 rfl (Nat.le_of_ble_eq_true rfl) rfl ?_
  refine z_iconst (v := 0) B dX12_fieldsOf_2 rfl ?_
  refine z_istore_n (lv' := [(3, .int 0), (2, .int 0), (0, .ref x), (1, .int (nI t))]) B dX12_fieldsOf_3 rfl (Nat.le_of_ble_eq_true rfl) rfl ?_
  refine z_lv [0, 1, 2, 3] rfl ?_
  refine z_loop (α := Nat × Int32) (fun (a9 : Nat × Int32) Φi => Im G x (rd, (NNq c), cr, tp, tt, sI, sT, pt, ql, fl, pe, le, nx, il, qu, kn, ec, nu, va, st, ep, ti, ad, ob, ra, rt, ex, sa, us, tk, th, me, dr, se, sn) Φi ∧ Fr x (fun j9 => False) Φ Φi ∧ (a9.1 ≤ 9) ∧ (a9.1 ≤ szC c t) ∧ (a9.2 = fS (rwC c t) 511 a9.1) ∧ True) (fun a9 => [(3, .int (nI (a9.1))), (2, .int a9.2), (0, .ref x), (1, .int (nI t))]) (fun a9 => 9 - a9.1) ?_ (0, 0) ⟨hI, fun _ _ => rfl, (show 0 ≤ 9 by omega), (show 0 ≤ szC c t by omega), rfl, trivial⟩
  rintro ⟨i_1, i_2⟩ Φl1 ⟨hI1, hF1, b_1, b_2, b_3, -⟩ ih1
  replace hI1 : Im G x (rd, (NNq c), cr, tp, tt, sI, sT, pt, ql, fl, pe, le, nx, il, qu, kn, ec, nu, va, st, ep, ti, ad, ob, ra, rt, ex, sa, us, tk, th, me, dr, se, sn) Φl1 := hI1
  replace b_1 : i_1 ≤ 9 := b_1
  replace b_2 : i_1 ≤ szC c t := b_2
  replace b_3 : i_2 = fS (rwC c t) 511 i_1 := b_3
  show Z p9 l e9 _ s9 m9 _ w9 t9 k9 _ G 4 4 [(3, .int (nI i_1)), (2, .int i_2), (0, .ref x), (1, .int (nI t))] [] Φl1 _ _ _
  refine z_iload_n B dX12_fieldsOf_4 rfl 0 rfl ?_
  refine z_aload_n B dX12_fieldsOf_5 rfl 2 rfl ?_
  refine z_iload_n B dX12_fieldsOf_6 rfl 3 rfl ?_
  obtain ⟨n_1, v_1, n_2, h_1, b_16, b_4, b_5, b_6, b_7, b_8, b_9, b_10, b_11, b_12, b_13, b_14, b_15⟩ := im0 hI1
  replace b_4 : 1 ≤ rt := b_4
  replace b_5 : rt ≤ 1024 := b_5
  replace b_6 : fl ≤ 12 := b_6
  replace b_7 : pe ≤ 24 := b_7
  replace b_8 : le ≤ 700 := b_8
  replace b_9 : qu ≤ 12 := b_9
  replace b_10 : n_1 ≤ 8 := b_10
  replace b_11 : n_2 ≤ 24 := b_11
  replace b_12 : tk ≤ 24 := b_12
  replace b_13 : il ≤ 700 := b_13
  replace b_14 : nx ≤ 701 := b_14
  replace b_15 : st ≤ 701 := b_15
  have h_2 : Φl1 x = some (o_ 14 [.int th, .ref (x + 1), .ref (x + 2), .int ti, .int ra, .int (nI rt), .int ex, .int ad, .ref (x + 3), .ref (x + 4), .int me, .long se, .ref (x + 5), .int (nI fl), .int dr, .long ob, .long sa, .long sn, .long us, .ref (x + 6), .ref (x + 7), .int (nI pe), .ref (x + 8), .int (nI le), .ref (x + 9), .ref (x + 10), .int (nI qu), .ref (x + 11), .ref (x + 12), .ref (x + 13), .ref (x + 14), .ref (x + 15), .ref (x + 16), .int (nI n_1), .long v_1, .ref (x + 17), .ref (x + 18), .ref (x + 19), .ref (x + 20), .ref (x + 21), .ref (x + 22), .int (nI n_2), .ref (x + 23), .ref (x + 24), .int (nI tk), .ref (x + 25), .int (nI il), .int (nI nx), .int ec, .int ep, .int kn, .int (nI st), .int nu, .long va]) := h_1
  refine z_callV (As := [.int (nI t)]) (rest := [.int (nI i_1)]) B (r_sizeOfC G l Φl1 sz x rd cr tp tt sI sT pt ql fl pe le nx il qu kn ec nu va st ep ti ad ob ra rt ex sa us tk th me dr se sn c t hx hI1 (show t < 4 by omega)) (cwV 1 B.1.2.2.2.2 gX12_fieldsOf_X12_sizeOf rfl rfl rfl (by decide +kernel) ⟨Nat.le_of_ble_eq_true rfl, Nat.le_of_ble_eq_true rfl⟩) h_2 rfl rfl rfl rfl (Nat.le_of_ble_eq_true rfl) dX12_fieldsOf_7 ⟨Nat.le_of_ble_eq_true rfl, Nat.le_of_ble_eq_true rfl⟩ (fun r_1 Φ1 sz1 st1 hp1 hs1 => ?_)
  obtain ⟨⟨b_17, rfl⟩, hq1, hI2, hF2⟩ := hp1
  subst sz1
  replace hs1 : st1 = [.int (nI (szC c t)), .int (nI i_1)] := hs1
  subst st1
  replace b_17 : szC c t ≤ 9 := b_17
  replace hI2 : Im G x (rd, (NNq c), cr, tp, tt, sI, sT, pt, ql, fl, pe, le, nx, il, qu, kn, ec, nu, va, st, ep, ti, ad, ob, ra, rt, ex, sa, us, tk, th, me, dr, se, sn) Φ1 := hI2
  refine z_icmp_ge (tgt := 30) B dX12_fieldsOf_10 rfl (fun c_1 => ?_) (fun c_1 => ?_)
  · have e_1 : szC c t ≤ i_1 := (nI_leI (a := szC c t) (b := i_1) (by omega) (by omega)).mp c_1
    refine z_iload_n B dX12_fieldsOf_30 rfl 1 rfl ?_
    exact z_ret_i B dX12_fieldsOf_31 ⟨(congrArg (fun w9 : Int32 => some (Value.int w9)) (b_3.trans (congrArg (fS (rwC c t) 511) (show i_1 = szC c t by omega)))), rfl, hI2, (fun b9 h9 => ((hF2 b9 (fun j9 h8 h7 => (show False from h7).elim)).trans ((hF1 b9 (fun j9 h8 h7 => (show False from h7).elim)).trans rfl)))⟩
  · have e_2 : ¬ (szC c t ≤ i_1) := fun h9 => c_1 ((nI_leI (a := szC c t) (b := i_1) (by omega) (by omega)).mpr h9)
    refine z_iload_n B dX12_fieldsOf_13 rfl 1 rfl ?_
    refine z_iconst (v := 1) B dX12_fieldsOf_14 rfl ?_
    refine z_aload_n B dX12_fieldsOf_15 rfl 2 rfl ?_
    refine z_iload_n B dX12_fieldsOf_16 rfl 3 rfl ?_
    refine z_iload_n B dX12_fieldsOf_17 rfl 0 rfl ?_
    have h_3 : Φ1 x = some (o_ 14 [.int th, .ref (x + 1), .ref (x + 2), .int ti, .int ra, .int (nI rt), .int ex, .int ad, .ref (x + 3), .ref (x + 4), .int me, .long se, .ref (x + 5), .int (nI fl), .int dr, .long ob, .long sa, .long sn, .long us, .ref (x + 6), .ref (x + 7), .int (nI pe), .ref (x + 8), .int (nI le), .ref (x + 9), .ref (x + 10), .int (nI qu), .ref (x + 11), .ref (x + 12), .ref (x + 13), .ref (x + 14), .ref (x + 15), .ref (x + 16), .int (nI n_1), .long v_1, .ref (x + 17), .ref (x + 18), .ref (x + 19), .ref (x + 20), .ref (x + 21), .ref (x + 22), .int (nI n_2), .ref (x + 23), .ref (x + 24), .int (nI tk), .ref (x + 25), .int (nI il), .int (nI nx), .int ec, .int ep, .int kn, .int (nI st), .int nu, .long va]) := ((hF2 x (fun j9 h8 h7 => (show False from h7).elim)).trans h_2)
    refine z_callV (As := [.int (nI t), .int (nI i_1)]) (rest := [.int 1, .int i_2]) B (r_fieldOfC G l Φ1 sz x rd cr tp tt sI sT pt ql fl pe le nx il qu kn ec nu va st ep ti ad ob ra rt ex sa us tk th me dr se sn c t i_1 hx hI2 (show t < 4 by omega) (show i_1 < 9 by omega)) (cwV 2 B.1.2.2.2.2 gX12_fieldsOf_X12_fieldOf rfl rfl rfl (by decide +kernel) ⟨Nat.le_of_ble_eq_true rfl, Nat.le_of_ble_eq_true rfl⟩) h_3 rfl rfl rfl rfl (Nat.le_of_ble_eq_true rfl) dX12_fieldsOf_18 ⟨Nat.le_of_ble_eq_true rfl, Nat.le_of_ble_eq_true rfl⟩ (fun r_2 Φ2 sz2 st2 hp2 hs2 => ?_)
    obtain ⟨⟨n_3, b_18, e_3, rfl⟩, hq2, hI3, hF3⟩ := hp2
    subst sz2
    replace hs2 : st2 = [.int (nI n_3), .int 1, .int i_2] := hs2
    subst st2
    replace e_3 : rwC c t i_1 = nI n_3 := e_3
    replace hI3 : Im G x (rd, (NNq c), cr, tp, tt, sI, sT, pt, ql, fl, pe, le, nx, il, qu, kn, ec, nu, va, st, ep, ti, ad, ob, ra, rt, ex, sa, us, tk, th, me, dr, se, sn) Φ2 := hI3
    refine z_ishl B dX12_fieldsOf_21 ?_
    refine z_ior B dX12_fieldsOf_22 ?_
    refine z_istore_n (lv' := [(2, .int (i_2 ||| (1 <<< ((nI n_3) &&& 31)))), (3, .int (nI i_1)), (0, .ref x), (1, .int (nI t))]) B dX12_fieldsOf_23 rfl (Nat.le_of_ble_eq_true rfl) rfl ?_
    refine z_iinc (k := 1) (v := nI (i_1 + 1)) (lv' := [(3, .int (nI (i_1 + 1))), (2, .int (i_2 ||| (1 <<< ((nI n_3) &&& 31)))), (0, .ref x), (1, .int (nI t))]) B dX12_fieldsOf_24 rfl (nI_add i_1 1) (Nat.le_of_ble_eq_true rfl) rfl ?_
    refine z_goto (tgt := 4) B dX12_fieldsOf_27 rfl ?_
    refine z_lv [0, 1, 2, 3] rfl ?_
    exact ih1 (i_1 + 1, i_2 ||| (1 <<< ((nI n_3) &&& 31))) Φ2 (show 9 - (i_1 + 1) < 9 - i_1 by omega) ⟨hI3, (fun b9 h9 => ((hF3 b9 (fun j9 h8 h7 => (show False from h7).elim)).trans ((hF2 b9 (fun j9 h8 h7 => (show False from h7).elim)).trans ((hF1 b9 (fun j9 h8 h7 => (show False from h7).elim)).trans rfl)))), (show (i_1 + 1) ≤ 9 by omega), (show (i_1 + 1) ≤ szC c t by omega), (fS_st b_3 e_3 b_18), trivial⟩

set_option maxHeartbeats 4000000 in
set_option maxRecDepth 100000 in
theorem r_effectiveC (G : EnvG) (l : Launch) (Φ : Hm) (sz x : Nat) (rd : (Nat → Int32) → Prop) (cr : (Nat → Int64) → Prop) (tp : (Nat → Int32) → Prop) (tt : (Nat → Int64) → Prop) (sI : (Nat → Int32) → Prop) (sT : (Nat → Int32) → Prop) (pt : (Nat → Int32) → Prop) (ql : (Nat → Int32) → Prop) (fl : Nat) (pe : Nat) (le : Nat) (nx : Nat) (il : Nat) (qu : Nat) (kn : Int32) (ec : Int32) (nu : Int32) (va : Int64) (st : Nat) (ep : Int32) (ti : Int32) (ad : Int32) (ob : Int64) (ra : Int32) (rt : Nat) (ex : Int32) (sa : Int64) (us : Int64) (tk : Nat) (th : Int32) (me : Int32) (dr : Int32) (se : Int64) (sn : Int64) (c : Cf) (t : Nat) (hx : G.2.2.2 ≤ x) (hI : Im G x (rd, (NNq c), cr, tp, tt, sI, sT, pt, ql, fl, pe, le, nx, il, qu, kn, ec, nu, va, st, ep, ti, ad, ob, ra, rt, ex, sa, us, tk, th, me, dr, se, sn) Φ) (ht : t < 4) : Ct G l yX12_effective wsX12_effective ({ frames := 2, cells := 0, slots := 0, locals := 45 }) 0 0 [.ref x, .int (nI t)] Φ sz (fun v Φ1 sz1 => (v = some (.int (tfF c t &&& c 9))) ∧ sz1 = sz ∧ (Im G x (rd, (NNq c), cr, tp, tt, sI, sT, pt, ql, fl, pe, le, nx, il, qu, kn, ec, nu, va, st, ep, ti, ad, ob, ra, rt, ex, sa, us, tk, th, me, dr, se, sn) Φ1) ∧ Fr x (fun j9 => False) Φ Φ1) := by
  refine Ct.of (cc := cX12_effective) (maxL := 2) (ret := (some .int)) (by decide) rfl (Nat.le_of_ble_eq_true rfl) ?_
  intro p9 e9 s9 m9 w9 t9 k9 B
  show Z p9 l e9 _ s9 m9 _ w9 t9 k9 _ G 2 0 [(0, .ref x), (1, .int (nI t))] [] Φ sz 0 0
  refine z_aload_n B dX12_effective_0 rfl 0 rfl ?_
  refine z_iload_n B dX12_effective_1 rfl 1 rfl ?_
  obtain ⟨n_1, v_1, n_2, h_1, b_13, b_1, b_2, b_3, b_4, b_5, b_6, b_7, b_8, b_9, b_10, b_11, b_12⟩ := im0 hI
  replace b_1 : 1 ≤ rt := b_1
  replace b_2 : rt ≤ 1024 := b_2
  replace b_3 : fl ≤ 12 := b_3
  replace b_4 : pe ≤ 24 := b_4
  replace b_5 : le ≤ 700 := b_5
  replace b_6 : qu ≤ 12 := b_6
  replace b_7 : n_1 ≤ 8 := b_7
  replace b_8 : n_2 ≤ 24 := b_8
  replace b_9 : tk ≤ 24 := b_9
  replace b_10 : il ≤ 700 := b_10
  replace b_11 : nx ≤ 701 := b_11
  replace b_12 : st ≤ 701 := b_12
  have h_2 : Φ x = some (o_ 14 [.int th, .ref (x + 1), .ref (x + 2), .int ti, .int ra, .int (nI rt), .int ex, .int ad, .ref (x + 3), .ref (x + 4), .int me, .long se, .ref (x + 5), .int (nI fl), .int dr, .long ob, .long sa, .long sn, .long us, .ref (x + 6), .ref (x + 7), .int (nI pe), .ref (x + 8), .int (nI le), .ref (x + 9), .ref (x + 10), .int (nI qu), .ref (x + 11), .ref (x + 12), .ref (x + 13), .ref (x + 14), .ref (x + 15), .ref (x + 16), .int (nI n_1), .long v_1, .ref (x + 17), .ref (x + 18), .ref (x + 19), .ref (x + 20), .ref (x + 21), .ref (x + 22), .int (nI n_2), .ref (x + 23), .ref (x + 24), .int (nI tk), .ref (x + 25), .int (nI il), .int (nI nx), .int ec, .int ep, .int kn, .int (nI st), .int nu, .long va]) := h_1
  refine z_callV (As := [.int (nI t)]) (rest := []) B (r_fieldsOfC G l Φ sz x rd cr tp tt sI sT pt ql fl pe le nx il qu kn ec nu va st ep ti ad ob ra rt ex sa us tk th me dr se sn c t hx hI (show t < 4 by omega)) (cwV 1 B.1.2.2.2.2 gX12_effective_X12_fieldsOf rfl rfl rfl (by decide +kernel) ⟨Nat.le_of_ble_eq_true rfl, Nat.le_of_ble_eq_true rfl⟩) h_2 rfl rfl rfl rfl (Nat.le_of_ble_eq_true rfl) dX12_effective_2 ⟨Nat.le_of_ble_eq_true rfl, Nat.le_of_ble_eq_true rfl⟩ (fun r_1 Φ1 sz1 st1 hp1 hs1 => ?_)
  obtain ⟨rfl, hq1, hI1, hF1⟩ := hp1
  subst sz1
  replace hs1 : st1 = [.int (tfF c t)] := hs1
  subst st1
  replace hI1 : Im G x (rd, (NNq c), cr, tp, tt, sI, sT, pt, ql, fl, pe, le, nx, il, qu, kn, ec, nu, va, st, ep, ti, ad, ob, ra, rt, ex, sa, us, tk, th, me, dr, se, sn) Φ1 := hI1
  refine z_aload_n B dX12_effective_5 rfl 0 rfl ?_
  have h_3 : Φ1 x = some (o_ 14 [.int th, .ref (x + 1), .ref (x + 2), .int ti, .int ra, .int (nI rt), .int ex, .int ad, .ref (x + 3), .ref (x + 4), .int me, .long se, .ref (x + 5), .int (nI fl), .int dr, .long ob, .long sa, .long sn, .long us, .ref (x + 6), .ref (x + 7), .int (nI pe), .ref (x + 8), .int (nI le), .ref (x + 9), .ref (x + 10), .int (nI qu), .ref (x + 11), .ref (x + 12), .ref (x + 13), .ref (x + 14), .ref (x + 15), .ref (x + 16), .int (nI n_1), .long v_1, .ref (x + 17), .ref (x + 18), .ref (x + 19), .ref (x + 20), .ref (x + 21), .ref (x + 22), .int (nI n_2), .ref (x + 23), .ref (x + 24), .int (nI tk), .ref (x + 25), .int (nI il), .int (nI nx), .int ec, .int ep, .int kn, .int (nI st), .int nu, .long va]) := ((hF1 x (fun j9 h8 h7 => (show False from h7).elim)).trans h_2)
  refine z_get (ref := "FlowExporterModel") (C := RX12) (T := TX12) (N := 54) (ci := 14) (v := .ref (x + 2)) B hu_X12_effective_X12 rfl 2 (Nat.le_of_ble_eq_true rfl) hv_X12_effective_17 rfl h_3 rfl dX12_effective_6 ?_
  refine z_bipush (v := 9) B dX12_effective_9 rfl ?_
  obtain ⟨f_1, h_4, r_2⟩ := imk (k := 2) hI1
  replace r_2 : (NNq c) f_1 := r_2
  have r_3 : NN f_1 := r_2.1
  have h_5 : Φ1 (x + 2) = some (ai_ G 307 f_1) := h_4
  refine z_iald B h_5 (vin rfl) dX12_effective_11 ?_
  refine z_iand B dX12_effective_12 ?_
  exact z_ret_i B dX12_effective_13 ⟨(congrArg (fun w9 : Int32 => some (Value.int (tfF c t &&& w9))) ((congrArg f_1 (show (9 : Int32).toNatClampNeg = 9 by decide)).trans (r_2.2 9 (by decide)))), rfl, hI1, (fun b9 h9 => ((hF1 b9 (fun j9 h8 h7 => (show False from h7).elim)).trans rfl))⟩

set_option maxHeartbeats 4000000 in
set_option maxRecDepth 100000 in
theorem r_recordLengthOfC (G : EnvG) (l : Launch) (Φ : Hm) (sz x : Nat) (rd : (Nat → Int32) → Prop) (cr : (Nat → Int64) → Prop) (tp : (Nat → Int32) → Prop) (tt : (Nat → Int64) → Prop) (sI : (Nat → Int32) → Prop) (sT : (Nat → Int32) → Prop) (pt : (Nat → Int32) → Prop) (ql : (Nat → Int32) → Prop) (fl : Nat) (pe : Nat) (le : Nat) (nx : Nat) (il : Nat) (qu : Nat) (kn : Int32) (ec : Int32) (nu : Int32) (va : Int64) (st : Nat) (ep : Int32) (ti : Int32) (ad : Int32) (ob : Int64) (ra : Int32) (rt : Nat) (ex : Int32) (sa : Int64) (us : Int64) (tk : Nat) (th : Int32) (me : Int32) (dr : Int32) (se : Int64) (sn : Int64) (c : Cf) (t : Nat) (hx : G.2.2.2 ≤ x) (hI : Im G x (rd, (NNq c), cr, tp, tt, sI, sT, pt, ql, fl, pe, le, nx, il, qu, kn, ec, nu, va, st, ep, ti, ad, ob, ra, rt, ex, sa, us, tk, th, me, dr, se, sn) Φ) (ht : t < 4) : Ct G l yX12_recordLengthOf wsX12_recordLengthOf ({ frames := 3, cells := 0, slots := 0, locals := 66 }) 0 0 [.ref x, .int (nI t)] Φ sz (fun v Φ1 sz1 => (v = some (.int (nI (lenR (tfF c t &&& c 9) 9)))) ∧ sz1 = sz ∧ (Im G x (rd, (NNq c), cr, tp, tt, sI, sT, pt, ql, fl, pe, le, nx, il, qu, kn, ec, nu, va, st, ep, ti, ad, ob, ra, rt, ex, sa, us, tk, th, me, dr, se, sn) Φ1) ∧ Fr x (fun j9 => False) Φ Φ1) := by
  refine Ct.of (cc := cX12_recordLengthOf) (maxL := 4) (ret := (some .int)) (by decide) rfl (Nat.le_of_ble_eq_true rfl) ?_
  intro p9 e9 s9 m9 w9 t9 k9 B
  show Z p9 l e9 _ s9 m9 _ w9 t9 k9 _ G 4 0 [(0, .ref x), (1, .int (nI t))] [] Φ sz 0 0
  refine z_iconst (v := 0) B dX12_recordLengthOf_0 rfl ?_
  refine z_istore_n (lv' := [(2, .int 0), (0, .ref x), (1, .int (nI t))]) B dX12_recordLengthOf_1 rfl (Nat.le_of_ble_eq_true rfl) rfl ?_
  refine z_iconst (v := 0) B dX12_recordLengthOf_2 rfl ?_
  refine z_istore_n (lv' := [(3, .int 0), (2, .int 0), (0, .ref x), (1, .int (nI t))]) B dX12_recordLengthOf_3 rfl (Nat.le_of_ble_eq_true rfl) rfl ?_
  refine z_lv [0, 1, 2, 3] rfl ?_
  refine z_loop (α := Nat × Nat) (fun (a9 : Nat × Nat) Φi => Im G x (rd, (NNq c), cr, tp, tt, sI, sT, pt, ql, fl, pe, le, nx, il, qu, kn, ec, nu, va, st, ep, ti, ad, ob, ra, rt, ex, sa, us, tk, th, me, dr, se, sn) Φi ∧ Fr x (fun j9 => False) Φ Φi ∧ (a9.1 ≤ 9) ∧ (a9.2 ≤ lpx a9.1) ∧ (a9.2 = lenR (tfF c t &&& c 9) a9.1) ∧ True) (fun a9 => [(3, .int (nI (a9.1))), (2, .int (nI (a9.2))), (0, .ref x), (1, .int (nI t))]) (fun a9 => 9 - a9.1) ?_ (0, 0) ⟨hI, fun _ _ => rfl, (show 0 ≤ 9 by omega), (Nat.zero_le _), rfl, trivial⟩
  rintro ⟨i_1, i_2⟩ Φl1 ⟨hI1, hF1, b_1, b_2, b_3, -⟩ ih1
  replace hI1 : Im G x (rd, (NNq c), cr, tp, tt, sI, sT, pt, ql, fl, pe, le, nx, il, qu, kn, ec, nu, va, st, ep, ti, ad, ob, ra, rt, ex, sa, us, tk, th, me, dr, se, sn) Φl1 := hI1
  replace b_1 : i_1 ≤ 9 := b_1
  replace b_2 : i_2 ≤ lpx i_1 := b_2
  replace b_3 : i_2 = lenR (tfF c t &&& c 9) i_1 := b_3
  show Z p9 l e9 _ s9 m9 _ w9 t9 k9 _ G 4 4 [(3, .int (nI i_1)), (2, .int (nI i_2)), (0, .ref x), (1, .int (nI t))] [] Φl1 _ _ _
  refine z_iload_n B dX12_recordLengthOf_4 rfl 0 rfl ?_
  have b_4 := lpx_le (k := i_1) (by omega)
  refine z_bipush (v := 9) B dX12_recordLengthOf_5 rfl ?_
  refine z_icmp_ge (tgt := 36) B dX12_recordLengthOf_7 rfl (fun c_1 => ?_) (fun c_1 => ?_)
  · have e_1 : 9 ≤ i_1 := (nI_leI (a := 9) (b := i_1) (by omega) (by omega)).mp c_1
    refine z_iload_n B dX12_recordLengthOf_36 rfl 1 rfl ?_
    exact z_ret_i B dX12_recordLengthOf_37 ⟨(congrArg (fun w9 : Nat => some (Value.int (nI w9))) (b_3.trans (congrArg (lenR (tfF c t &&& c 9)) (show i_1 = 9 by omega)))), rfl, hI1, (fun b9 h9 => ((hF1 b9 (fun j9 h8 h7 => (show False from h7).elim)).trans rfl))⟩
  · have e_2 : ¬ (9 ≤ i_1) := fun h9 => c_1 ((nI_leI (a := 9) (b := i_1) (by omega) (by omega)).mpr h9)
    refine z_aload_n B dX12_recordLengthOf_10 rfl 2 rfl ?_
    refine z_iload_n B dX12_recordLengthOf_11 rfl 3 rfl ?_
    obtain ⟨n_1, v_1, n_2, h_1, b_17, b_5, b_6, b_7, b_8, b_9, b_10, b_11, b_12, b_13, b_14, b_15, b_16⟩ := im0 hI1
    replace b_5 : 1 ≤ rt := b_5
    replace b_6 : rt ≤ 1024 := b_6
    replace b_7 : fl ≤ 12 := b_7
    replace b_8 : pe ≤ 24 := b_8
    replace b_9 : le ≤ 700 := b_9
    replace b_10 : qu ≤ 12 := b_10
    replace b_11 : n_1 ≤ 8 := b_11
    replace b_12 : n_2 ≤ 24 := b_12
    replace b_13 : tk ≤ 24 := b_13
    replace b_14 : il ≤ 700 := b_14
    replace b_15 : nx ≤ 701 := b_15
    replace b_16 : st ≤ 701 := b_16
    have h_2 : Φl1 x = some (o_ 14 [.int th, .ref (x + 1), .ref (x + 2), .int ti, .int ra, .int (nI rt), .int ex, .int ad, .ref (x + 3), .ref (x + 4), .int me, .long se, .ref (x + 5), .int (nI fl), .int dr, .long ob, .long sa, .long sn, .long us, .ref (x + 6), .ref (x + 7), .int (nI pe), .ref (x + 8), .int (nI le), .ref (x + 9), .ref (x + 10), .int (nI qu), .ref (x + 11), .ref (x + 12), .ref (x + 13), .ref (x + 14), .ref (x + 15), .ref (x + 16), .int (nI n_1), .long v_1, .ref (x + 17), .ref (x + 18), .ref (x + 19), .ref (x + 20), .ref (x + 21), .ref (x + 22), .int (nI n_2), .ref (x + 23), .ref (x + 24), .int (nI tk), .ref (x + 25), .int (nI il), .int (nI nx), .int ec, .int ep, .int kn, .int (nI st), .int nu, .long va]) := h_1
    refine z_callV (As := [.int (nI t)]) (rest := []) B (r_effectiveC G l Φl1 sz x rd cr tp tt sI sT pt ql fl pe le nx il qu kn ec nu va st ep ti ad ob ra rt ex sa us tk th me dr se sn c t hx hI1 (show t < 4 by omega)) (cwV 1 B.1.2.2.2.2 gX12_recordLengthOf_X12_effective rfl rfl rfl (by decide +kernel) ⟨Nat.le_of_ble_eq_true rfl, Nat.le_of_ble_eq_true rfl⟩) h_2 rfl rfl rfl rfl (Nat.le_of_ble_eq_true rfl) dX12_recordLengthOf_12 ⟨Nat.le_of_ble_eq_true rfl, Nat.le_of_ble_eq_true rfl⟩ (fun r_1 Φ1 sz1 st1 hp1 hs1 => ?_)
    obtain ⟨rfl, hq1, hI2, hF2⟩ := hp1
    subst sz1
    replace hs1 : st1 = [.int (tfF c t &&& c 9)] := hs1
    subst st1
    replace hI2 : Im G x (rd, (NNq c), cr, tp, tt, sI, sT, pt, ql, fl, pe, le, nx, il, qu, kn, ec, nu, va, st, ep, ti, ad, ob, ra, rt, ex, sa, us, tk, th, me, dr, se, sn) Φ1 := hI2
    refine z_iload_n B dX12_recordLengthOf_15 rfl 0 rfl ?_
    refine z_ishr B dX12_recordLengthOf_16 ?_
    refine z_iconst (v := 1) B dX12_recordLengthOf_17 rfl ?_
    refine z_iand B dX12_recordLengthOf_18 ?_
    refine z_iconst (v := 1) B dX12_recordLengthOf_19 rfl ?_
    refine z_icmp_ne (tgt := 30) B dX12_recordLengthOf_20 rfl (fun c_2 => ?_) (fun c_2 => ?_)
    · refine z_iinc (k := 0) (v := nI (i_1 + 1)) (lv' := [(3, .int (nI (i_1 + 1))), (2, .int (nI i_2)), (0, .ref x), (1, .int (nI t))]) B dX12_recordLengthOf_30 rfl (nI_add i_1 1) (Nat.le_of_ble_eq_true rfl) rfl ?_
      refine z_goto (tgt := 4) B dX12_recordLengthOf_33 rfl ?_
      refine z_lv [0, 1, 2, 3] rfl ?_
      exact ih1 (i_1 + 1, i_2) Φ1 (show 9 - (i_1 + 1) < 9 - i_1 by omega) ⟨hI2, (fun b9 h9 => ((hF2 b9 (fun j9 h8 h7 => (show False from h7).elim)).trans ((hF1 b9 (fun j9 h8 h7 => (show False from h7).elim)).trans rfl))), (show (i_1 + 1) ≤ 9 by omega), (lpx_k b_2), (show _ by rw [lenR_n (show ¬ bitI (nI _) _ from c_2)]; omega), trivial⟩
    · refine z_iload_n B dX12_recordLengthOf_23 rfl 1 rfl ?_
      refine z_iload_n B dX12_recordLengthOf_24 rfl 0 rfl ?_
      refine z_callS (As := [.int (nI i_1)]) (rest := [.int (nI i_2)]) B (r_lengthOf G l Φ1 sz x rd (NNq c) cr tp tt sI sT pt ql fl pe le nx il qu kn ec nu va st ep ti ad ob ra rt ex sa us tk th me dr se sn i_1 hx hI2 (show i_1 < 2 ^ 31 by omega) (fun f9 h9 => h9.1)) (va_cwS 1 B.1.2.2.2.2 gX12_recordLengthOf_X12_lengthOf rfl rfl rfl (by decide +kernel) ⟨Nat.le_of_ble_eq_true rfl, Nat.le_of_ble_eq_true rfl⟩) rfl rfl (Nat.le_of_ble_eq_true rfl) dX12_recordLengthOf_25 ⟨Nat.le_of_ble_eq_true rfl, Nat.le_of_ble_eq_true rfl⟩ (fun r_2 Φ2 sz2 st2 hp2 hs2 => ?_)
      obtain ⟨rfl, hq2, hI3, hF3⟩ := hp2
      subst sz2
      replace hs2 : st2 = [.int (nI (lnN i_1)), .int (nI i_2)] := hs2
      subst st2
      have b_18 := lnN_pos i_1
      have b_19 := lnN_le i_1
      replace hI3 : Im G x (rd, (NNq c), cr, tp, tt, sI, sT, pt, ql, fl, pe, le, nx, il, qu, kn, ec, nu, va, st, ep, ti, ad, ob, ra, rt, ex, sa, us, tk, th, me, dr, se, sn) Φ2 := hI3
      refine z_iadd B dX12_recordLengthOf_28 ?_
      refine z_top (st1 := [.int (nI (i_2 + lnN i_1))]) (congrArg (fun w9 : Int32 => ([.int w9] : List Value)) (nI_add i_2 (lnN i_1))) ?_
      refine z_istore_n (lv' := [(2, .int (nI (i_2 + lnN i_1))), (3, .int (nI i_1)), (0, .ref x), (1, .int (nI t))]) B dX12_recordLengthOf_29 rfl (Nat.le_of_ble_eq_true rfl) rfl ?_
      refine z_iinc (k := 1) (v := nI (i_1 + 1)) (lv' := [(3, .int (nI (i_1 + 1))), (2, .int (nI (i_2 + lnN i_1))), (0, .ref x), (1, .int (nI t))]) B dX12_recordLengthOf_30 rfl (nI_add i_1 1) (Nat.le_of_ble_eq_true rfl) rfl ?_
      refine z_goto (tgt := 4) B dX12_recordLengthOf_33 rfl ?_
      refine z_lv [0, 1, 2, 3] rfl ?_
      exact ih1 (i_1 + 1, i_2 + lnN i_1) Φ2 (show 9 - (i_1 + 1) < 9 - i_1 by omega) ⟨hI3, (fun b9 h9 => ((hF3 b9 (fun j9 h8 h7 => (show False from h7).elim)).trans ((hF2 b9 (fun j9 h8 h7 => (show False from h7).elim)).trans ((hF1 b9 (fun j9 h8 h7 => (show False from h7).elim)).trans rfl)))), (show (i_1 + 1) ≤ 9 by omega), (lpx_s b_2), (show _ by rw [lenR_y (show bitI (nI _) _ from c_2)]; omega), trivial⟩

set_option maxHeartbeats 4000000 in
set_option maxRecDepth 100000 in
theorem r_isSupportedC (G : EnvG) (l : Launch) (Φ : Hm) (sz x : Nat) (rd : (Nat → Int32) → Prop) (cr : (Nat → Int64) → Prop) (tp : (Nat → Int32) → Prop) (tt : (Nat → Int64) → Prop) (sI : (Nat → Int32) → Prop) (sT : (Nat → Int32) → Prop) (pt : (Nat → Int32) → Prop) (ql : (Nat → Int32) → Prop) (fl : Nat) (pe : Nat) (le : Nat) (nx : Nat) (il : Nat) (qu : Nat) (kn : Int32) (ec : Int32) (nu : Int32) (va : Int64) (st : Nat) (ep : Int32) (ti : Int32) (ad : Int32) (ob : Int64) (ra : Int32) (rt : Nat) (ex : Int32) (sa : Int64) (us : Int64) (tk : Nat) (th : Int32) (me : Int32) (dr : Int32) (se : Int64) (sn : Int64) (c : Cf) (a : Int32) (hx : G.2.2.2 ≤ x) (hI : Im G x (rd, (NNq c), cr, tp, tt, sI, sT, pt, ql, fl, pe, le, nx, il, qu, kn, ec, nu, va, st, ep, ti, ad, ob, ra, rt, ex, sa, us, tk, th, me, dr, se, sn) Φ)  : Ct G l yX12_isSupported wsX12_isSupported ({ frames := 0, cells := 0, slots := 0, locals := 0 }) 0 0 [.ref x, .int a] Φ sz (fun v Φ1 sz1 => (v = some (.int (suV c a))) ∧ sz1 = sz ∧ (Im G x (rd, (NNq c), cr, tp, tt, sI, sT, pt, ql, fl, pe, le, nx, il, qu, kn, ec, nu, va, st, ep, ti, ad, ob, ra, rt, ex, sa, us, tk, th, me, dr, se, sn) Φ1) ∧ Fr x (fun j9 => False) Φ Φ1) := by
  refine Ct.of (cc := cX12_isSupported) (maxL := 2) (ret := (some .boolean)) (by decide) rfl (Nat.le_of_ble_eq_true rfl) ?_
  intro p9 e9 s9 m9 w9 t9 k9 B
  show Z p9 l e9 _ s9 m9 _ w9 t9 k9 _ G 2 0 [(0, .ref x), (1, .int a)] [] Φ sz 0 0
  refine z_aload_n B dX12_isSupported_0 rfl 0 rfl ?_
  obtain ⟨n_1, v_1, n_2, h_1, b_13, b_1, b_2, b_3, b_4, b_5, b_6, b_7, b_8, b_9, b_10, b_11, b_12⟩ := im0 hI
  replace b_1 : 1 ≤ rt := b_1
  replace b_2 : rt ≤ 1024 := b_2
  replace b_3 : fl ≤ 12 := b_3
  replace b_4 : pe ≤ 24 := b_4
  replace b_5 : le ≤ 700 := b_5
  replace b_6 : qu ≤ 12 := b_6
  replace b_7 : n_1 ≤ 8 := b_7
  replace b_8 : n_2 ≤ 24 := b_8
  replace b_9 : tk ≤ 24 := b_9
  replace b_10 : il ≤ 700 := b_10
  replace b_11 : nx ≤ 701 := b_11
  replace b_12 : st ≤ 701 := b_12
  have h_2 : Φ x = some (o_ 14 [.int th, .ref (x + 1), .ref (x + 2), .int ti, .int ra, .int (nI rt), .int ex, .int ad, .ref (x + 3), .ref (x + 4), .int me, .long se, .ref (x + 5), .int (nI fl), .int dr, .long ob, .long sa, .long sn, .long us, .ref (x + 6), .ref (x + 7), .int (nI pe), .ref (x + 8), .int (nI le), .ref (x + 9), .ref (x + 10), .int (nI qu), .ref (x + 11), .ref (x + 12), .ref (x + 13), .ref (x + 14), .ref (x + 15), .ref (x + 16), .int (nI n_1), .long v_1, .ref (x + 17), .ref (x + 18), .ref (x + 19), .ref (x + 20), .ref (x + 21), .ref (x + 22), .int (nI n_2), .ref (x + 23), .ref (x + 24), .int (nI tk), .ref (x + 25), .int (nI il), .int (nI nx), .int ec, .int ep, .int kn, .int (nI st), .int nu, .long va]) := h_1
  refine z_get (ref := "FlowExporterModel") (C := RX12) (T := TX12) (N := 54) (ci := 14) (v := .ref (x + 2)) B hu_X12_isSupported_X12 rfl 2 (Nat.le_of_ble_eq_true rfl) hv_X12_isSupported_17 rfl h_2 rfl dX12_isSupported_1 ?_
  refine z_bipush (v := 9) B dX12_isSupported_4 rfl ?_
  obtain ⟨f_1, h_3, r_1⟩ := imk (k := 2) hI
  replace r_1 : (NNq c) f_1 := r_1
  have r_2 : NN f_1 := r_1.1
  have h_4 : Φ (x + 2) = some (ai_ G 307 f_1) := h_3
  refine z_iald B h_4 (vin rfl) dX12_isSupported_6 ?_
  refine z_iload_n B dX12_isSupported_7 rfl 1 rfl ?_
  refine z_ishr B dX12_isSupported_8 ?_
  refine z_iconst (v := 1) B dX12_isSupported_9 rfl ?_
  refine z_iand B dX12_isSupported_10 ?_
  refine z_iconst (v := 1) B dX12_isSupported_11 rfl ?_
  refine z_icmp_ne (tgt := 19) B dX12_isSupported_12 rfl (fun c_1 => ?_) (fun c_1 => ?_)
  · refine z_iconst (v := 0) B dX12_isSupported_19 rfl ?_
    exact z_ret_z B dX12_isSupported_20 (by decide) ⟨(congrArg (fun w9 : Int32 => some (Value.int w9)) (suV_0 (show ¬ bitI _ _ from ((r_1.2 9 (by decide)) ▸ c_1))).symm), rfl, hI, (fun b9 h9 => rfl)⟩
  · refine z_iconst (v := 1) B dX12_isSupported_15 rfl ?_
    refine z_goto (tgt := 20) B dX12_isSupported_16 rfl ?_
    exact z_ret_z B dX12_isSupported_20 (by decide) ⟨(congrArg (fun w9 : Int32 => some (Value.int w9)) (suV_1 (show bitI _ _ from ((r_1.2 9 (by decide)) ▸ c_1))).symm), rfl, hI, (fun b9 h9 => rfl)⟩

set_option maxHeartbeats 4000000 in
set_option maxRecDepth 100000 in
theorem r_isTemplateC (G : EnvG) (l : Launch) (Φ : Hm) (sz x : Nat) (rd : (Nat → Int32) → Prop) (cr : (Nat → Int64) → Prop) (tp : (Nat → Int32) → Prop) (tt : (Nat → Int64) → Prop) (sI : (Nat → Int32) → Prop) (sT : (Nat → Int32) → Prop) (pt : (Nat → Int32) → Prop) (ql : (Nat → Int32) → Prop) (fl : Nat) (pe : Nat) (le : Nat) (nx : Nat) (il : Nat) (qu : Nat) (kn : Int32) (ec : Int32) (nu : Int32) (va : Int64) (st : Nat) (ep : Int32) (ti : Int32) (ad : Int32) (ob : Int64) (ra : Int32) (rt : Nat) (ex : Int32) (sa : Int64) (us : Int64) (tk : Nat) (th : Int32) (me : Int32) (dr : Int32) (se : Int64) (sn : Int64) (c : Cf) (a : Int32) (hx : G.2.2.2 ≤ x) (hI : Im G x (rd, (NNq c), cr, tp, tt, sI, sT, pt, ql, fl, pe, le, nx, il, qu, kn, ec, nu, va, st, ep, ti, ad, ob, ra, rt, ex, sa, us, tk, th, me, dr, se, sn) Φ)  : Ct G l yX12_isTemplate wsX12_isTemplate ({ frames := 1, cells := 0, slots := 0, locals := 25 }) 0 0 [.ref x, .int a] Φ sz (fun v Φ1 sz1 => ((v = some (.int 0) ∧ ¬ InT c a) ∨ (v = some (.int 1) ∧ ∃ n9 : Nat, n9 < 4 ∧ a = nI n9 ∧ InT c a)) ∧ sz1 = sz ∧ (Im G x (rd, (NNq c), cr, tp, tt, sI, sT, pt, ql, fl, pe, le, nx, il, qu, kn, ec, nu, va, st, ep, ti, ad, ob, ra, rt, ex, sa, us, tk, th, me, dr, se, sn) Φ1) ∧ Fr x (fun j9 => False) Φ Φ1) := by
  refine Ct.of (cc := cX12_isTemplate) (maxL := 2) (ret := (some .boolean)) (by decide) rfl (Nat.le_of_ble_eq_true rfl) ?_
  intro p9 e9 s9 m9 w9 t9 k9 B
  show Z p9 l e9 _ s9 m9 _ w9 t9 k9 _ G 2 0 [(0, .ref x), (1, .int a)] [] Φ sz 0 0
  refine z_iload_n B dX12_isTemplate_0 rfl 1 rfl ?_
  refine z_i2l (v := a.toInt64) B dX12_isTemplate_1 rfl ?_
  refine z_lconst (v := 0) B dX12_isTemplate_2 rfl ?_
  refine z_aload_n B dX12_isTemplate_3 rfl 0 rfl ?_
  obtain ⟨n_1, v_1, n_2, h_1, b_13, b_1, b_2, b_3, b_4, b_5, b_6, b_7, b_8, b_9, b_10, b_11, b_12⟩ := im0 hI
  replace b_1 : 1 ≤ rt := b_1
  replace b_2 : rt ≤ 1024 := b_2
  replace b_3 : fl ≤ 12 := b_3
  replace b_4 : pe ≤ 24 := b_4
  replace b_5 : le ≤ 700 := b_5
  replace b_6 : qu ≤ 12 := b_6
  replace b_7 : n_1 ≤ 8 := b_7
  replace b_8 : n_2 ≤ 24 := b_8
  replace b_9 : tk ≤ 24 := b_9
  replace b_10 : il ≤ 700 := b_10
  replace b_11 : nx ≤ 701 := b_11
  replace b_12 : st ≤ 701 := b_12
  have h_2 : Φ x = some (o_ 14 [.int th, .ref (x + 1), .ref (x + 2), .int ti, .int ra, .int (nI rt), .int ex, .int ad, .ref (x + 3), .ref (x + 4), .int me, .long se, .ref (x + 5), .int (nI fl), .int dr, .long ob, .long sa, .long sn, .long us, .ref (x + 6), .ref (x + 7), .int (nI pe), .ref (x + 8), .int (nI le), .ref (x + 9), .ref (x + 10), .int (nI qu), .ref (x + 11), .ref (x + 12), .ref (x + 13), .ref (x + 14), .ref (x + 15), .ref (x + 16), .int (nI n_1), .long v_1, .ref (x + 17), .ref (x + 18), .ref (x + 19), .ref (x + 20), .ref (x + 21), .ref (x + 22), .int (nI n_2), .ref (x + 23), .ref (x + 24), .int (nI tk), .ref (x + 25), .int (nI il), .int (nI nx), .int ec, .int ep, .int kn, .int (nI st), .int nu, .long va]) := h_1
  refine z_get (ref := "FlowExporterModel") (C := RX12) (T := TX12) (N := 54) (ci := 14) (v := .ref (x + 2)) B hu_X12_isTemplate_X12 rfl 2 (Nat.le_of_ble_eq_true rfl) hv_X12_isTemplate_17 rfl h_2 rfl dX12_isTemplate_4 ?_
  refine z_bipush (v := 10) B dX12_isTemplate_7 rfl ?_
  obtain ⟨f_1, h_3, r_1⟩ := imk (k := 2) hI
  replace r_1 : (NNq c) f_1 := r_1
  have r_2 : NN f_1 := r_1.1
  have h_4 : Φ (x + 2) = some (ai_ G 307 f_1) := h_3
  refine z_iald B h_4 (vin rfl) dX12_isTemplate_9 ?_
  obtain ⟨n_3, b_14, e_1⟩ := r_2.2.2.2.2.1
  refine z_top (st1 := [.int (nI n_3), .long 0, .long a.toInt64]) (congrArg (fun w9 : Int32 => ([.int w9, .long 0, .long a.toInt64] : List Value)) (e_1)) ?_
  refine z_iconst (v := 1) B dX12_isTemplate_10 rfl ?_
  refine z_isub B dX12_isTemplate_11 ?_
  refine z_i2l (v := (nI n_3 - 1).toInt64) B dX12_isTemplate_12 rfl ?_
  by_cases hR1 : inP a.toInt64 0 ((nI n_3 - 1).toInt64)
  · obtain ⟨n_4, e_2, e_3, e_4, rfl⟩ := in_get (L := 0) (H := ((n_3 : Nat) : Int) - 1) (by decide) (predL (by omega)) hR1
    refine z_callS (As := [.long ((nI n_4).toInt64), .long 0, .long ((nI n_3 - 1).toInt64)]) (rest := []) B (c_inR1 G l Φ sz ((nI n_4).toInt64) 0 ((nI n_3 - 1).toInt64) hR1 (fun v8 Φ8 sz8 => v8 = some (.int 1) ∧ sz8 = sz ∧ Im G x (rd, (NNq c), cr, tp, tt, sI, sT, pt, ql, fl, pe, le, nx, il, qu, kn, ec, nu, va, st, ep, ti, ad, ob, ra, rt, ex, sa, us, tk, th, me, dr, se, sn) Φ8 ∧ Fr x (fun j9 => False) Φ Φ8) ⟨rfl, rfl, hI, fun _ _ => rfl⟩) (va_cwS 3 B.1.2.2.2.2 gX12_isTemplate_X12_inRange rfl rfl rfl (by decide +kernel) ⟨Nat.le_of_ble_eq_true rfl, Nat.le_of_ble_eq_true rfl⟩) rfl rfl (Nat.le_of_ble_eq_true rfl) dX12_isTemplate_13 ⟨Nat.le_of_ble_eq_true rfl, Nat.le_of_ble_eq_true rfl⟩ (fun r_3 Φ1 sz1 st1 hp1 hs1 => ?_)
    obtain ⟨rfl, hq1, hI1, hF1⟩ := hp1
    subst sz1
    replace hs1 : st1 = [.int 1] := hs1
    subst st1
    exact z_ret_z B dX12_isTemplate_16 (by decide) ⟨(Or.inr ⟨rfl, n_4, (show n_4 < 4 by omega), rfl, (InT_q r_1 e_1 b_14).mpr ⟨n_4, by omega, rfl⟩⟩), rfl, hI1, (fun b9 h9 => ((hF1 b9 (fun j9 h8 h7 => (show False from h7).elim)).trans rfl))⟩
  · refine z_callS (As := [.long a.toInt64, .long 0, .long ((nI n_3 - 1).toInt64)]) (rest := []) B (c_inR0 G l Φ sz a.toInt64 0 ((nI n_3 - 1).toInt64) hR1 (fun v8 Φ8 sz8 => v8 = some (.int 0) ∧ sz8 = sz ∧ Im G x (rd, (NNq c), cr, tp, tt, sI, sT, pt, ql, fl, pe, le, nx, il, qu, kn, ec, nu, va, st, ep, ti, ad, ob, ra, rt, ex, sa, us, tk, th, me, dr, se, sn) Φ8 ∧ Fr x (fun j9 => False) Φ Φ8) ⟨rfl, rfl, hI, fun _ _ => rfl⟩) (va_cwS 3 B.1.2.2.2.2 gX12_isTemplate_X12_inRange rfl rfl rfl (by decide +kernel) ⟨Nat.le_of_ble_eq_true rfl, Nat.le_of_ble_eq_true rfl⟩) rfl rfl (Nat.le_of_ble_eq_true rfl) dX12_isTemplate_13 ⟨Nat.le_of_ble_eq_true rfl, Nat.le_of_ble_eq_true rfl⟩ (fun r_4 Φ2 sz2 st2 hp2 hs2 => ?_)
    obtain ⟨rfl, hq2, hI2, hF2⟩ := hp2
    subst sz2
    replace hs2 : st2 = [.int 0] := hs2
    subst st2
    exact z_ret_z B dX12_isTemplate_16 (by decide) ⟨(Or.inl ⟨rfl, fun h7 => by obtain ⟨n9, h8, h9⟩ := (InT_q r_1 e_1 b_14).mp h7; exact hR1 (by subst h9; exact (in_nat (m := n9) (L := 0) (H := ((n_3 : Nat) : Int) - 1) (by decide) (predL (by omega)) (by omega)).mpr ⟨by omega, by omega⟩)⟩), rfl, hI2, (fun b9 h9 => ((hF2 b9 (fun j9 h8 h7 => (show False from h7).elim)).trans rfl))⟩

set_option maxHeartbeats 4000000 in
set_option maxRecDepth 100000 in
theorem r_throwsIf0 (G : EnvG) (l : Launch) (Φ : Hm) (sz x : Nat) (rd : (Nat → Int32) → Prop) (nw : (Nat → Int32) → Prop) (cr : (Nat → Int64) → Prop) (tp : (Nat → Int32) → Prop) (tt : (Nat → Int64) → Prop) (sI : (Nat → Int32) → Prop) (sT : (Nat → Int32) → Prop) (pt : (Nat → Int32) → Prop) (ql : (Nat → Int32) → Prop) (fl : Nat) (pe : Nat) (le : Nat) (nx : Nat) (il : Nat) (qu : Nat) (kn : Int32) (ec : Int32) (nu : Int32) (va : Int64) (st : Nat) (ep : Int32) (ti : Int32) (ad : Int32) (ob : Int64) (ra : Int32) (rt : Nat) (ex : Int32) (sa : Int64) (us : Int64) (tk : Nat) (th : Int32) (me : Int32) (dr : Int32) (se : Int64) (sn : Int64)  (hx : G.2.2.2 ≤ x) (hI : Im G x (rd, nw, cr, tp, tt, sI, sT, pt, ql, fl, pe, le, nx, il, qu, kn, ec, nu, va, st, ep, ti, ad, ob, ra, rt, ex, sa, us, tk, th, me, dr, se, sn) Φ) (hnw : ∀ f9 : Nat → Int32, nw f9 → NN f9) : Ct G l yX12_throwsIf wsX12_throwsIf ({ frames := 0, cells := 0, slots := 0, locals := 0 }) 0 0 [.ref x, .int 0, .int 1] Φ sz (fun v Φ1 sz1 => (v = some (.int 0)) ∧ sz1 = sz ∧ (Im G x (rd, nw, cr, tp, tt, sI, sT, pt, ql, fl, pe, le, nx, il, qu, kn, ec, nu, va, st, ep, ti, ad, ob, ra, rt, ex, sa, us, tk, th, me, dr, se, sn) Φ1) ∧ Fr x (fun j9 => False) Φ Φ1) := by
  refine Ct.of (cc := cX12_throwsIf) (maxL := 3) (ret := (some .boolean)) (by decide) rfl (Nat.le_of_ble_eq_true rfl) ?_
  intro p9 e9 s9 m9 w9 t9 k9 B
  show Z p9 l e9 _ s9 m9 _ w9 t9 k9 _ G 3 0 [(0, .ref x), (1, .int 0), (2, .int 1)] [] Φ sz 0 0
  refine z_iload_n B dX12_throwsIf_0 rfl 1 rfl ?_
  refine z_if_eq (tgt := 9) B dX12_throwsIf_1 rfl (fun c_1 => ?_) (fun h9 => absurd (by decide) h9)
  refine z_iload_n B dX12_throwsIf_9 rfl 1 rfl ?_
  exact z_ret_z B dX12_throwsIf_10 (by decide) ⟨rfl, rfl, hI, (fun b9 h9 => rfl)⟩

set_option maxHeartbeats 4000000 in
set_option maxRecDepth 100000 in
theorem r_throwsIf1 (G : EnvG) (l : Launch) (Φ : Hm) (sz x : Nat) (rd : (Nat → Int32) → Prop) (nw : (Nat → Int32) → Prop) (cr : (Nat → Int64) → Prop) (tp : (Nat → Int32) → Prop) (tt : (Nat → Int64) → Prop) (sI : (Nat → Int32) → Prop) (sT : (Nat → Int32) → Prop) (pt : (Nat → Int32) → Prop) (ql : (Nat → Int32) → Prop) (fl : Nat) (pe : Nat) (le : Nat) (nx : Nat) (il : Nat) (qu : Nat) (kn : Int32) (ec : Int32) (nu : Int32) (va : Int64) (st : Nat) (ep : Int32) (ti : Int32) (ad : Int32) (ob : Int64) (ra : Int32) (rt : Nat) (ex : Int32) (sa : Int64) (us : Int64) (tk : Nat) (th : Int32) (me : Int32) (dr : Int32) (se : Int64) (sn : Int64)  (hx : G.2.2.2 ≤ x) (hI : Im G x (rd, nw, cr, tp, tt, sI, sT, pt, ql, fl, pe, le, nx, il, qu, kn, ec, nu, va, st, ep, ti, ad, ob, ra, rt, ex, sa, us, tk, th, me, dr, se, sn) Φ) (hnw : ∀ f9 : Nat → Int32, nw f9 → NN f9) : Ct G l yX12_throwsIf wsX12_throwsIf ({ frames := 0, cells := 0, slots := 0, locals := 0 }) 0 0 [.ref x, .int 1, .int 1] Φ sz (fun v Φ1 sz1 => (v = some (.int 1) ∧ ∃ l9 : List Value, Φ1 x = some (o_ 14 (.int 1 :: l9))) ∧ sz1 = sz ∧ (Im G x (rd, nw, cr, tp, tt, sI, sT, pt, ql, fl, pe, le, nx, il, qu, kn, ec, nu, va, st, ep, ti, ad, ob, ra, rt, ex, sa, us, tk, 1, me, dr, se, sn) Φ1) ∧ Fr x (fun j9 => j9 = 0) Φ Φ1) := by
  refine Ct.of (cc := cX12_throwsIf) (maxL := 3) (ret := (some .boolean)) (by decide) rfl (Nat.le_of_ble_eq_true rfl) ?_
  intro p9 e9 s9 m9 w9 t9 k9 B
  show Z p9 l e9 _ s9 m9 _ w9 t9 k9 _ G 3 0 [(0, .ref x), (1, .int 1), (2, .int 1)] [] Φ sz 0 0
  refine z_iload_n B dX12_throwsIf_0 rfl 1 rfl ?_
  refine z_if_eq (tgt := 9) B dX12_throwsIf_1 rfl (fun h9 => absurd h9 (by decide)) (fun c_1 => ?_)
  refine z_aload_n B dX12_throwsIf_4 rfl 0 rfl ?_
  refine z_iload_n B dX12_throwsIf_5 rfl 2 rfl ?_
  obtain ⟨n_1, v_1, n_2, h_1, b_13, b_1, b_2, b_3, b_4, b_5, b_6, b_7, b_8, b_9, b_10, b_11, b_12⟩ := im0 hI
  replace b_1 : 1 ≤ rt := b_1
  replace b_2 : rt ≤ 1024 := b_2
  replace b_3 : fl ≤ 12 := b_3
  replace b_4 : pe ≤ 24 := b_4
  replace b_5 : le ≤ 700 := b_5
  replace b_6 : qu ≤ 12 := b_6
  replace b_7 : n_1 ≤ 8 := b_7
  replace b_8 : n_2 ≤ 24 := b_8
  replace b_9 : tk ≤ 24 := b_9
  replace b_10 : il ≤ 700 := b_10
  replace b_11 : nx ≤ 701 := b_11
  replace b_12 : st ≤ 701 := b_12
  have h_2 : Φ x = some (o_ 14 [.int th, .ref (x + 1), .ref (x + 2), .int ti, .int ra, .int (nI rt), .int ex, .int ad, .ref (x + 3), .ref (x + 4), .int me, .long se, .ref (x + 5), .int (nI fl), .int dr, .long ob, .long sa, .long sn, .long us, .ref (x + 6), .ref (x + 7), .int (nI pe), .ref (x + 8), .int (nI le), .ref (x + 9), .ref (x + 10), .int (nI qu), .ref (x + 11), .ref (x + 12), .ref (x + 13), .ref (x + 14), .ref (x + 15), .ref (x + 16), .int (nI n_1), .long v_1, .ref (x + 17), .ref (x + 18), .ref (x + 19), .ref (x + 20), .ref (x + 21), .ref (x + 22), .int (nI n_2), .ref (x + 23), .ref (x + 24), .int (nI tk), .ref (x + 25), .int (nI il), .int (nI nx), .int ec, .int ep, .int kn, .int (nI st), .int nu, .long va]) := h_1
  refine z_put (ref := "FlowExporterModel") (C := RX12) (T := TX12) (N := 54) (ci := 14) (v := .int 1) B hu_X12_throwsIf_X12 tyX12 tyX12_ok nmX12 rfl 0 (Nat.le_of_ble_eq_true rfl) hv_X12_throwsIf_1 rfl (Or.inl rfl) h_2 hx rfl rfl (Nat.le_of_ble_eq_true rfl) dX12_throwsIf_6 (fun Φ1 hΦ1 => ?_)
  have h_3 : Φ1 x = some (o_ 14 [.int 1, .ref (x + 1), .ref (x + 2), .int ti, .int ra, .int (nI rt), .int ex, .int ad, .ref (x + 3), .ref (x + 4), .int me, .long se, .ref (x + 5), .int (nI fl), .int dr, .long ob, .long sa, .long sn, .long us, .ref (x + 6), .ref (x + 7), .int (nI pe), .ref (x + 8), .int (nI le), .ref (x + 9), .ref (x + 10), .int (nI qu), .ref (x + 11), .ref (x + 12), .ref (x + 13), .ref (x + 14), .ref (x + 15), .ref (x + 16), .int (nI n_1), .long v_1, .ref (x + 17), .ref (x + 18), .ref (x + 19), .ref (x + 20), .ref (x + 21), .ref (x + 22), .int (nI n_2), .ref (x + 23), .ref (x + 24), .int (nI tk), .ref (x + 25), .int (nI il), .int (nI nx), .int ec, .int ep, .int kn, .int (nI st), .int nu, .long va]) := fset_at hΦ1
  have hI1 : Im G x (rd, nw, cr, tp, tt, sI, sT, pt, ql, fl, pe, le, nx, il, qu, kn, ec, nu, va, st, ep, ti, ad, ob, ra, rt, ex, sa, us, tk, 1, me, dr, se, sn) Φ1 := Im.put0 hI hΦ1 ⟨n_1, v_1, n_2, rfl, b_13, b_1, b_2, b_3, b_4, b_5, b_6, b_7, b_8, b_9, b_10, b_11, b_12⟩
  refine z_iload_n B dX12_throwsIf_9 rfl 1 rfl ?_
  exact z_ret_z B dX12_throwsIf_10 (by decide) ⟨⟨rfl, _, h_3⟩, rfl, hI1, (fun b9 h9 => ((fset_fr hΦ1 (fun h8 => h9 (0) h8 (show 0 = 0 by decide))).trans rfl))⟩

set_option maxHeartbeats 4000000 in
set_option maxRecDepth 100000 in
theorem r_throwsIf02 (G : EnvG) (l : Launch) (Φ : Hm) (sz x : Nat) (rd : (Nat → Int32) → Prop) (nw : (Nat → Int32) → Prop) (cr : (Nat → Int64) → Prop) (tp : (Nat → Int32) → Prop) (tt : (Nat → Int64) → Prop) (sI : (Nat → Int32) → Prop) (sT : (Nat → Int32) → Prop) (pt : (Nat → Int32) → Prop) (ql : (Nat → Int32) → Prop) (fl : Nat) (pe : Nat) (le : Nat) (nx : Nat) (il : Nat) (qu : Nat) (kn : Int32) (ec : Int32) (nu : Int32) (va : Int64) (st : Nat) (ep : Int32) (ti : Int32) (ad : Int32) (ob : Int64) (ra : Int32) (rt : Nat) (ex : Int32) (sa : Int64) (us : Int64) (tk : Nat) (th : Int32) (me : Int32) (dr : Int32) (se : Int64) (sn : Int64)  (hx : G.2.2.2 ≤ x) (hI : Im G x (rd, nw, cr, tp, tt, sI, sT, pt, ql, fl, pe, le, nx, il, qu, kn, ec, nu, va, st, ep, ti, ad, ob, ra, rt, ex, sa, us, tk, th, me, dr, se, sn) Φ) (hnw : ∀ f9 : Nat → Int32, nw f9 → NN f9) : Ct G l yX12_throwsIf wsX12_throwsIf ({ frames := 0, cells := 0, slots := 0, locals := 0 }) 0 0 [.ref x, .int 0, .int 2] Φ sz (fun v Φ1 sz1 => (v = some (.int 0)) ∧ sz1 = sz ∧ (Im G x (rd, nw, cr, tp, tt, sI, sT, pt, ql, fl, pe, le, nx, il, qu, kn, ec, nu, va, st, ep, ti, ad, ob, ra, rt, ex, sa, us, tk, th, me, dr, se, sn) Φ1) ∧ Fr x (fun j9 => False) Φ Φ1) := by
  refine Ct.of (cc := cX12_throwsIf) (maxL := 3) (ret := (some .boolean)) (by decide) rfl (Nat.le_of_ble_eq_true rfl) ?_
  intro p9 e9 s9 m9 w9 t9 k9 B
  show Z p9 l e9 _ s9 m9 _ w9 t9 k9 _ G 3 0 [(0, .ref x), (1, .int 0), (2, .int 2)] [] Φ sz 0 0
  refine z_iload_n B dX12_throwsIf_0 rfl 1 rfl ?_
  refine z_if_eq (tgt := 9) B dX12_throwsIf_1 rfl (fun c_1 => ?_) (fun h9 => absurd (by decide) h9)
  refine z_iload_n B dX12_throwsIf_9 rfl 1 rfl ?_
  exact z_ret_z B dX12_throwsIf_10 (by decide) ⟨rfl, rfl, hI, (fun b9 h9 => rfl)⟩

set_option maxHeartbeats 4000000 in
set_option maxRecDepth 100000 in
theorem r_throwsIf12 (G : EnvG) (l : Launch) (Φ : Hm) (sz x : Nat) (rd : (Nat → Int32) → Prop) (nw : (Nat → Int32) → Prop) (cr : (Nat → Int64) → Prop) (tp : (Nat → Int32) → Prop) (tt : (Nat → Int64) → Prop) (sI : (Nat → Int32) → Prop) (sT : (Nat → Int32) → Prop) (pt : (Nat → Int32) → Prop) (ql : (Nat → Int32) → Prop) (fl : Nat) (pe : Nat) (le : Nat) (nx : Nat) (il : Nat) (qu : Nat) (kn : Int32) (ec : Int32) (nu : Int32) (va : Int64) (st : Nat) (ep : Int32) (ti : Int32) (ad : Int32) (ob : Int64) (ra : Int32) (rt : Nat) (ex : Int32) (sa : Int64) (us : Int64) (tk : Nat) (th : Int32) (me : Int32) (dr : Int32) (se : Int64) (sn : Int64)  (hx : G.2.2.2 ≤ x) (hI : Im G x (rd, nw, cr, tp, tt, sI, sT, pt, ql, fl, pe, le, nx, il, qu, kn, ec, nu, va, st, ep, ti, ad, ob, ra, rt, ex, sa, us, tk, th, me, dr, se, sn) Φ) (hnw : ∀ f9 : Nat → Int32, nw f9 → NN f9) : Ct G l yX12_throwsIf wsX12_throwsIf ({ frames := 0, cells := 0, slots := 0, locals := 0 }) 0 0 [.ref x, .int 1, .int 2] Φ sz (fun v Φ1 sz1 => (v = some (.int 1) ∧ ∃ l9 : List Value, Φ1 x = some (o_ 14 (.int 2 :: l9))) ∧ sz1 = sz ∧ (Im G x (rd, nw, cr, tp, tt, sI, sT, pt, ql, fl, pe, le, nx, il, qu, kn, ec, nu, va, st, ep, ti, ad, ob, ra, rt, ex, sa, us, tk, 2, me, dr, se, sn) Φ1) ∧ Fr x (fun j9 => j9 = 0) Φ Φ1) := by
  refine Ct.of (cc := cX12_throwsIf) (maxL := 3) (ret := (some .boolean)) (by decide) rfl (Nat.le_of_ble_eq_true rfl) ?_
  intro p9 e9 s9 m9 w9 t9 k9 B
  show Z p9 l e9 _ s9 m9 _ w9 t9 k9 _ G 3 0 [(0, .ref x), (1, .int 1), (2, .int 2)] [] Φ sz 0 0
  refine z_iload_n B dX12_throwsIf_0 rfl 1 rfl ?_
  refine z_if_eq (tgt := 9) B dX12_throwsIf_1 rfl (fun h9 => absurd h9 (by decide)) (fun c_1 => ?_)
  refine z_aload_n B dX12_throwsIf_4 rfl 0 rfl ?_
  refine z_iload_n B dX12_throwsIf_5 rfl 2 rfl ?_
  obtain ⟨n_1, v_1, n_2, h_1, b_13, b_1, b_2, b_3, b_4, b_5, b_6, b_7, b_8, b_9, b_10, b_11, b_12⟩ := im0 hI
  replace b_1 : 1 ≤ rt := b_1
  replace b_2 : rt ≤ 1024 := b_2
  replace b_3 : fl ≤ 12 := b_3
  replace b_4 : pe ≤ 24 := b_4
  replace b_5 : le ≤ 700 := b_5
  replace b_6 : qu ≤ 12 := b_6
  replace b_7 : n_1 ≤ 8 := b_7
  replace b_8 : n_2 ≤ 24 := b_8
  replace b_9 : tk ≤ 24 := b_9
  replace b_10 : il ≤ 700 := b_10
  replace b_11 : nx ≤ 701 := b_11
  replace b_12 : st ≤ 701 := b_12
  have h_2 : Φ x = some (o_ 14 [.int th, .ref (x + 1), .ref (x + 2), .int ti, .int ra, .int (nI rt), .int ex, .int ad, .ref (x + 3), .ref (x + 4), .int me, .long se, .ref (x + 5), .int (nI fl), .int dr, .long ob, .long sa, .long sn, .long us, .ref (x + 6), .ref (x + 7), .int (nI pe), .ref (x + 8), .int (nI le), .ref (x + 9), .ref (x + 10), .int (nI qu), .ref (x + 11), .ref (x + 12), .ref (x + 13), .ref (x + 14), .ref (x + 15), .ref (x + 16), .int (nI n_1), .long v_1, .ref (x + 17), .ref (x + 18), .ref (x + 19), .ref (x + 20), .ref (x + 21), .ref (x + 22), .int (nI n_2), .ref (x + 23), .ref (x + 24), .int (nI tk), .ref (x + 25), .int (nI il), .int (nI nx), .int ec, .int ep, .int kn, .int (nI st), .int nu, .long va]) := h_1
  refine z_put (ref := "FlowExporterModel") (C := RX12) (T := TX12) (N := 54) (ci := 14) (v := .int 2) B hu_X12_throwsIf_X12 tyX12 tyX12_ok nmX12 rfl 0 (Nat.le_of_ble_eq_true rfl) hv_X12_throwsIf_1 rfl (Or.inl rfl) h_2 hx rfl rfl (Nat.le_of_ble_eq_true rfl) dX12_throwsIf_6 (fun Φ1 hΦ1 => ?_)
  have h_3 : Φ1 x = some (o_ 14 [.int 2, .ref (x + 1), .ref (x + 2), .int ti, .int ra, .int (nI rt), .int ex, .int ad, .ref (x + 3), .ref (x + 4), .int me, .long se, .ref (x + 5), .int (nI fl), .int dr, .long ob, .long sa, .long sn, .long us, .ref (x + 6), .ref (x + 7), .int (nI pe), .ref (x + 8), .int (nI le), .ref (x + 9), .ref (x + 10), .int (nI qu), .ref (x + 11), .ref (x + 12), .ref (x + 13), .ref (x + 14), .ref (x + 15), .ref (x + 16), .int (nI n_1), .long v_1, .ref (x + 17), .ref (x + 18), .ref (x + 19), .ref (x + 20), .ref (x + 21), .ref (x + 22), .int (nI n_2), .ref (x + 23), .ref (x + 24), .int (nI tk), .ref (x + 25), .int (nI il), .int (nI nx), .int ec, .int ep, .int kn, .int (nI st), .int nu, .long va]) := fset_at hΦ1
  have hI1 : Im G x (rd, nw, cr, tp, tt, sI, sT, pt, ql, fl, pe, le, nx, il, qu, kn, ec, nu, va, st, ep, ti, ad, ob, ra, rt, ex, sa, us, tk, 2, me, dr, se, sn) Φ1 := Im.put0 hI hΦ1 ⟨n_1, v_1, n_2, rfl, b_13, b_1, b_2, b_3, b_4, b_5, b_6, b_7, b_8, b_9, b_10, b_11, b_12⟩
  refine z_iload_n B dX12_throwsIf_9 rfl 1 rfl ?_
  exact z_ret_z B dX12_throwsIf_10 (by decide) ⟨⟨rfl, _, h_3⟩, rfl, hI1, (fun b9 h9 => ((fset_fr hΦ1 (fun h8 => h9 (0) h8 (show 0 = 0 by decide))).trans rfl))⟩

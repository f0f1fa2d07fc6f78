set_option maxHeartbeats 4000000 in
set_option maxRecDepth 100000 in
theorem r_flowOfX (G : EnvG) (l : Launch) (Φ : Hm) (sz x : Nat) (rd : (Nat → Int32) → Prop) (nw : (Nat → Int32) → Prop) (tp : (Nat → Int32) → Prop) (tt : (Nat → Int64) → Prop) (sI : (Nat → Int32) → Prop) (sT : (Nat → Int32) → Prop) (pt : (Nat → Int32) → Prop) (ql : (Nat → Int32) → Prop) (fl : Nat) (pe : Nat) (le : Nat) (nx : Nat) (il : Nat) (qu : Nat) (kn : Int32) (ec : Int32) (nu : Int32) (va : Int64) (st : Nat) (ep : Int32) (ti : Int32) (ad : Int32) (ob : Int64) (ra : Int32) (rt : Nat) (ex : Int32) (sa : Int64) (us : Int64) (tk : Nat) (th : Int32) (me : Int32) (dr : Int32) (se : Int64) (sn : Int64) (Fs : Nat → Fl) (a : Int32) (b : Int32) (d : Int32) (f : Int32) (hx : G.2.2.2 ≤ x) (hI : Im G x (rd, nw, (CaQ fl Fs), tp, tt, sI, sT, pt, ql, fl, pe, le, nx, il, qu, kn, ec, nu, va, st, ep, ti, ad, ob, ra, rt, ex, sa, us, tk, th, me, dr, se, sn) Φ) (hk : KyP a b d f) (hnw : ∀ f9 : Nat → Int32, nw f9 → NN f9) : Ct G l yX12_flowOf wsX12_flowOf ({ frames := 0, cells := 0, slots := 0, locals := 0 }) 0 0 [.ref x, .int a, .int b, .int d, .int f] Φ sz (fun v Φ1 sz1 => ((v = some (.int (-1)) ∧ ¬ ixN Fs (kyN a b d f) fl < fl) ∨ (v = some (.int (nI (ixN Fs (kyN a b d f) fl))) ∧ ixN Fs (kyN a b d f) fl < fl)) ∧ sz1 = sz ∧ (Im G x (rd, nw, (CaQ fl Fs), tp, tt, sI, sT, pt, ql, fl, pe, le, nx, il, qu, kn, ec, nu, va, st, ep, ti, ad, ob, ra, rt, ex, sa, us, tk, th, me, dr, se, sn) Φ1) ∧ Fr x (fun j9 => False) Φ Φ1) := by
  refine Ct.of (cc := cX12_flowOf) (maxL := 6) (ret := (some .int)) (by decide) rfl (Nat.le_of_ble_eq_true rfl) ?_
  intro p9 e9 s9 m9 w9 t9 k9 B
  show Z p9 l e9 _ s9 m9 _ w9 t9 k9 _ G 6 0 [(0, .ref x), (1, .int a), (2, .int b), (3, .int d), (4, .int f)] [] Φ sz 0 0
  obtain ⟨f_1, h_1, r_1, r_2⟩ := imk (k := 5) hI
  replace r_2 : (CaQ fl Fs) f_1 := r_2
  replace r_1 : CC f_1 := r_1
  have h_2 : Φ (x + 5) = some (al_ G 96 f_1) := h_1
  refine z_iconst (v := 0) B dX12_flowOf_0 rfl ?_
  refine z_istore (lv' := [(5, .int 0), (0, .ref x), (1, .int a), (2, .int b), (3, .int d), (4, .int f)]) B dX12_flowOf_1 (Nat.le_of_ble_eq_true rfl) rfl ?_
  refine z_lv [0, 1, 2, 3, 4, 5] rfl ?_
  refine z_loop (α := Nat) (fun (a9 : Nat) Φi => Im G x (rd, nw, (CaQ fl Fs), tp, tt, sI, sT, pt, ql, fl, pe, le, nx, il, qu, kn, ec, nu, va, st, ep, ti, ad, ob, ra, rt, ex, sa, us, tk, th, me, dr, se, sn) Φi ∧ Fr x (fun j9 => False) Φ Φi ∧ (a9 ≤ 12) ∧ (a9 ≤ fl) ∧ (∀ i9, i9 < a9 → ¬ (Fs i9).1 = kyN a b d f) ∧ True) (fun a9 => [(5, .int (nI a9)), (0, .ref x), (1, .int a), (2, .int b), (3, .int d), (4, .int f)]) (fun a9 => 12 - a9) ?_ (0) ⟨hI, fun _ _ => rfl, (show 0 ≤ 12 by omega), (show 0 ≤ fl by omega), (fun i9 h9 => absurd h9 (Nat.not_lt_zero i9)), trivial⟩
  rintro i_1 Φl1 ⟨hI1, hF1, b_1, b_2, b_3, -⟩ ih1
  replace hI1 : Im G x (rd, nw, (CaQ fl Fs), tp, tt, sI, sT, pt, ql, fl, pe, le, nx, il, qu, kn, ec, nu, va, st, ep, ti, ad, ob, ra, rt, ex, sa, us, tk, th, me, dr, se, sn) Φl1 := hI1
  replace b_1 : i_1 ≤ 12 := b_1
  replace b_2 : i_1 ≤ fl := b_2
  replace b_3 : ∀ i9, i9 < i_1 → ¬ (Fs i9).1 = kyN a b d f := b_3
  show Z p9 l e9 _ s9 m9 _ w9 t9 k9 _ G 6 3 [(5, .int (nI i_1)), (0, .ref x), (1, .int a), (2, .int b), (3, .int d), (4, .int f)] [] Φl1 _ _ _
  refine z_iload B dX12_flowOf_3 0 rfl ?_
  refine z_aload_n B dX12_flowOf_5 rfl 1 rfl ?_
  obtain ⟨n_1, v_1, n_2, h_3, b_16, b_4, b_5, b_6, b_7, b_8, b_9, b_10, b_11, b_12, b_13, b_14, b_15⟩ := im0 hI1
  replace b_4 : 1 ≤ rt := b_4
  replace b_5 : rt ≤ 1024 := b_5
  replace b_6 : fl ≤ 12 := b_6
  replace b_7 : pe ≤ 24 := b_7
  replace b_8 : le ≤ 700 := b_8
  replace b_9 : qu ≤ 12 := b_9
  replace b_10 : n_1 ≤ 8 := b_10
  replace b_11 : n_2 ≤ 24 := b_11
  replace b_12 : tk ≤ 24 := b_12
  replace b_13 : il ≤ 700 := b_13
  replace b_14 : nx ≤ 701 := b_14
  replace b_15 : st ≤ 701 := b_15
  have h_4 : Φl1 x = some (o_ 14 [.int th, .ref (x + 1), .ref (x + 2), .int ti, .int ra, .int (nI rt), .int ex, .int ad, .ref (x + 3), .ref (x + 4), .int me, .long se, .ref (x + 5), .int (nI fl), .int dr, .long ob, .long sa, .long sn, .long us, .ref (x + 6), .ref (x + 7), .int (nI pe), .ref (x + 8), .int (nI le), .ref (x + 9), .ref (x + 10), .int (nI qu), .ref (x + 11), .ref (x + 12), .ref (x + 13), .ref (x + 14), .ref (x + 15), .ref (x + 16), .int (nI n_1), .long v_1, .ref (x + 17), .ref (x + 18), .ref (x + 19), .ref (x + 20), .ref (x + 21), .ref (x + 22), .int (nI n_2), .ref (x + 23), .ref (x + 24), .int (nI tk), .ref (x + 25), .int (nI il), .int (nI nx), .int ec, .int ep, .int kn, .int (nI st), .int nu, .long va]) := h_3
  refine z_get (ref := "FlowExporterModel") (C := RX12) (T := TX12) (N := 54) (ci := 14) (v := .int (nI fl)) B hu_X12_flowOf_X12 rfl 13 (Nat.le_of_ble_eq_true rfl) hv_X12_flowOf_133 rfl h_4 rfl dX12_flowOf_6 ?_
  refine z_icmp_ge (tgt := 92) B dX12_flowOf_9 rfl (fun c_1 => ?_) (fun c_1 => ?_)
  · have e_1 : fl ≤ i_1 := (nI_leI (a := fl) (b := i_1) (by omega) (by omega)).mp c_1
    refine z_iconst (v := (-1)) B dX12_flowOf_92 rfl ?_
    have hq9 : ixN Fs (kyN a b d f) fl = fl := ixN_no fl (fun i9 h9 => b_3 i9 (by omega))
    exact z_ret_i B dX12_flowOf_93 ⟨(Or.inl ⟨rfl, by omega⟩), rfl, hI1, (fun b9 h9 => ((hF1 b9 (fun j9 h8 h7 => (show False from h7).elim)).trans rfl))⟩
  · have e_2 : ¬ (fl ≤ i_1) := fun h9 => c_1 ((nI_leI (a := fl) (b := i_1) (by omega) (by omega)).mpr h9)
    refine z_aload_n B dX12_flowOf_12 rfl 1 rfl ?_
    refine z_get (ref := "FlowExporterModel") (C := RX12) (T := TX12) (N := 54) (ci := 14) (v := .ref (x + 5)) B hu_X12_flowOf_X12 rfl 12 (Nat.le_of_ble_eq_true rfl) hv_X12_flowOf_26 rfl h_4 rfl dX12_flowOf_13 ?_
    refine z_bipush (v := 8) B dX12_flowOf_16 rfl ?_
    refine z_iload B dX12_flowOf_18 0 rfl ?_
    refine z_imul B dX12_flowOf_20 ?_
    refine z_top (st1 := [.int (nI (8 * i_1)), .ref (x + 5)]) (congrArg (fun w9 : Int32 => ([.int w9, .ref (x + 5)] : List Value)) (nI_mul 8 i_1)) ?_
    have h_5 : Φl1 (x + 5) = some (al_ G 96 f_1) := ((hF1 (x + 5) (fun j9 h8 h7 => (show False from h7).elim)).trans h_2)
    refine z_lald B h_5 (vp_in_nI (by omega) (by omega)) dX12_flowOf_21 ?_
    refine z_iload_n B dX12_flowOf_22 rfl 2 rfl ?_
    refine z_i2l (v := a.toInt64) B dX12_flowOf_23 rfl ?_
    refine z_lcmp B dX12_flowOf_24 ?_
    refine z_if_ne (tgt := 86) B dX12_flowOf_25 rfl (fun c_2 => ?_) (fun c_2 => ?_)
    · refine z_iinc (k := 0) (v := nI (i_1 + 1)) (lv' := [(5, .int (nI (i_1 + 1))), (0, .ref x), (1, .int a), (2, .int b), (3, .int d), (4, .int f)]) B dX12_flowOf_86 rfl (nI_add i_1 1) (Nat.le_of_ble_eq_true rfl) rfl ?_
      refine z_goto (tgt := 3) B dX12_flowOf_89 rfl ?_
      refine z_lv [0, 1, 2, 3, 4, 5] rfl ?_
      exact ih1 (i_1 + 1) Φl1 (show 12 - (i_1 + 1) < 12 - i_1 by omega) ⟨hI1, (fun b9 h9 => ((hF1 b9 (fun j9 h8 h7 => (show False from h7).elim)).trans rfl)), (show (i_1 + 1) ≤ 12 by omega), (show (i_1 + 1) ≤ fl by omega), (all_s b_3 (fun h9 => c_2 ((lg_cmp_eq _ _).mpr ((congrArg f_1 (nI_clamp (by omega))).trans ((CaQ.key (j := i_1) r_2 (by omega) hk).mpr h9).1)))), trivial⟩
    · refine z_aload_n B dX12_flowOf_28 rfl 1 rfl ?_
      refine z_get (ref := "FlowExporterModel") (C := RX12) (T := TX12) (N := 54) (ci := 14) (v := .ref (x + 5)) B hu_X12_flowOf_X12 rfl 12 (Nat.le_of_ble_eq_true rfl) hv_X12_flowOf_26 rfl h_4 rfl dX12_flowOf_29 ?_
      refine z_bipush (v := 8) B dX12_flowOf_32 rfl ?_
      refine z_iload B dX12_flowOf_34 0 rfl ?_
      refine z_imul B dX12_flowOf_36 ?_
      refine z_top (st1 := [.int (nI (8 * i_1)), .ref (x + 5)]) (congrArg (fun w9 : Int32 => ([.int w9, .ref (x + 5)] : List Value)) (nI_mul 8 i_1)) ?_
      refine z_iconst (v := 1) B dX12_flowOf_37 rfl ?_
      refine z_iadd B dX12_flowOf_38 ?_
      refine z_top (st1 := [.int (nI (8 * i_1 + 1)), .ref (x + 5)]) (congrArg (fun w9 : Int32 => ([.int w9, .ref (x + 5)] : List Value)) (nI_add (8 * i_1) 1)) ?_
      refine z_lald B h_5 (vp_in_nI (by omega) (by omega)) dX12_flowOf_39 ?_
      refine z_iload_n B dX12_flowOf_40 rfl 3 rfl ?_
      refine z_i2l (v := b.toInt64) B dX12_flowOf_41 rfl ?_
      refine z_lcmp B dX12_flowOf_42 ?_
      refine z_if_ne (tgt := 86) B dX12_flowOf_43 rfl (fun c_3 => ?_) (fun c_3 => ?_)
      · refine z_iinc (k := 0) (v := nI (i_1 + 1)) (lv' := [(5, .int (nI (i_1 + 1))), (0, .ref x), (1, .int a), (2, .int b), (3, .int d), (4, .int f)]) B dX12_flowOf_86 rfl (nI_add i_1 1) (Nat.le_of_ble_eq_true rfl) rfl ?_
        refine z_goto (tgt := 3) B dX12_flowOf_89 rfl ?_
        refine z_lv [0, 1, 2, 3, 4, 5] rfl ?_
        exact ih1 (i_1 + 1) Φl1 (show 12 - (i_1 + 1) < 12 - i_1 by omega) ⟨hI1, (fun b9 h9 => ((hF1 b9 (fun j9 h8 h7 => (show False from h7).elim)).trans rfl)), (show (i_1 + 1) ≤ 12 by omega), (show (i_1 + 1) ≤ fl by omega), (all_s b_3 (fun h9 => c_3 ((lg_cmp_eq _ _).mpr ((congrArg f_1 (nI_clamp (by omega))).trans ((CaQ.key (j := i_1) r_2 (by omega) hk).mpr h9).2.1)))), trivial⟩
      · refine z_aload_n B dX12_flowOf_46 rfl 1 rfl ?_
        refine z_get (ref := "FlowExporterModel") (C := RX12) (T := TX12) (N := 54) (ci := 14) (v := .ref (x + 5)) B hu_X12_flowOf_X12 rfl 12 (Nat.le_of_ble_eq_true rfl) hv_X12_flowOf_26 rfl h_4 rfl dX12_flowOf_47 ?_
        refine z_bipush (v := 8) B dX12_flowOf_50 rfl ?_
        refine z_iload B dX12_flowOf_52 0 rfl ?_
        refine z_imul B dX12_flowOf_54 ?_
        refine z_top (st1 := [.int (nI (8 * i_1)), .ref (x + 5)]) (congrArg (fun w9 : Int32 => ([.int w9, .ref (x + 5)] : List Value)) (nI_mul 8 i_1)) ?_
        refine z_iconst (v := 2) B dX12_flowOf_55 rfl ?_
        refine z_iadd B dX12_flowOf_56 ?_
        refine z_top (st1 := [.int (nI (8 * i_1 + 2)), .ref (x + 5)]) (congrArg (fun w9 : Int32 => ([.int w9, .ref (x + 5)] : List Value)) (nI_add (8 * i_1) 2)) ?_
        refine z_lald B h_5 (vp_in_nI (by omega) (by omega)) dX12_flowOf_57 ?_
        refine z_iload_n B dX12_flowOf_58 rfl 4 rfl ?_
        refine z_i2l (v := d.toInt64) B dX12_flowOf_59 rfl ?_
        refine z_lcmp B dX12_flowOf_60 ?_
        refine z_if_ne (tgt := 86) B dX12_flowOf_61 rfl (fun c_4 => ?_) (fun c_4 => ?_)
        · refine z_iinc (k := 0) (v := nI (i_1 + 1)) (lv' := [(5, .int (nI (i_1 + 1))), (0, .ref x), (1, .int a), (2, .int b), (3, .int d), (4, .int f)]) B dX12_flowOf_86 rfl (nI_add i_1 1) (Nat.le_of_ble_eq_true rfl) rfl ?_
          refine z_goto (tgt := 3) B dX12_flowOf_89 rfl ?_
          refine z_lv [0, 1, 2, 3, 4, 5] rfl ?_
          exact ih1 (i_1 + 1) Φl1 (show 12 - (i_1 + 1) < 12 - i_1 by omega) ⟨hI1, (fun b9 h9 => ((hF1 b9 (fun j9 h8 h7 => (show False from h7).elim)).trans rfl)), (show (i_1 + 1) ≤ 12 by omega), (show (i_1 + 1) ≤ fl by omega), (all_s b_3 (fun h9 => c_4 ((lg_cmp_eq _ _).mpr ((congrArg f_1 (nI_clamp (by omega))).trans ((CaQ.key (j := i_1) r_2 (by omega) hk).mpr h9).2.2.1)))), trivial⟩
        · refine z_aload_n B dX12_flowOf_64 rfl 1 rfl ?_
          refine z_get (ref := "FlowExporterModel") (C := RX12) (T := TX12) (N := 54) (ci := 14) (v := .ref (x + 5)) B hu_X12_flowOf_X12 rfl 12 (Nat.le_of_ble_eq_true rfl) hv_X12_flowOf_26 rfl h_4 rfl dX12_flowOf_65 ?_
          refine z_bipush (v := 8) B dX12_flowOf_68 rfl ?_
          refine z_iload B dX12_flowOf_70 0 rfl ?_
          refine z_imul B dX12_flowOf_72 ?_
          refine z_top (st1 := [.int (nI (8 * i_1)), .ref (x + 5)]) (congrArg (fun w9 : Int32 => ([.int w9, .ref (x + 5)] : List Value)) (nI_mul 8 i_1)) ?_
          refine z_iconst (v := 3) B dX12_flowOf_73 rfl ?_
          refine z_iadd B dX12_flowOf_74 ?_
          refine z_top (st1 := [.int (nI (8 * i_1 + 3)), .ref (x + 5)]) (congrArg (fun w9 : Int32 => ([.int w9, .ref (x + 5)] : List Value)) (nI_add (8 * i_1) 3)) ?_
          refine z_lald B h_5 (vp_in_nI (by omega) (by omega)) dX12_flowOf_75 ?_
          refine z_iload B dX12_flowOf_76 5 rfl ?_
          refine z_i2l (v := f.toInt64) B dX12_flowOf_78 rfl ?_
          refine z_lcmp B dX12_flowOf_79 ?_
          refine z_if_ne (tgt := 86) B dX12_flowOf_80 rfl (fun c_5 => ?_) (fun c_5 => ?_)
          · refine z_iinc (k := 0) (v := nI (i_1 + 1)) (lv' := [(5, .int (nI (i_1 + 1))), (0, .ref x), (1, .int a), (2, .int b), (3, .int d), (4, .int f)]) B dX12_flowOf_86 rfl (nI_add i_1 1) (Nat.le_of_ble_eq_true rfl) rfl ?_
            refine z_goto (tgt := 3) B dX12_flowOf_89 rfl ?_
            refine z_lv [0, 1, 2, 3, 4, 5] rfl ?_
            exact ih1 (i_1 + 1) Φl1 (show 12 - (i_1 + 1) < 12 - i_1 by omega) ⟨hI1, (fun b9 h9 => ((hF1 b9 (fun j9 h8 h7 => (show False from h7).elim)).trans rfl)), (show (i_1 + 1) ≤ 12 by omega), (show (i_1 + 1) ≤ fl by omega), (all_s b_3 (fun h9 => c_5 ((lg_cmp_eq _ _).mpr ((congrArg f_1 (nI_clamp (by omega))).trans ((CaQ.key (j := i_1) r_2 (by omega) hk).mpr h9).2.2.2)))), trivial⟩
          · refine z_iload B dX12_flowOf_83 0 rfl ?_
            have hq9 : ixN Fs (kyN a b d f) fl = i_1 := ixN_ok b_3 ((CaQ.key (j := i_1) r_2 (by omega) hk).mp ⟨(congrArg f_1 (nI_clamp (by omega))).symm.trans (lcmp_eq c_2), (congrArg f_1 (nI_clamp (by omega))).symm.trans (lcmp_eq c_3), (congrArg f_1 (nI_clamp (by omega))).symm.trans (lcmp_eq c_4), (congrArg f_1 (nI_clamp (by omega))).symm.trans (lcmp_eq c_5)⟩) fl (by omega)
            exact z_ret_i B dX12_flowOf_85 ⟨(Or.inr ⟨congrArg (fun w9 : Nat => some (Value.int (nI w9))) hq9.symm, by omega⟩), rfl, hI1, (fun b9 h9 => ((hF1 b9 (fun j9 h8 h7 => (show False from h7).elim)).trans rfl))⟩

theorem hu_X12_see_X12 : ∀ w ∈ u_ws RX12 TX12 54, w ∈ wsX12_see := fun _ h => List.mem_cons_of_mem _ (List.mem_append_left _ (List.mem_append_left _ (List.mem_append_right _ (h))))

theorem hv_X12_see_117 : Cond.fieldLink RX12 117 "FlowExporterModel" (TX12 15).2.1 (TX12 15).2.2.1 ∈ wsX12_see := List.mem_cons_of_mem _ (List.mem_append_left _ (List.mem_append_left _ (List.mem_append_left _ (List.mem_append_left _ (List.mem_of_getElem? (i := 0) rfl)))))

theorem hv_X12_see_107 : Cond.fieldLink RX12 107 "FlowExporterModel" (TX12 5).2.1 (TX12 5).2.2.1 ∈ wsX12_see := List.mem_cons_of_mem _ (List.mem_append_left _ (List.mem_append_left _ (List.mem_append_left _ (List.mem_append_left _ (List.mem_of_getElem? (i := 1) rfl)))))

theorem hv_X12_see_121 : Cond.fieldLink RX12 121 "FlowExporterModel" (TX12 16).2.1 (TX12 16).2.2.1 ∈ wsX12_see := List.mem_cons_of_mem _ (List.mem_append_left _ (List.mem_append_left _ (List.mem_append_left _ (List.mem_append_left _ (List.mem_of_getElem? (i := 2) rfl)))))

theorem hv_X12_see_133 : Cond.fieldLink RX12 133 "FlowExporterModel" (TX12 13).2.1 (TX12 13).2.2.1 ∈ wsX12_see := List.mem_cons_of_mem _ (List.mem_append_left _ (List.mem_append_left _ (List.mem_append_left _ (List.mem_append_left _ (List.mem_of_getElem? (i := 3) rfl)))))

theorem hv_X12_see_26 : Cond.fieldLink RX12 26 "FlowExporterModel" (TX12 12).2.1 (TX12 12).2.2.1 ∈ wsX12_see := List.mem_cons_of_mem _ (List.mem_append_left _ (List.mem_append_left _ (List.mem_append_left _ (List.mem_append_left _ (List.mem_of_getElem? (i := 4) rfl)))))

theorem hv_X12_see_101 : Cond.fieldLink RX12 101 "FlowExporterModel" (TX12 3).2.1 (TX12 3).2.2.1 ∈ wsX12_see := List.mem_cons_of_mem _ (List.mem_append_left _ (List.mem_append_left _ (List.mem_append_left _ (List.mem_append_left _ (List.mem_of_getElem? (i := 5) rfl)))))

theorem fq_1056 : ∀ j9 : Nat, (j9 = 0 ∨ j9 = 23 ∨ j9 = 24) → (j9 = 0 ∨ j9 = 5 ∨ j9 = 6 ∨ j9 = 7 ∨ j9 = 23 ∨ j9 = 24) := by
  intro j9 h
  omega

theorem fq_1057 : ∀ j9 : Nat, (j9 = 0 ∨ j9 = 5 ∨ j9 = 6 ∨ j9 = 7) → (j9 = 0 ∨ j9 = 5 ∨ j9 = 6 ∨ j9 = 7 ∨ j9 = 23 ∨ j9 = 24) := by
  intro j9 h
  omega

theorem fq_1058 : ∀ j9 : Nat, (j9 = 0) → (j9 = 0 ∨ j9 = 5 ∨ j9 = 6 ∨ j9 = 7 ∨ j9 = 23 ∨ j9 = 24) := by
  intro j9 h
  omega

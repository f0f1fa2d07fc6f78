theorem dX12_draw_0 : decode cX12_draw 0 = .ok (.aload_n 0, 1) := by decide +kernel
theorem dX12_draw_1 : decode cX12_draw 1 = .ok (.ldc2_w 157, 3) := by decide +kernel
theorem dX12_draw_4 : decode cX12_draw 4 = .ok (.aload_n 0, 1) := by decide +kernel
theorem dX12_draw_5 : decode cX12_draw 5 = .ok (.getfield 104, 3) := by decide +kernel
theorem dX12_draw_8 : decode cX12_draw 8 = .ok (.i2l, 1) := by decide +kernel
theorem dX12_draw_9 : decode cX12_draw 9 = .ok (.lmul, 1) := by decide +kernel
theorem dX12_draw_10 : decode cX12_draw 10 = .ok (.ldc2_w 159, 3) := by decide +kernel
theorem dX12_draw_13 : decode cX12_draw 13 = .ok (.ladd, 1) := by decide +kernel
theorem dX12_draw_14 : decode cX12_draw 14 = .ok (.ldc2_w 161, 3) := by decide +kernel
theorem dX12_draw_17 : decode cX12_draw 17 = .ok (.lrem, 1) := by decide +kernel
theorem dX12_draw_18 : decode cX12_draw 18 = .ok (.l2i, 1) := by decide +kernel
theorem dX12_draw_19 : decode cX12_draw 19 = .ok (.putfield 104, 3) := by decide +kernel
theorem dX12_draw_22 : decode cX12_draw 22 = .ok (.aload_n 0, 1) := by decide +kernel
theorem dX12_draw_23 : decode cX12_draw 23 = .ok (.getfield 104, 3) := by decide +kernel
theorem dX12_draw_26 : decode cX12_draw 26 = .ok (.sipush 256, 3) := by decide +kernel
theorem dX12_draw_29 : decode cX12_draw 29 = .ok (.idiv, 1) := by decide +kernel
theorem dX12_draw_30 : decode cX12_draw 30 = .ok (.iload_n 1, 1) := by decide +kernel
theorem dX12_draw_31 : decode cX12_draw 31 = .ok (.irem, 1) := by decide +kernel
theorem dX12_draw_32 : decode cX12_draw 32 = .ok (.ireturn, 1) := by decide +kernel
set_option maxRecDepth 20000 in
theorem ggX12_cached_X12_inRange : GoodIn wsX12_cached wsX12_inRange := (goodIn_r _ [8] rfl (by decide +kernel))
set_option maxRecDepth 20000 in
theorem gX12_cached_X12_inRange : GoodIn wsX12_cached (va_wsS RX12 169 yX12_inRange wsX12_inRange) := goodIn_app (goodIn_m (mem_cA (List.mem_cons_of_mem _ (List.mem_append_left _ (List.mem_append_left _ (List.mem_of_getElem? (i := 4) rfl)))) (mem_cA (List.mem_cons_of_mem _ (List.mem_append_left _ (List.mem_append_left _ (List.mem_of_getElem? (i := 5) rfl)))) (mem_cA (List.mem_cons_of_mem _ (List.mem_append_left _ (List.mem_append_left _ (List.mem_of_getElem? (i := 6) rfl)))) mem_cZ))) (by decide +kernel)) ggX12_cached_X12_inRange
set_option maxRecDepth 20000 in
theorem ggX12_cached_X12_throwsIf : GoodIn wsX12_cached wsX12_throwsIf := (goodIn_ca (goodIn_r _ [12, 1] rfl (by decide +kernel)) (goodIn_sub (fun _ h => List.mem_cons_of_mem _ (List.mem_append_left _ (List.mem_append_right _ h))) gw_wsX120))
set_option maxRecDepth 20000 in
theorem gX12_cached_X12_throwsIf : GoodIn wsX12_cached (wsV RX12 185 RX12 yX12_throwsIf wsX12_throwsIf) := goodIn_app (goodIn_m (mem_cA (List.mem_cons_of_mem _ (List.mem_append_left _ (List.mem_append_left _ (List.mem_of_getElem? (i := 8) rfl)))) (mem_cA (List.mem_cons_of_mem _ (List.mem_append_left _ (List.mem_append_left _ (List.mem_of_getElem? (i := 9) rfl)))) (mem_cA (List.mem_cons_of_mem _ (List.mem_append_left _ (List.mem_append_left _ (List.mem_of_getElem? (i := 10) rfl)))) (mem_cA (List.mem_cons_of_mem _ (List.mem_append_left _ (List.mem_append_left _ (List.mem_of_getElem? (i := 6) rfl)))) mem_cZ)))) (by decide +kernel)) ggX12_cached_X12_throwsIf
theorem dX12_cached_0 : decode cX12_cached 0 = .ok (.aload_n 0, 1) := by decide +kernel
theorem dX12_cached_1 : decode cX12_cached 1 = .ok (.iconst 0, 1) := by decide +kernel
theorem dX12_cached_2 : decode cX12_cached 2 = .ok (.putfield 1, 3) := by decide +kernel
theorem dX12_cached_5 : decode cX12_cached 5 = .ok (.aload_n 0, 1) := by decide +kernel
theorem dX12_cached_6 : decode cX12_cached 6 = .ok (.iload_n 1, 1) := by decide +kernel
theorem dX12_cached_7 : decode cX12_cached 7 = .ok (.i2l, 1) := by decide +kernel
theorem dX12_cached_8 : decode cX12_cached 8 = .ok (.lconst 0, 1) := by decide +kernel
theorem dX12_cached_9 : decode cX12_cached 9 = .ok (.aload_n 0, 1) := by decide +kernel
theorem dX12_cached_10 : decode cX12_cached 10 = .ok (.getfield 133, 3) := by decide +kernel
theorem dX12_cached_13 : decode cX12_cached 13 = .ok (.iconst 1, 1) := by decide +kernel
theorem dX12_cached_14 : decode cX12_cached 14 = .ok (.isub, 1) := by decide +kernel
theorem dX12_cached_15 : decode cX12_cached 15 = .ok (.i2l, 1) := by decide +kernel
theorem dX12_cached_16 : decode cX12_cached 16 = .ok (.invokestatic 169, 3) := by decide +kernel
theorem dX12_cached_19 : decode cX12_cached 19 = .ok (.ifCond .ne 7, 3) := by decide +kernel
theorem dX12_cached_22 : decode cX12_cached 22 = .ok (.iconst 1, 1) := by decide +kernel
theorem dX12_cached_23 : decode cX12_cached 23 = .ok (.goto 4, 3) := by decide +kernel
theorem dX12_cached_26 : decode cX12_cached 26 = .ok (.iconst 0, 1) := by decide +kernel
theorem dX12_cached_27 : decode cX12_cached 27 = .ok (.iconst 1, 1) := by decide +kernel
theorem dX12_cached_28 : decode cX12_cached 28 = .ok (.invokevirtual 185, 3) := by decide +kernel
theorem dX12_cached_31 : decode cX12_cached 31 = .ok (.ifCond .ne 28, 3) := by decide +kernel
theorem dX12_cached_34 : decode cX12_cached 34 = .ok (.aload_n 0, 1) := by decide +kernel
theorem dX12_cached_35 : decode cX12_cached 35 = .ok (.iload_n 2, 1) := by decide +kernel
theorem dX12_cached_36 : decode cX12_cached 36 = .ok (.i2l, 1) := by decide +kernel
theorem dX12_cached_37 : decode cX12_cached 37 = .ok (.lconst 0, 1) := by decide +kernel
theorem dX12_cached_38 : decode cX12_cached 38 = .ok (.ldc2_w 212, 3) := by decide +kernel
theorem dX12_cached_41 : decode cX12_cached 41 = .ok (.invokestatic 169, 3) := by decide +kernel
theorem dX12_cached_44 : decode cX12_cached 44 = .ok (.ifCond .ne 7, 3) := by decide +kernel
theorem dX12_cached_47 : decode cX12_cached 47 = .ok (.iconst 1, 1) := by decide +kernel
theorem dX12_cached_48 : decode cX12_cached 48 = .ok (.goto 4, 3) := by decide +kernel
theorem dX12_cached_51 : decode cX12_cached 51 = .ok (.iconst 0, 1) := by decide +kernel
theorem dX12_cached_52 : decode cX12_cached 52 = .ok (.iconst 2, 1) := by decide +kernel
theorem dX12_cached_53 : decode cX12_cached 53 = .ok (.invokevirtual 185, 3) := by decide +kernel
theorem dX12_cached_56 : decode cX12_cached 56 = .ok (.ifCond .eq 7, 3) := by decide +kernel
theorem dX12_cached_59 : decode cX12_cached 59 = .ok (.lconst 0, 1) := by decide +kernel
theorem dX12_cached_60 : decode cX12_cached 60 = .ok (.goto 14, 3) := by decide +kernel
theorem dX12_cached_63 : decode cX12_cached 63 = .ok (.aload_n 0, 1) := by decide +kernel
theorem dX12_cached_64 : decode cX12_cached 64 = .ok (.getfield 26, 3) := by decide +kernel
theorem dX12_cached_67 : decode cX12_cached 67 = .ok (.bipush 8, 2) := by decide +kernel
theorem dX12_cached_69 : decode cX12_cached 69 = .ok (.iload_n 1, 1) := by decide +kernel
theorem dX12_cached_70 : decode cX12_cached 70 = .ok (.imul, 1) := by decide +kernel
theorem dX12_cached_71 : decode cX12_cached 71 = .ok (.iload_n 2, 1) := by decide +kernel
theorem dX12_cached_72 : decode cX12_cached 72 = .ok (.iadd, 1) := by decide +kernel
theorem dX12_cached_73 : decode cX12_cached 73 = .ok (.laload, 1) := by decide +kernel
theorem dX12_cached_74 : decode cX12_cached 74 = .ok (.lreturn, 1) := by decide +kernel
set_option maxHeartbeats 4000000 in
set_option maxRecDepth 100000 in
theorem r_cached (G : EnvG) (l : Launch) (Φ : Hm) (sz x : Nat) (rd : (Nat → Int32) → Prop) (nw : (Nat → Int32) → Prop) (cr : (Nat → Int64) → Prop) (tp : (Nat → Int32) → Prop) (tt : (Nat → Int64) → Prop) (sI : (Nat → Int32) → Prop) (sT : (Nat → Int32) → Prop) (pt : (Nat → Int32) → Prop) (ql : (Nat → Int32) → Prop) (fl : Nat) (pe : Nat) (le : Nat) (nx : Nat) (il : Nat) (qu : Nat) (kn : Int32) (ec : Int32) (nu : Int32) (va : Int64) (st : Nat) (ep : Int32) (ti : Int32) (ad : Int32) (ob : Int64) (ra : Int32) (rt : Nat) (ex : Int32) (sa : Int64) (us : Int64) (tk : Nat) (th : Int32) (me : Int32) (dr : Int32) (se : Int64) (sn : Int64) (a : Int32) (b : Int32) (hx : G.2.2.2 ≤ x) (hI : Im G x (rd, nw, cr, tp, tt, sI, sT, pt, ql, fl, pe, le, nx, il, qu, kn, ec, nu, va, st, ep, ti, ad, ob, ra, rt, ex, sa, us, tk, th, me, dr, se, sn) Φ) (hnw : ∀ f9 : Nat → Int32, nw f9 → NN f9) : Ct G l yX12_cached wsX12_cached ({ frames := 1, cells := 0, slots := 0, locals := 25 }) 0 0 [.ref x, .int a, .int b] Φ sz (fun v Φ1 sz1 => (∃ r9 : Int64, v = some (.long r9)) ∧ sz1 = sz ∧ (∃ (th1 : Int32), Im G x (rd, nw, cr, tp, tt, sI, sT, pt, ql, fl, pe, le, nx, il, qu, kn, ec, nu, va, st, ep, ti, ad, ob, ra, rt, ex, sa, us, tk, th1, me, dr, se, sn) Φ1) ∧ Fr x (fun j9 => j9 = 0) Φ Φ1) := by
  refine Ct.of (cc := cX12_cached) (maxL := 3) (ret := (some .long)) (by decide) rfl (Nat.le_of_ble_eq_true rfl) ?_
  intro p9 e9 s9 m9 w9 t9 k9 B
  show Z p9 l e9 _ s9 m9 _ w9 t9 k9 _ G 3 0 [(0, .ref x), (1, .int a), (2, .int b)] [] Φ sz 0 0
  refine z_aload_n B dX12_cached_0 rfl 0 rfl ?_
  refine z_iconst (v := 0) B dX12_cached_1 rfl ?_
  obtain ⟨n_1, v_1, n_2, h_1, b_13, b_1, b_2, b_3, b_4, b_5, b_6, b_7, b_8, b_9, b_10, b_11, b_12⟩ := im0 hI
  replace b_1 : 1 ≤ rt := b_1
  replace b_2 : rt ≤ 1024 := b_2
  replace b_3 : fl ≤ 12 := b_3
  replace b_4 : pe ≤ 24 := b_4
  replace b_5 : le ≤ 700 := b_5
  replace b_6 : qu ≤ 12 := b_6
  replace b_7 : n_1 ≤ 8 := b_7
  replace b_8 : n_2 ≤ 24 := b_8
  replace b_9 : tk ≤ 24 := b_9
  replace b_10 : il ≤ 700 := b_10
  replace b_11 : nx ≤ 701 := b_11
  replace b_12 : st ≤ 701 := b_12
  have h_2 : Φ x = some (o_ 14 [.int th, .ref (x + 1), .ref (x + 2), .int ti, .int ra, .int (nI rt), .int ex, .int ad, .ref (x + 3), .ref (x + 4), .int me, .long se, .ref (x + 5), .int (nI fl), .int dr, .long ob, .long sa, .long sn, .long us, .ref (x + 6), .ref (x + 7), .int (nI pe), .ref (x + 8), .int (nI le), .ref (x + 9), .ref (x + 10), .int (nI qu), .ref (x + 11), .ref (x + 12), .ref (x + 13), .ref (x + 14), .ref (x + 15), .ref (x + 16), .int (nI n_1), .long v_1, .ref (x + 17), .ref (x + 18), .ref (x + 19), .ref (x + 20), .ref (x + 21), .ref (x + 22), .int (nI n_2), .ref (x + 23), .ref (x + 24), .int (nI tk), .ref (x + 25), .int (nI il), .int (nI nx), .int ec, .int ep, .int kn, .int (nI st), .int nu, .long va]) := h_1
  refine z_put (ref := "FlowExporterModel") (C := RX12) (T := TX12) (N := 54) (ci := 14) (v := .int 0) B hu_X12_cached_X12 tyX12 tyX12_ok nmX12 rfl 0 (Nat.le_of_ble_eq_true rfl) hv_X12_cached_1 rfl (Or.inl rfl) h_2 hx rfl rfl (Nat.le_of_ble_eq_true rfl) dX12_cached_2 (fun Φ1 hΦ1 => ?_)
  have h_3 : Φ1 x = some (o_ 14 [.int 0, .ref (x + 1), .ref (x + 2), .int ti, .int ra, .int (nI rt), .int ex, .int ad, .ref (x + 3), .ref (x + 4), .int me, .long se, .ref (x + 5), .int (nI fl), .int dr, .long ob, .long sa, .long sn, .long us, .ref (x + 6), .ref (x + 7), .int (nI pe), .ref (x + 8), .int (nI le), .ref (x + 9), .ref (x + 10), .int (nI qu), .ref (x + 11), .ref (x + 12), .ref (x + 13), .ref (x + 14), .ref (x + 15), .ref (x + 16), .int (nI n_1), .long v_1, .ref (x + 17), .ref (x + 18), .ref (x + 19), .ref (x + 20), .ref (x + 21), .ref (x + 22), .int (nI n_2), .ref (x + 23), .ref (x + 24), .int (nI tk), .ref (x + 25), .int (nI il), .int (nI nx), .int ec, .int ep, .int kn, .int (nI st), .int nu, .long va]) := fset_at hΦ1
  have hI1 : Im G x (rd, nw, cr, tp, tt, sI, sT, pt, ql, fl, pe, le, nx, il, qu, kn, ec, nu, va, st, ep, ti, ad, ob, ra, rt, ex, sa, us, tk, 0, me, dr, se, sn) Φ1 := Im.put0 hI hΦ1 ⟨n_1, v_1, n_2, rfl, b_13, b_1, b_2, b_3, b_4, b_5, b_6, b_7, b_8, b_9, b_10, b_11, b_12⟩
  refine z_aload_n B dX12_cached_5 rfl 0 rfl ?_
  refine z_iload_n B dX12_cached_6 rfl 1 rfl ?_
  refine z_i2l (v := a.toInt64) B dX12_cached_7 rfl ?_
  refine z_lconst (v := 0) B dX12_cached_8 rfl ?_
  refine z_aload_n B dX12_cached_9 rfl 0 rfl ?_
  refine z_get (ref := "FlowExporterModel") (C := RX12) (T := TX12) (N := 54) (ci := 14) (v := .int (nI fl)) B hu_X12_cached_X12 rfl 13 (Nat.le_of_ble_eq_true rfl) hv_X12_cached_133 rfl h_3 rfl dX12_cached_10 ?_
  refine z_iconst (v := 1) B dX12_cached_13 rfl ?_
  refine z_isub B dX12_cached_14 ?_
  refine z_i2l (v := (nI fl - 1).toInt64) B dX12_cached_15 rfl ?_
  by_cases hR1 : inP a.toInt64 0 ((nI fl - 1).toInt64)
  · obtain ⟨n_3, e_1, e_2, e_3, rfl⟩ := in_get (L := 0) (H := ((fl : Nat) : Int) - 1) (by decide) (predL (by omega)) hR1
    refine z_callS (As := [.long ((nI n_3).toInt64), .long 0, .long ((nI fl - 1).toInt64)]) (rest := [.ref x]) B (c_inR1 G l Φ1 sz ((nI n_3).toInt64) 0 ((nI fl - 1).toInt64) hR1 (fun v8 Φ8 sz8 => v8 = some (.int 1) ∧ sz8 = sz ∧ Im G x (rd, nw, cr, tp, tt, sI, sT, pt, ql, fl, pe, le, nx, il, qu, kn, ec, nu, va, st, ep, ti, ad, ob, ra, rt, ex, sa, us, tk, 0, me, dr, se, sn) Φ8 ∧ Fr x (fun j9 => False) Φ1 Φ8) ⟨rfl, rfl, hI1, fun _ _ => rfl⟩) (va_cwS 3 B.1.2.2.2.2 gX12_cached_X12_inRange rfl rfl rfl (by decide +kernel) ⟨Nat.le_of_ble_eq_true rfl, Nat.le_of_ble_eq_true rfl⟩) rfl rfl (Nat.le_of_ble_eq_true rfl) dX12_cached_16 ⟨Nat.le_of_ble_eq_true rfl, Nat.le_of_ble_eq_true rfl⟩ (fun r_1 Φ2 sz1 st1 hp1 hs1 => ?_)
    obtain ⟨rfl, hq1, hI2, hF1⟩ := hp1
    subst sz1
    replace hs1 : st1 = [.int 1, .ref x] := hs1
    subst st1
    refine z_if_ne (tgt := 26) B dX12_cached_19 rfl (fun c_1 => ?_) (fun h9 => absurd h9 (by decide))
    refine z_iconst (v := 0) B dX12_cached_26 rfl ?_
    refine z_iconst (v := 1) B dX12_cached_27 rfl ?_
    have h_4 : Φ2 x = some (o_ 14 [.int 0, .ref (x + 1), .ref (x + 2), .int ti, .int ra, .int (nI rt), .int ex, .int ad, .ref (x + 3), .ref (x + 4), .int me, .long se, .ref (x + 5), .int (nI fl), .int dr, .long ob, .long sa, .long sn, .long us, .ref (x + 6), .ref (x + 7), .int (nI pe), .ref (x + 8), .int (nI le), .ref (x + 9), .ref (x + 10), .int (nI qu), .ref (x + 11), .ref (x + 12), .ref (x + 13), .ref (x + 14), .ref (x + 15), .ref (x + 16), .int (nI n_1), .long v_1, .ref (x + 17), .ref (x + 18), .ref (x + 19), .ref (x + 20), .ref (x + 21), .ref (x + 22), .int (nI n_2), .ref (x + 23), .ref (x + 24), .int (nI tk), .ref (x + 25), .int (nI il), .int (nI nx), .int ec, .int ep, .int kn, .int (nI st), .int nu, .long va]) := ((hF1 x (fun j9 h8 h7 => (show False from h7).elim)).trans h_3)
    refine z_callV (As := [.int 0, .int 1]) (rest := []) B (r_throwsIf G l Φ2 sz x rd nw cr tp tt sI sT pt ql fl pe le nx il qu kn ec nu va st ep ti ad ob ra rt ex sa us tk 0 me dr se sn 0 1 hx hI2 (by decide) hnw) (cwV 2 B.1.2.2.2.2 gX12_cached_X12_throwsIf rfl rfl rfl (by decide +kernel) ⟨Nat.le_of_ble_eq_true rfl, Nat.le_of_ble_eq_true rfl⟩) h_4 rfl rfl rfl rfl (Nat.le_of_ble_eq_true rfl) dX12_cached_28 ⟨Nat.le_of_ble_eq_true rfl, Nat.le_of_ble_eq_true rfl⟩ (fun r_2 Φ3 sz2 st2 hp2 hs2 => ?_)
    obtain ⟨rfl, hq2, ⟨v_2, hI3⟩, hF2⟩ := hp2
    subst sz2
    replace hs2 : st2 = [.int 0] := hs2
    subst st2
    replace hI3 : Im G x (rd, nw, cr, tp, tt, sI, sT, pt, ql, fl, pe, le, nx, il, qu, kn, ec, nu, va, st, ep, ti, ad, ob, ra, rt, ex, sa, us, tk, v_2, me, dr, se, sn) Φ3 := hI3
    refine z_if_ne (tgt := 59) B dX12_cached_31 rfl (fun h9 => absurd (by decide) h9) (fun c_2 => ?_)
    refine z_aload_n B dX12_cached_34 rfl 0 rfl ?_
    refine z_iload_n B dX12_cached_35 rfl 2 rfl ?_
    refine z_i2l (v := b.toInt64) B dX12_cached_36 rfl ?_
    refine z_lconst (v := 0) B dX12_cached_37 rfl ?_
    refine z_ldc2 (v := 7) B (by decide +kernel) dX12_cached_38 ?_
    by_cases hR2 : inP b.toInt64 0 7
    · obtain ⟨n_4, e_4, e_5, e_6, rfl⟩ := in_get (L := 0) (H := 7) (by decide) (by decide) hR2
      refine z_callS (As := [.long ((nI n_4).toInt64), .long 0, .long 7]) (rest := [.ref x]) B (c_inR1 G l Φ3 sz ((nI n_4).toInt64) 0 7 hR2 (fun v8 Φ8 sz8 => v8 = some (.int 1) ∧ sz8 = sz ∧ Im G x (rd, nw, cr, tp, tt, sI, sT, pt, ql, fl, pe, le, nx, il, qu, kn, ec, nu, va, st, ep, ti, ad, ob, ra, rt, ex, sa, us, tk, v_2, me, dr, se, sn) Φ8 ∧ Fr x (fun j9 => False) Φ3 Φ8) ⟨rfl, rfl, hI3, fun _ _ => rfl⟩) (va_cwS 3 B.1.2.2.2.2 gX12_cached_X12_inRange rfl rfl rfl (by decide +kernel) ⟨Nat.le_of_ble_eq_true rfl, Nat.le_of_ble_eq_true rfl⟩) rfl rfl (Nat.le_of_ble_eq_true rfl) dX12_cached_41 ⟨Nat.le_of_ble_eq_true rfl, Nat.le_of_ble_eq_true rfl⟩ (fun r_3 Φ4 sz3 st3 hp3 hs3 => ?_)
      obtain ⟨rfl, hq3, hI4, hF3⟩ := hp3
      subst sz3
      replace hs3 : st3 = [.int 1, .ref x] := hs3
      subst st3
      refine z_if_ne (tgt := 51) B dX12_cached_44 rfl (fun c_3 => ?_) (fun h9 => absurd h9 (by decide))
      refine z_iconst (v := 0) B dX12_cached_51 rfl ?_
      refine z_iconst (v := 2) B dX12_cached_52 rfl ?_
      obtain ⟨n_5, v_3, n_6, h_5, b_26, b_14, b_15, b_16, b_17, b_18, b_19, b_20, b_21, b_22, b_23, b_24, b_25⟩ := im0 hI4
      replace b_14 : 1 ≤ rt := b_14
      replace b_15 : rt ≤ 1024 := b_15
      replace b_16 : fl ≤ 12 := b_16
      replace b_17 : pe ≤ 24 := b_17
      replace b_18 : le ≤ 700 := b_18
      replace b_19 : qu ≤ 12 := b_19
      replace b_20 : n_5 ≤ 8 := b_20
      replace b_21 : n_6 ≤ 24 := b_21
      replace b_22 : tk ≤ 24 := b_22
      replace b_23 : il ≤ 700 := b_23
      replace b_24 : nx ≤ 701 := b_24
      replace b_25 : st ≤ 701 := b_25
      have h_6 : Φ4 x = some (o_ 14 [.int v_2, .ref (x + 1), .ref (x + 2), .int ti, .int ra, .int (nI rt), .int ex, .int ad, .ref (x + 3), .ref (x + 4), .int me, .long se, .ref (x + 5), .int (nI fl), .int dr, .long ob, .long sa, .long sn, .long us, .ref (x + 6), .ref (x + 7), .int (nI pe), .ref (x + 8), .int (nI le), .ref (x + 9), .ref (x + 10), .int (nI qu), .ref (x + 11), .ref (x + 12), .ref (x + 13), .ref (x + 14), .ref (x + 15), .ref (x + 16), .int (nI n_5), .long v_3, .ref (x + 17), .ref (x + 18), .ref (x + 19), .ref (x + 20), .ref (x + 21), .ref (x + 22), .int (nI n_6), .ref (x + 23), .ref (x + 24), .int (nI tk), .ref (x + 25), .int (nI il), .int (nI nx), .int ec, .int ep, .int kn, .int (nI st), .int nu, .long va]) := h_5
      refine z_callV (As := [.int 0, .int 2]) (rest := []) B (r_throwsIf G l Φ4 sz x rd nw cr tp tt sI sT pt ql fl pe le nx il qu kn ec nu va st ep ti ad ob ra rt ex sa us tk v_2 me dr se sn 0 2 hx hI4 (by decide) hnw) (cwV 2 B.1.2.2.2.2 gX12_cached_X12_throwsIf rfl rfl rfl (by decide +kernel) ⟨Nat.le_of_ble_eq_true rfl, Nat.le_of_ble_eq_true rfl⟩) h_6 rfl rfl rfl rfl (Nat.le_of_ble_eq_true rfl) dX12_cached_53 ⟨Nat.le_of_ble_eq_true rfl, Nat.le_of_ble_eq_true rfl⟩ (fun r_4 Φ5 sz4 st4 hp4 hs4 => ?_)
      obtain ⟨rfl, hq4, ⟨v_4, hI5⟩, hF4⟩ := hp4
      subst sz4
      replace hs4 : st4 = [.int 0] := hs4
      subst st4
      replace hI5 : Im G x (rd, nw, cr, tp, tt, sI, sT, pt, ql, fl, pe, le, nx, il, qu, kn, ec, nu, va, st, ep, ti, ad, ob, ra, rt, ex, sa, us, tk, v_4, me, dr, se, sn) Φ5 := hI5
      refine z_if_eq (tgt := 63) B dX12_cached_56 rfl (fun c_4 => ?_) (fun h9 => absurd (by decide) h9)
      refine z_aload_n B dX12_cached_63 rfl 0 rfl ?_
      obtain ⟨n_7, v_5, n_8, h_7, b_39, b_27, b_28, b_29, b_30, b_31, b_32, b_33, b_34, b_35, b_36, b_37, b_38⟩ := im0 hI5
      replace b_27 : 1 ≤ rt := b_27
      replace b_28 : rt ≤ 1024 := b_28
      replace b_29 : fl ≤ 12 := b_29
      replace b_30 : pe ≤ 24 := b_30
      replace b_31 : le ≤ 700 := b_31
      replace b_32 : qu ≤ 12 := b_32
      replace b_33 : n_7 ≤ 8 := b_33
      replace b_34 : n_8 ≤ 24 := b_34
      replace b_35 : tk ≤ 24 := b_35
      replace b_36 : il ≤ 700 := b_36
      replace b_37 : nx ≤ 701 := b_37
      replace b_38 : st ≤ 701 := b_38
      have h_8 : Φ5 x = some (o_ 14 [.int v_4, .ref (x + 1), .ref (x + 2), .int ti, .int ra, .int (nI rt), .int ex, .int ad, .ref (x + 3), .ref (x + 4), .int me, .long se, .ref (x + 5), .int (nI fl), .int dr, .long ob, .long sa, .long sn, .long us, .ref (x + 6), .ref (x + 7), .int (nI pe), .ref (x + 8), .int (nI le), .ref (x + 9), .ref (x + 10), .int (nI qu), .ref (x + 11), .ref (x + 12), .ref (x + 13), .ref (x + 14), .ref (x + 15), .ref (x + 16), .int (nI n_7), .long v_5, .ref (x + 17), .ref (x + 18), .ref (x + 19), .ref (x + 20), .ref (x + 21), .ref (x + 22), .int (nI n_8), .ref (x + 23), .ref (x + 24), .int (nI tk), .ref (x + 25), .int (nI il), .int (nI nx), .int ec, .int ep, .int kn, .int (nI st), .int nu, .long va]) := h_7
      refine z_get (ref := "FlowExporterModel") (C := RX12) (T := TX12) (N := 54) (ci := 14) (v := .ref (x + 5)) B hu_X12_cached_X12 rfl 12 (Nat.le_of_ble_eq_true rfl) hv_X12_cached_26 rfl h_8 rfl dX12_cached_64 ?_
      refine z_bipush (v := 8) B dX12_cached_67 rfl ?_
      refine z_iload_n B dX12_cached_69 rfl 1 rfl ?_
      refine z_imul B dX12_cached_70 ?_
      refine z_top (st1 := [.int (nI (8 * n_3)), .ref (x + 5)]) (congrArg (fun w9 : Int32 => ([.int w9, .ref (x + 5)] : List Value)) (nI_mul 8 n_3)) ?_
      refine z_iload_n B dX12_cached_71 rfl 2 rfl ?_
      refine z_iadd B dX12_cached_72 ?_
      refine z_top (st1 := [.int (nI (8 * n_3 + n_4)), .ref (x + 5)]) (congrArg (fun w9 : Int32 => ([.int w9, .ref (x + 5)] : List Value)) (nI_add (8 * n_3) n_4)) ?_
      obtain ⟨f_1, h_9, r_5, r_6⟩ := imk (k := 5) hI5
      replace r_6 : cr f_1 := r_6
      replace r_5 : CC f_1 := r_5
      have h_10 : Φ5 (x + 5) = some (al_ G 96 f_1) := h_9
      refine z_lald B h_10 (vp_in_nI (by omega) (by omega)) dX12_cached_73 ?_
      refine z_fl (fun v_6 => ?_)
      exact z_ret_l B dX12_cached_74 ⟨⟨_, rfl⟩, rfl, ⟨v_4, hI5⟩, (fun b9 h9 => ((hF4 b9 h9).trans ((hF3 b9 (fun j9 h8 h7 => (show False from h7).elim)).trans ((hF2 b9 h9).trans ((hF1 b9 (fun j9 h8 h7 => (show False from h7).elim)).trans ((fset_fr hΦ1 (fun h8 => h9 (0) h8 (show 0 = 0 by decide))).trans rfl))))))⟩
    · have q_1 : ¬ (0 ≤ b.toInt ∧ b.toInt ≤ 7) := fun h9 => hR2 ((inP_i (by decide) (by decide)).mpr h9)
      refine z_callS (As := [.long b.toInt64, .long 0, .long 7]) (rest := [.ref x]) B (c_inR0 G l Φ3 sz b.toInt64 0 7 hR2 (fun v8 Φ8 sz8 => v8 = some (.int 0) ∧ sz8 = sz ∧ Im G x (rd, nw, cr, tp, tt, sI, sT, pt, ql, fl, pe, le, nx, il, qu, kn, ec, nu, va, st, ep, ti, ad, ob, ra, rt, ex, sa, us, tk, v_2, me, dr, se, sn) Φ8 ∧ Fr x (fun j9 => False) Φ3 Φ8) ⟨rfl, rfl, hI3, fun _ _ => rfl⟩) (va_cwS 3 B.1.2.2.2.2 gX12_cached_X12_inRange rfl rfl rfl (by decide +kernel) ⟨Nat.le_of_ble_eq_true rfl, Nat.le_of_ble_eq_true rfl⟩) rfl rfl (Nat.le_of_ble_eq_true rfl) dX12_cached_41 ⟨Nat.le_of_ble_eq_true rfl, Nat.le_of_ble_eq_true rfl⟩ (fun r_7 Φ6 sz5 st5 hp5 hs5 => ?_)
      obtain ⟨rfl, hq5, hI6, hF5⟩ := hp5
      subst sz5
      replace hs5 : st5 = [.int 0, .ref x] := hs5
      subst st5
      refine z_if_ne (tgt := 51) B dX12_cached_44 rfl (fun h9 => absurd (by decide) h9) (fun c_5 => ?_)
      refine z_iconst (v := 1) B dX12_cached_47 rfl ?_
      refine z_goto (tgt := 52) B dX12_cached_48 rfl ?_
      refine z_iconst (v := 2) B dX12_cached_52 rfl ?_
      obtain ⟨n_9, v_7, n_10, h_11, b_52, b_40, b_41, b_42, b_43, b_44, b_45, b_46, b_47, b_48, b_49, b_50, b_51⟩ := im0 hI6
      replace b_40 : 1 ≤ rt := b_40
      replace b_41 : rt ≤ 1024 := b_41
      replace b_42 : fl ≤ 12 := b_42
      replace b_43 : pe ≤ 24 := b_43
      replace b_44 : le ≤ 700 := b_44
      replace b_45 : qu ≤ 12 := b_45
      replace b_46 : n_9 ≤ 8 := b_46
      replace b_47 : n_10 ≤ 24 := b_47
      replace b_48 : tk ≤ 24 := b_48
      replace b_49 : il ≤ 700 := b_49
      replace b_50 : nx ≤ 701 := b_50
      replace b_51 : st ≤ 701 := b_51
      have h_12 : Φ6 x = some (o_ 14 [.int v_2, .ref (x + 1), .ref (x + 2), .int ti, .int ra, .int (nI rt), .int ex, .int ad, .ref (x + 3), .ref (x + 4), .int me, .long se, .ref (x + 5), .int (nI fl), .int dr, .long ob, .long sa, .long sn, .long us, .ref (x + 6), .ref (x + 7), .int (nI pe), .ref (x + 8), .int (nI le), .ref (x + 9), .ref (x + 10), .int (nI qu), .ref (x + 11), .ref (x + 12), .ref (x + 13), .ref (x + 14), .ref (x + 15), .ref (x + 16), .int (nI n_9), .long v_7, .ref (x + 17), .ref (x + 18), .ref (x + 19), .ref (x + 20), .ref (x + 21), .ref (x + 22), .int (nI n_10), .ref (x + 23), .ref (x + 24), .int (nI tk), .ref (x + 25), .int (nI il), .int (nI nx), .int ec, .int ep, .int kn, .int (nI st), .int nu, .long va]) := h_11
      refine z_callV (As := [.int 1, .int 2]) (rest := []) B (r_throwsIf G l Φ6 sz x rd nw cr tp tt sI sT pt ql fl pe le nx il qu kn ec nu va st ep ti ad ob ra rt ex sa us tk v_2 me dr se sn 1 2 hx hI6 (by decide) hnw) (cwV 2 B.1.2.2.2.2 gX12_cached_X12_throwsIf rfl rfl rfl (by decide +kernel) ⟨Nat.le_of_ble_eq_true rfl, Nat.le_of_ble_eq_true rfl⟩) h_12 rfl rfl rfl rfl (Nat.le_of_ble_eq_true rfl) dX12_cached_53 ⟨Nat.le_of_ble_eq_true rfl, Nat.le_of_ble_eq_true rfl⟩ (fun r_8 Φ7 sz6 st6 hp6 hs6 => ?_)
      obtain ⟨rfl, hq6, ⟨v_8, hI7⟩, hF6⟩ := hp6
      subst sz6
      replace hs6 : st6 = [.int 1] := hs6
      subst st6
      replace hI7 : Im G x (rd, nw, cr, tp, tt, sI, sT, pt, ql, fl, pe, le, nx, il, qu, kn, ec, nu, va, st, ep, ti, ad, ob, ra, rt, ex, sa, us, tk, v_8, me, dr, se, sn) Φ7 := hI7
      refine z_if_eq (tgt := 63) B dX12_cached_56 rfl (fun h9 => absurd h9 (by decide)) (fun c_6 => ?_)
      refine z_lconst (v := 0) B dX12_cached_59 rfl ?_
      refine z_goto (tgt := 74) B dX12_cached_60 rfl ?_
      exact z_ret_l B dX12_cached_74 ⟨⟨_, rfl⟩, rfl, ⟨v_8, hI7⟩, (fun b9 h9 => ((hF6 b9 h9).trans ((hF5 b9 (fun j9 h8 h7 => (show False from h7).elim)).trans ((hF2 b9 h9).trans ((hF1 b9 (fun j9 h8 h7 => (show False from h7).elim)).trans ((fset_fr hΦ1 (fun h8 => h9 (0) h8 (show 0 = 0 by decide))).trans rfl))))))⟩
  · refine z_callS (As := [.long a.toInt64, .long 0, .long ((nI fl - 1).toInt64)]) (rest := [.ref x]) B (c_inR0 G l Φ1 sz a.toInt64 0 ((nI fl - 1).toInt64) hR1 (fun v8 Φ8 sz8 => v8 = some (.int 0) ∧ sz8 = sz ∧ Im G x (rd, nw, cr, tp, tt, sI, sT, pt, ql, fl, pe, le, nx, il, qu, kn, ec, nu, va, st, ep, ti, ad, ob, ra, rt, ex, sa, us, tk, 0, me, dr, se, sn) Φ8 ∧ Fr x (fun j9 => False) Φ1 Φ8) ⟨rfl, rfl, hI1, fun _ _ => rfl⟩) (va_cwS 3 B.1.2.2.2.2 gX12_cached_X12_inRange rfl rfl rfl (by decide +kernel) ⟨Nat.le_of_ble_eq_true rfl, Nat.le_of_ble_eq_true rfl⟩) rfl rfl (Nat.le_of_ble_eq_true rfl) dX12_cached_16 ⟨Nat.le_of_ble_eq_true rfl, Nat.le_of_ble_eq_true rfl⟩ (fun r_9 Φ8 sz7 st7 hp7 hs7 => ?_)
    obtain ⟨rfl, hq7, hI8, hF7⟩ := hp7
    subst sz7
    replace hs7 : st7 = [.int 0, .ref x] := hs7
    subst st7
    refine z_if_ne (tgt := 26) B dX12_cached_19 rfl (fun h9 => absurd (by decide) h9) (fun c_7 => ?_)
    refine z_iconst (v := 1) B dX12_cached_22 rfl ?_
    refine z_goto (tgt := 27) B dX12_cached_23 rfl ?_
    refine z_iconst (v := 1) B dX12_cached_27 rfl ?_
    have h_13 : Φ8 x = some (o_ 14 [.int 0, .ref (x + 1), .ref (x + 2), .int ti, .int ra, .int (nI rt), .int ex, .int ad, .ref (x + 3), .ref (x + 4), .int me, .long se, .ref (x + 5), .int (nI fl), .int dr, .long ob, .long sa, .long sn, .long us, .ref (x + 6), .ref (x + 7), .int (nI pe), .ref (x + 8), .int (nI le), .ref (x + 9), .ref (x + 10), .int (nI qu), .ref (x + 11), .ref (x + 12), .ref (x + 13), .ref (x + 14), .ref (x + 15), .ref (x + 16), .int (nI n_1), .long v_1, .ref (x + 17), .ref (x + 18), .ref (x + 19), .ref (x + 20), .ref (x + 21), .ref (x + 22), .int (nI n_2), .ref (x + 23), .ref (x + 24), .int (nI tk), .ref (x + 25), .int (nI il), .int (nI nx), .int ec, .int ep, .int kn, .int (nI st), .int nu, .long va]) := ((hF7 x (fun j9 h8 h7 => (show False from h7).elim)).trans h_3)
    refine z_callV (As := [.int 1, .int 1]) (rest := []) B (r_throwsIf G l Φ8 sz x rd nw cr tp tt sI sT pt ql fl pe le nx il qu kn ec nu va st ep ti ad ob ra rt ex sa us tk 0 me dr se sn 1 1 hx hI8 (by decide) hnw) (cwV 2 B.1.2.2.2.2 gX12_cached_X12_throwsIf rfl rfl rfl (by decide +kernel) ⟨Nat.le_of_ble_eq_true rfl, Nat.le_of_ble_eq_true rfl⟩) h_13 rfl rfl rfl rfl (Nat.le_of_ble_eq_true rfl) dX12_cached_28 ⟨Nat.le_of_ble_eq_true rfl, Nat.le_of_ble_eq_true rfl⟩ (fun r_10 Φ9 sz8 st8 hp8 hs8 => ?_)
    obtain ⟨rfl, hq8, ⟨v_9, hI9⟩, hF8⟩ := hp8
    subst sz8
    replace hs8 : st8 = [.int 1] := hs8
    subst st8
    replace hI9 : Im G x (rd, nw, cr, tp, tt, sI, sT, pt, ql, fl, pe, le, nx, il, qu, kn, ec, nu, va, st, ep, ti, ad, ob, ra, rt, ex, sa, us, tk, v_9, me, dr, se, sn) Φ9 := hI9
    refine z_if_ne (tgt := 59) B dX12_cached_31 rfl (fun c_8 => ?_) (fun h9 => absurd h9 (by decide))
    refine z_lconst (v := 0) B dX12_cached_59 rfl ?_
    refine z_goto (tgt := 74) B dX12_cached_60 rfl ?_
    exact z_ret_l B dX12_cached_74 ⟨⟨_, rfl⟩, rfl, ⟨v_9, hI9⟩, (fun b9 h9 => ((hF8 b9 h9).trans ((hF7 b9 (fun j9 h8 h7 => (show False from h7).elim)).trans ((fset_fr hΦ1 (fun h8 => h9 (0) h8 (show 0 = 0 by decide))).trans rfl))))⟩

/-! PX=4: the rows of flows and of real keys, in the reference -/
theorem updL_eq {f : Nat → Int64} {i : Nat} {v : Int64} : vp_updL f i v i = v := if_pos rfl
theorem updL_ne {f : Nat → Int64} {i j : Nat} {v : Int64} (h : ¬ j = i) : vp_updL f i v j = f j := if_neg h
noncomputable def CaQ (n : Nat) (F : Nat → Fl) (f : Nat → Int64) : Prop := ∀ j, j < n → FlB (F j) ∧ ∀ q, q < 8 → f (8 * j + q) = vlL (F j) q
theorem CaQ.less {n m : Nat} {F : Nat → Fl} {f : Nat → Int64} (h : CaQ n F f) (hm : m ≤ n) : CaQ m F f := fun j hj => h j (Nat.lt_of_lt_of_le hj hm)
theorem CaQ.z {F : Nat → Fl} {f : Nat → Int64} : CaQ 0 F f := fun j hj => absurd hj (Nat.not_lt_zero j)
theorem CaQ.at {n j i : Nat} {F : Nat → Fl} {f : Nat → Int64} (h : CaQ n F f) (hj : j < n) (q : Nat) (hq : q < 8) (hi : i = 8 * j + q) : f i = vlL (F j) q := by
  subst hi
  exact (h j hj).2 q hq
/-- a shift under way: from a to i the row holds what stood 8 behind -/
noncomputable def ShQ (f : Nat → Int64) (a i : Nat) (g : Nat → Int64) : Prop := ∀ k, g k = if a ≤ k ∧ k < i then f (k + 8) else f k
theorem ShQ.z {f : Nat → Int64} {a : Nat} : ShQ f a a f := fun k => (if_neg (by omega)).symm
theorem ShQ.s {f g : Nat → Int64} {a i p k : Nat} (h : ShQ f a i g) (ha : a ≤ i) (hp : p = i) (hk : k = i + 8) : ShQ f a (i + 1) (vp_updL g p (g k)) := by
  subst hp
  subst hk
  intro j
  by_cases e : j = p
  · subst e
    rw [updL_eq, h (j + 8), if_neg (by omega), if_pos (by omega)]
  · rw [updL_ne e, h j]
    by_cases b : a ≤ j ∧ j < p
    · rw [if_pos b, if_pos (by omega)]
    · rw [if_neg b, if_neg (by omega)]
theorem CaQ.sh {n i e : Nat} {F : Nat → Fl} {f g : Nat → Int64} (h : CaQ n F f) (hi : i < n) (hs : ShQ f (8 * i) e g) (he : 8 * (n - 1) ≤ e) : CaQ (n - 1) (shF F i) g := by
  intro j hj
  unfold shF
  by_cases a : j < i
  · rw [if_pos a]
    refine ⟨(h j (by omega)).1, fun q hq => ?_⟩
    rw [hs (8 * j + q), if_neg (by omega)]
    exact (h j (by omega)).2 q hq
  · rw [if_neg a]
    refine ⟨(h (j + 1) (by omega)).1, fun q hq => ?_⟩
    rw [hs (8 * j + q), if_pos (by omega), show 8 * j + q + 8 = 8 * (j + 1) + q by omega]
    exact (h (j + 1) (by omega)).2 q hq
theorem NNq.us {c : Cf} {g : Nat → Int32} (h : NNq c g) (K : Nat) : c (51 + K % 256) = nI (usN c K) ∧ usN c K ≤ 3 := by
  have hm : K % 256 < 256 := Nat.mod_lt _ (by decide)
  obtain ⟨n, hn, e⟩ := h.1.2.2.1 (51 + K % 256) (by omega) (by omega)
  have e1 : c (51 + K % 256) = nI n := (h.2 _ (by omega)).symm.trans e
  have e2 : usN c K = n := by
    unfold usN
    rw [e1, nI_clamp (by omega)]
  rw [e2]
  exact ⟨e1, hn⟩
theorem ov_L {c : Int32} {t a : Nat} (ht : t ≤ 1000000) (ha : a ≤ 1000000) : c.toInt64 ≤ (nI t).toInt64 - (nI a).toInt64 ↔ c.toInt ≤ (t : Int) - a := by
  rw [Int64.le_iff_toInt_le, Int64.toInt_sub, Int32.toInt_toInt64, Int32.toInt_toInt64, Int32.toInt_toInt64, nI_toInt (by omega), nI_toInt (by omega), Int.bmod_eq_of_le (by omega) (by omega)]
theorem lt_L {a b : Nat} (ha : a ≤ 1000000) (hb : b ≤ 1000000) : (nI a).toInt64 < (nI b).toInt64 ↔ a < b := by
  rw [Int64.lt_iff_toInt_lt, Int32.toInt_toInt64, Int32.toInt_toInt64, nI_toInt (by omega), nI_toInt (by omega)]
  omega
/-- the draw, in longs -/
theorem drL_eq {w : Nat} (hw : w < 2147483648) : (((1103515245 * ((nI w).toInt64)) + 12345) - ((1103515245 * ((nI w).toInt64)) + 12345) / 2147483648 * 2147483648).toInt32 = nI (drN w) := by
  have e1 : (nI w).toInt64 = Int64.ofNat w := toL (by omega)
  have e2 : (1103515245 : Int64) * Int64.ofNat w + 12345 = Int64.ofNat (1103515245 * w + 12345) := by
    rw [Int64.ofNat_add, Int64.ofNat_mul]
    rfl
  have key : ∀ N : Nat, N < 2 ^ 62 → Int64.ofNat N - Int64.ofNat N / 2147483648 * 2147483648 = Int64.ofNat (N % 2147483648) := by
    intro N hN
    have h1 : (Int64.ofNat N).toInt = (N : Int) := Int64.toInt_ofNat_of_lt (by omega)
    have h2 : (2147483648 : Int64).toInt = ((2147483648 : Nat) : Int) := by decide
    have e4 : Int64.ofNat N / 2147483648 = Int64.ofNat (N / 2147483648) := by
      apply Int64.toInt_inj.mp
      rw [Int64.toInt_div, h1, h2, Int64.toInt_ofNat_of_lt (by omega)]
      show Int.bmod ((N / 2147483648 : Nat) : Int) (2 ^ 64) = ((N / 2147483648 : Nat) : Int)
      exact Int.bmod_eq_of_le (by omega) (by omega)
    have e5 : Int64.ofNat (N / 2147483648) * 2147483648 = Int64.ofNat (N / 2147483648 * 2147483648) := (Int64.ofNat_mul _ _).symm
    have e6 : Int64.ofNat N = Int64.ofNat (N % 2147483648) + Int64.ofNat (N / 2147483648 * 2147483648) := by
      rw [← Int64.ofNat_add]
      congr 1
      omega
    rw [e4, e5]
    rw [e6, Int64.add_sub_cancel]
  rw [e1, e2, key _ (by omega)]
  exact ofL (drN_lt w)
/-- the end of an interval: how many are exported, what is left, the exports since, the rate -/
noncomputable def adF (c : Cf) (aq : Int32) (s : XS) (e : Int32) (r : Nat) : Nat × XS × Int32 × Nat := if nrN c aq e r = r then (0, s, 0, r) else (s.1, exI c s s.1, nI s.1, nrN c aq e r)
theorem adF_0 {c : Cf} {aq e : Int32} {r : Nat} {s : XS} (h : nrN c aq e r = r) : adF c aq s e r = (0, s, 0, r) := if_pos h
theorem adF_n {c : Cf} {aq e : Int32} {r n : Nat} {F F1 : Nat → Fl} {u u1 : UN} (h : ¬ nrN c aq e r = r) (hx : exI c (n, F, u) n = (0, F1, u1)) : adF c aq (n, F, u) e r = (n, (0, F1, u1), nI n, nrN c aq e r) := by
  unfold adF
  rw [if_neg h, hx]
theorem Im.set5 {G : EnvG} {x : Nat} {T : MT} {cr1 : (Nat → Int64) → Prop} {f : Nat → Int64} {Φ : Hm} (h : Im G x T Φ) (hc : Φ (x + 5) = some (al_ G 96 f)) (hC : CC f) (hf : cr1 f) : Im G x (T.1, T.2.1, cr1, T.2.2.2) Φ := by
  refine ⟨h.1, fun j h3 h4 => ?_⟩
  by_cases e : j = 5
  · subst e
    exact ⟨f, hc, hC, hf⟩
  · have q := h.2 j h3 h4
    revert q e
    match j, h3, h4 with
    | 1, _, _ => intro _ q; exact q
    | 2, _, _ => intro _ q; exact q
    | 3, _, _ => intro _ q; exact q
    | 4, _, _ => intro _ q; exact q
    | 5, _, _ => intro e _; exact absurd rfl e
    | 6, _, _ => intro _ q; exact q
    | 7, _, _ => intro _ q; exact q
    | 8, _, _ => intro _ q; exact q
    | 9, _, _ => intro _ q; exact q
    | 10, _, _ => intro _ q; exact q
    | 11, _, _ => intro _ q; exact q
    | 12, _, _ => intro _ q; exact q
    | 13, _, _ => intro _ q; exact q
    | 14, _, _ => intro _ q; exact q
    | 15, _, _ => intro _ q; exact q
    | 16, _, _ => intro _ q; exact q
    | 17, _, _ => intro _ q; exact q
    | 18, _, _ => intro _ q; exact q
    | 19, _, _ => intro _ q; exact q
    | 20, _, _ => intro _ q; exact q
    | 21, _, _ => intro _ q; exact q
    | 22, _, _ => intro _ q; exact q
    | 23, _, _ => intro _ q; exact q
    | 24, _, _ => intro _ q; exact q
    | 25, _, _ => intro _ q; exact q
    | j + 26, _, h4 => omega
theorem tiS_d {c : Cf} {aq e e1 : Int32} {t r d r1 k : Nat} {s s1 : XS} (h : tiS c aq t (s, r, e, 0) = (s1, r1, e1, k)) : tiS c aq t (s, r, e, d) = (s1, r1, e1, d + k) := by
  unfold tiS at h ⊢
  dsimp only at h ⊢
  by_cases ht : t % 100 = 0
  · rw [if_pos ht] at h ⊢
    by_cases hr : nrN c aq (e + nI (olA c t s).2.2) r = r
    · rw [if_pos hr] at h ⊢
      injection h with h1 h2
      injection h2 with h2 h3
      injection h3 with h3 h4
      rw [h1, h2, h3, ← h4, Nat.zero_add]
    · rw [if_neg hr] at h ⊢
      injection h with h1 h2
      injection h2 with h2 h3
      injection h3 with h3 h4
      rw [h1, h2, h3, ← h4, Nat.zero_add]
  · rw [if_neg ht] at h ⊢
    injection h with h1 h2
    injection h2 with h2 h3
    injection h3 with h3 h4
    rw [h1, h2, h3, ← h4, Nat.zero_add]
theorem tiS_a {c : Cf} {aq e e2 : Int32} {t r d n n1 k1 d1 k r2 : Nat} {F F1 : Nat → Fl} {u u1 : UN} {s2 : XS} (ho : olI c t ((n, F, u), 0, 0) n = ((n1, F1, u1), k1, d1)) (ht : t % 100 = 0) (ha : adF c aq (n1, F1, u1) (e + nI d1) r = (k, s2, e2, r2)) : tiS c aq t ((n, F, u), r, e, d) = (s2, r2, e2, d + (d1 + k)) := by
  have hA : olA c t (n, F, u) = ((n1, F1, u1), k1, d1) := ho
  unfold tiS
  rw [if_pos ht, hA]
  unfold adF at ha
  by_cases hr : nrN c aq (e + nI d1) r = r
  · rw [if_pos hr] at ha ⊢
    injection ha with h1 h2
    injection h2 with h2 h3
    injection h3 with h3 h4
    rw [← h1, ← h2, ← h3, ← h4]
    rfl
  · rw [if_neg hr] at ha ⊢
    injection ha with h1 h2
    injection h2 with h2 h3
    injection h3 with h3 h4
    rw [← h1, ← h2, ← h3, ← h4]
theorem adF_k {c : Cf} {aq e e2 : Int32} {r r2 n k : Nat} {F : Nat → Fl} {u : UN} {s2 : XS} (h : adF c aq (n, F, u) e r = (k, s2, e2, r2)) : k ≤ n := by
  unfold adF at h
  by_cases hr : nrN c aq e r = r
  · rw [if_pos hr] at h
    injection h with h1 h2
    omega
  · rw [if_neg hr] at h
    injection h with h1 h2
    have h3 : n = k := h1
    omega

theorem hu_X12_draw_X12 : ∀ w ∈ u_ws RX12 TX12 54, w ∈ wsX12_draw := fun _ h => List.mem_cons_of_mem _ (List.mem_append_left _ (List.mem_append_right _ (h)))

theorem hv_X12_draw_104 : Cond.fieldLink RX12 104 "FlowExporterModel" (TX12 4).2.1 (TX12 4).2.2.1 ∈ wsX12_draw := List.mem_cons_of_mem _ (List.mem_append_left _ (List.mem_append_left _ (List.mem_of_getElem? (i := 1) rfl)))

set_option maxHeartbeats 4000000 in
set_option maxRecDepth 100000 in
theorem r_draw (G : EnvG) (l : Launch) (Φ : Hm) (sz x : Nat) (rd : (Nat → Int32) → Prop) (nw : (Nat → Int32) → Prop) (cr : (Nat → Int64) → Prop) (tp : (Nat → Int32) → Prop) (tt : (Nat → Int64) → Prop) (sI : (Nat → Int32) → Prop) (sT : (Nat → Int32) → Prop) (pt : (Nat → Int32) → Prop) (ql : (Nat → Int32) → Prop) (fl : Nat) (pe : Nat) (le : Nat) (nx : Nat) (il : Nat) (qu : Nat) (kn : Int32) (ec : Int32) (nu : Int32) (va : Int64) (st : Nat) (ep : Int32) (ti : Int32) (ad : Int32) (ob : Int64) (rt : Nat) (ex : Int32) (sa : Int64) (us : Int64) (tk : Nat) (th : Int32) (me : Int32) (dr : Int32) (se : Int64) (sn : Int64) (w : Nat) (n : Nat) (hx : G.2.2.2 ≤ x) (hI : Im G x (rd, nw, cr, tp, tt, sI, sT, pt, ql, fl, pe, le, nx, il, qu, kn, ec, nu, va, st, ep, ti, ad, ob, (nI w), rt, ex, sa, us, tk, th, me, dr, se, sn) Φ) (hn : 1 ≤ n) (hn2 : n ≤ 1024) (hw : w < 2147483648) (hnw : ∀ f9 : Nat → Int32, nw f9 → NN f9) : Ct G l yX12_draw wsX12_draw ({ frames := 0, cells := 0, slots := 0, locals := 0 }) 0 0 [.ref x, .int (nI n)] Φ sz (fun v Φ1 sz1 => (v = some (.int (nI (drN w / 256 % n)))) ∧ sz1 = sz ∧ (Im G x (rd, nw, cr, tp, tt, sI, sT, pt, ql, fl, pe, le, nx, il, qu, kn, ec, nu, va, st, ep, ti, ad, ob, nI (drN w), rt, ex, sa, us, tk, th, me, dr, se, sn) Φ1) ∧ Fr x (fun j9 => j9 = 0) Φ Φ1) := by
  refine Ct.of (cc := cX12_draw) (maxL := 2) (ret := (some .int)) (by decide) rfl (Nat.le_of_ble_eq_true rfl) ?_
  intro p9 e9 s9 m9 w9 t9 k9 B
  show Z p9 l e9 _ s9 m9 _ w9 t9 k9 _ G 2 0 [(0, .ref x), (1, .int (nI n))] [] Φ sz 0 0
  refine z_aload_n B dX12_draw_0 rfl 0 rfl ?_
  refine z_ldc2 (v := 1103515245) B (by decide +kernel) dX12_draw_1 ?_
  refine z_aload_n B dX12_draw_4 rfl 0 rfl ?_
  obtain ⟨n_1, v_1, n_2, h_1, b_13, b_1, b_2, b_3, b_4, b_5, b_6, b_7, b_8, b_9, b_10, b_11, b_12⟩ := im0 hI
  replace b_1 : 1 ≤ rt := b_1
  replace b_2 : rt ≤ 1024 := b_2
  replace b_3 : fl ≤ 12 := b_3
  replace b_4 : pe ≤ 24 := b_4
  replace b_5 : le ≤ 700 := b_5
  replace b_6 : qu ≤ 12 := b_6
  replace b_7 : n_1 ≤ 8 := b_7
  replace b_8 : n_2 ≤ 24 := b_8
  replace b_9 : tk ≤ 24 := b_9
  replace b_10 : il ≤ 700 := b_10
  replace b_11 : nx ≤ 701 := b_11
  replace b_12 : st ≤ 701 := b_12
  have h_2 : Φ x = some (o_ 14 [.int th, .ref (x + 1), .ref (x + 2), .int ti, .int (nI w), .int (nI rt), .int ex, .int ad, .ref (x + 3), .ref (x + 4), .int me, .long se, .ref (x + 5), .int (nI fl), .int dr, .long ob, .long sa, .long sn, .long us, .ref (x + 6), .ref (x + 7), .int (nI pe), .ref (x + 8), .int (nI le), .ref (x + 9), .ref (x + 10), .int (nI qu), .ref (x + 11), .ref (x + 12), .ref (x + 13), .ref (x + 14), .ref (x + 15), .ref (x + 16), .int (nI n_1), .long v_1, .ref (x + 17), .ref (x + 18), .ref (x + 19), .ref (x + 20), .ref (x + 21), .ref (x + 22), .int (nI n_2), .ref (x + 23), .ref (x + 24), .int (nI tk), .ref (x + 25), .int (nI il), .int (nI nx), .int ec, .int ep, .int kn, .int (nI st), .int nu, .long va]) := h_1
  refine z_get (ref := "FlowExporterModel") (C := RX12) (T := TX12) (N := 54) (ci := 14) (v := .int (nI w)) B hu_X12_draw_X12 rfl 4 (Nat.le_of_ble_eq_true rfl) hv_X12_draw_104 rfl h_2 rfl dX12_draw_5 ?_
  refine z_i2l (v := (nI w).toInt64) B dX12_draw_8 rfl ?_
  refine z_lmul B dX12_draw_9 ?_
  refine z_ldc2 (v := 12345) B (by decide +kernel) dX12_draw_10 ?_
  refine z_ladd B dX12_draw_13 ?_
  refine z_ldc2 (v := 2147483648) B (by decide +kernel) dX12_draw_14 ?_
  refine z_lrem B dX12_draw_17 (by decide) ?_
  refine z_l2i (v := (((1103515245 * ((nI w).toInt64)) + 12345) - ((1103515245 * ((nI w).toInt64)) + 12345) / 2147483648 * 2147483648).toInt32) B dX12_draw_18 rfl ?_
  refine z_top (st1 := [.int (nI (drN w)), .ref x]) (congrArg (fun w9 : Int32 => ([.int w9, .ref x] : List Value)) (drL_eq (by omega))) ?_
  refine z_put (ref := "FlowExporterModel") (C := RX12) (T := TX12) (N := 54) (ci := 14) (v := .int (nI (drN w))) B hu_X12_draw_X12 tyX12 tyX12_ok nmX12 rfl 4 (Nat.le_of_ble_eq_true rfl) hv_X12_draw_104 rfl (Or.inl rfl) h_2 hx rfl rfl (Nat.le_of_ble_eq_true rfl) dX12_draw_19 (fun Φ1 hΦ1 => ?_)
  have h_3 : Φ1 x = some (o_ 14 [.int th, .ref (x + 1), .ref (x + 2), .int ti, .int (nI (drN w)), .int (nI rt), .int ex, .int ad, .ref (x + 3), .ref (x + 4), .int me, .long se, .ref (x + 5), .int (nI fl), .int dr, .long ob, .long sa, .long sn, .long us, .ref (x + 6), .ref (x + 7), .int (nI pe), .ref (x + 8), .int (nI le), .ref (x + 9), .ref (x + 10), .int (nI qu), .ref (x + 11), .ref (x + 12), .ref (x + 13), .ref (x + 14), .ref (x + 15), .ref (x + 16), .int (nI n_1), .long v_1, .ref (x + 17), .ref (x + 18), .ref (x + 19), .ref (x + 20), .ref (x + 21), .ref (x + 22), .int (nI n_2), .ref (x + 23), .ref (x + 24), .int (nI tk), .ref (x + 25), .int (nI il), .int (nI nx), .int ec, .int ep, .int kn, .int (nI st), .int nu, .long va]) := fset_at hΦ1
  have hI1 : Im G x (rd, nw, cr, tp, tt, sI, sT, pt, ql, fl, pe, le, nx, il, qu, kn, ec, nu, va, st, ep, ti, ad, ob, nI (drN w), rt, ex, sa, us, tk, th, me, dr, se, sn) Φ1 := Im.put0 hI hΦ1 ⟨n_1, v_1, n_2, rfl, b_13, b_1, b_2, b_3, b_4, b_5, b_6, b_7, b_8, b_9, b_10, b_11, b_12⟩
  refine z_aload_n B dX12_draw_22 rfl 0 rfl ?_
  refine z_get (ref := "FlowExporterModel") (C := RX12) (T := TX12) (N := 54) (ci := 14) (v := .int (nI (drN w))) B hu_X12_draw_X12 rfl 4 (Nat.le_of_ble_eq_true rfl) hv_X12_draw_104 rfl h_3 rfl dX12_draw_23 ?_
  refine z_sipush (v := 256) B dX12_draw_26 rfl ?_
  refine z_idiv B dX12_draw_29 (by decide) ?_
  have := drN_lt w
  refine z_top (st1 := [.int (nI (drN w / 256))]) (congrArg (fun w9 : Int32 => ([.int w9] : List Value)) (pk_div (a := drN w) (d := 256) (by omega) (by decide) (by decide))) ?_
  refine z_iload_n B dX12_draw_30 rfl 1 rfl ?_
  refine z_irem B dX12_draw_31 (fun h9 => absurd ((nI_eq (a := n) (b := 0) (by omega) (by omega)).mp h9) (by omega)) ?_
  have := Nat.mod_lt (drN w / 256) (show 0 < n by omega)
  refine z_top (st1 := [.int (nI (drN w / 256 % n))]) (congrArg (fun w9 : Int32 => ([.int w9] : List Value)) (pk_rem (a := drN w / 256) (d := n) (by omega) (by omega) (by omega))) ?_
  exact z_ret_i B dX12_draw_32 ⟨rfl, rfl, hI1, (fun b9 h9 => ((fset_fr hΦ1 (fun h8 => h9 (0) h8 (show 0 = 0 by decide))).trans rfl))⟩

theorem hu_X12_appendRecord_X12 : ∀ w ∈ u_ws RX12 TX12 54, w ∈ wsX12_appendRecord := fun _ h => List.mem_cons_of_mem _ (List.mem_append_left _ (List.mem_append_right _ (h)))

theorem hv_X12_appendRecord_136 : Cond.fieldLink RX12 136 "FlowExporterModel" (TX12 21).2.1 (TX12 21).2.2.1 ∈ wsX12_appendRecord := List.mem_cons_of_mem _ (List.mem_append_left _ (List.mem_append_left _ (List.mem_append_left _ (List.mem_of_getElem? (i := 0) rfl))))

theorem fq_998 {x : Nat} : ∀ j9 : Nat, x + 2 = x + j9 → (j9 = 7) → False := by
  intro j9 h1 h2
  omega

theorem fq_999 {x : Nat} : ∀ j9 : Nat, x = x + j9 → (j9 = 7) → False := by
  intro j9 h1 h2
  omega

theorem hv_X12_appendRecord_30 : Cond.fieldLink RX12 30 "FlowExporterModel" (TX12 19).2.1 (TX12 19).2.2.1 ∈ wsX12_appendRecord := List.mem_cons_of_mem _ (List.mem_append_left _ (List.mem_append_left _ (List.mem_append_left _ (List.mem_of_getElem? (i := 3) rfl))))

theorem fq_1001 : ∀ j9 : Nat, (j9 = 7) → (j9 = 0 ∨ j9 = 6 ∨ j9 = 7) := by
  intro j9 h
  omega

theorem hv_X12_appendRecord_33 : Cond.fieldLink RX12 33 "FlowExporterModel" (TX12 20).2.1 (TX12 20).2.2.1 ∈ wsX12_appendRecord := List.mem_cons_of_mem _ (List.mem_append_left _ (List.mem_append_left _ (List.mem_append_left _ (List.mem_of_getElem? (i := 1) rfl))))

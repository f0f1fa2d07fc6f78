set_option maxRecDepth 20000 in
theorem ggX12_truthOf_X12_trueKeyOf : GoodIn wsX12_truthOf wsX12_trueKeyOf := goodIn_ca ((goodIn_ca (goodIn_r _ [6, 7, 8, 9, 10, 5, 11] rfl (by decide +kernel)) (goodIn_sub (fun _ h => List.mem_cons_of_mem _ (List.mem_append_left _ (List.mem_append_right _ h))) gw_wsX120))) (goodIn_sub (fun _ h => List.mem_cons_of_mem _ (List.mem_append_right _ h)) (all_fg _))
set_option maxRecDepth 20000 in
theorem gX12_truthOf_X12_trueKeyOf : GoodIn wsX12_truthOf (wsV RX12 434 RX12 yX12_trueKeyOf wsX12_trueKeyOf) := goodIn_app (goodIn_m (mem_cA (List.mem_cons_of_mem _ (List.mem_append_left _ (List.mem_append_left _ (List.mem_of_getElem? (i := 1) rfl)))) (mem_cA (List.mem_cons_of_mem _ (List.mem_append_left _ (List.mem_append_left _ (List.mem_of_getElem? (i := 2) rfl)))) (mem_cA (List.mem_cons_of_mem _ (List.mem_append_left _ (List.mem_append_left _ (List.mem_of_getElem? (i := 3) rfl)))) (mem_cA (List.mem_cons_of_mem _ (List.mem_append_left _ (List.mem_append_left _ (List.mem_of_getElem? (i := 4) rfl)))) mem_cZ)))) (by decide +kernel)) ggX12_truthOf_X12_trueKeyOf
theorem dX12_truthOf_0 : decode cX12_truthOf 0 = .ok (.aload_n 0, 1) := by decide +kernel
theorem dX12_truthOf_1 : decode cX12_truthOf 1 = .ok (.iload_n 1, 1) := by decide +kernel
theorem dX12_truthOf_2 : decode cX12_truthOf 2 = .ok (.iload_n 2, 1) := by decide +kernel
theorem dX12_truthOf_3 : decode cX12_truthOf 3 = .ok (.iload_n 3, 1) := by decide +kernel
theorem dX12_truthOf_4 : decode cX12_truthOf 4 = .ok (.iload 4, 2) := by decide +kernel
theorem dX12_truthOf_6 : decode cX12_truthOf 6 = .ok (.invokevirtual 434, 3) := by decide +kernel
theorem dX12_truthOf_9 : decode cX12_truthOf 9 = .ok (.istore 6, 2) := by decide +kernel
theorem dX12_truthOf_11 : decode cX12_truthOf 11 = .ok (.iload 6, 2) := by decide +kernel
theorem dX12_truthOf_13 : decode cX12_truthOf 13 = .ok (.iconst (-1), 1) := by decide +kernel
theorem dX12_truthOf_14 : decode cX12_truthOf 14 = .ok (.if_icmp .ne 7, 3) := by decide +kernel
theorem dX12_truthOf_17 : decode cX12_truthOf 17 = .ok (.lconst 0, 1) := by decide +kernel
theorem dX12_truthOf_18 : decode cX12_truthOf 18 = .ok (.goto 15, 3) := by decide +kernel
theorem dX12_truthOf_21 : decode cX12_truthOf 21 = .ok (.aload_n 0, 1) := by decide +kernel
theorem dX12_truthOf_22 : decode cX12_truthOf 22 = .ok (.getfield 85, 3) := by decide +kernel
theorem dX12_truthOf_25 : decode cX12_truthOf 25 = .ok (.iconst 2, 1) := by decide +kernel
theorem dX12_truthOf_26 : decode cX12_truthOf 26 = .ok (.iload 6, 2) := by decide +kernel
theorem dX12_truthOf_28 : decode cX12_truthOf 28 = .ok (.imul, 1) := by decide +kernel
theorem dX12_truthOf_29 : decode cX12_truthOf 29 = .ok (.iload 5, 2) := by decide +kernel
theorem dX12_truthOf_31 : decode cX12_truthOf 31 = .ok (.iadd, 1) := by decide +kernel
theorem dX12_truthOf_32 : decode cX12_truthOf 32 = .ok (.laload, 1) := by decide +kernel
theorem dX12_truthOf_33 : decode cX12_truthOf 33 = .ok (.lreturn, 1) := by decide +kernel
set_option maxHeartbeats 4000000 in
set_option maxRecDepth 100000 in
theorem r_cacheSizeX (G : EnvG) (l : Launch) (Φ : Hm) (sz x : Nat) (rd : (Nat → Int32) → Prop) (nw : (Nat → Int32) → Prop) (cr : (Nat → Int64) → Prop) (tp : (Nat → Int32) → Prop) (tt : (Nat → Int64) → Prop) (sI : (Nat → Int32) → Prop) (sT : (Nat → Int32) → Prop) (pt : (Nat → Int32) → Prop) (ql : (Nat → Int32) → Prop) (fl : Nat) (pe : Nat) (le : Nat) (nx : Nat) (il : Nat) (qu : Nat) (kn : Int32) (ec : Int32) (nu : Int32) (va : Int64) (st : Nat) (ep : Int32) (ti : Int32) (ad : Int32) (ob : Int64) (ra : Int32) (rt : Nat) (ex : Int32) (sa : Int64) (us : Int64) (tk : Nat) (th : Int32) (me : Int32) (dr : Int32) (se : Int64) (sn : Int64)  (hx : G.2.2.2 ≤ x) (hI : Im G x (rd, nw, cr, tp, tt, sI, sT, pt, ql, fl, pe, le, nx, il, qu, kn, ec, nu, va, st, ep, ti, ad, ob, ra, rt, ex, sa, us, tk, th, me, dr, se, sn) Φ) (hnw : ∀ f9 : Nat → Int32, nw f9 → NN f9) : Ct G l yX12_cacheSize wsX12_cacheSize ({ frames := 0, cells := 0, slots := 0, locals := 0 }) 0 0 [.ref x] Φ sz (fun v Φ1 sz1 => (v = some (.int (nI fl))) ∧ sz1 = sz ∧ (∃ (th1 : Int32), Im G x (rd, nw, cr, tp, tt, sI, sT, pt, ql, fl, pe, le, nx, il, qu, kn, ec, nu, va, st, ep, ti, ad, ob, ra, rt, ex, sa, us, tk, th1, me, dr, se, sn) Φ1) ∧ Fr x (fun j9 => j9 = 0) Φ Φ1) := by
  refine Ct.of (cc := cX12_cacheSize) (maxL := 1) (ret := (some .int)) (by decide) rfl (Nat.le_of_ble_eq_true rfl) ?_
  intro p9 e9 s9 m9 w9 t9 k9 B
  show Z p9 l e9 _ s9 m9 _ w9 t9 k9 _ G 1 0 [(0, .ref x)] [] Φ sz 0 0
  refine z_aload_n B dX12_cacheSize_0 rfl 0 rfl ?_
  refine z_iconst (v := 0) B dX12_cacheSize_1 rfl ?_
  obtain ⟨n_1, v_1, n_2, h_1, b_13, b_1, b_2, b_3, b_4, b_5, b_6, b_7, b_8, b_9, b_10, b_11, b_12⟩ := im0 hI
  replace b_1 : 1 ≤ rt := b_1
  replace b_2 : rt ≤ 1024 := b_2
  replace b_3 : fl ≤ 12 := b_3
  replace b_4 : pe ≤ 24 := b_4
  replace b_5 : le ≤ 700 := b_5
  replace b_6 : qu ≤ 12 := b_6
  replace b_7 : n_1 ≤ 8 := b_7
  replace b_8 : n_2 ≤ 24 := b_8
  replace b_9 : tk ≤ 24 := b_9
  replace b_10 : il ≤ 700 := b_10
  replace b_11 : nx ≤ 701 := b_11
  replace b_12 : st ≤ 701 := b_12
  have h_2 : Φ x = some (o_ 14 [.int th, .ref (x + 1), .ref (x + 2), .int ti, .int ra, .int (nI rt), .int ex, .int ad, .ref (x + 3), .ref (x + 4), .int me, .long se, .ref (x + 5), .int (nI fl), .int dr, .long ob, .long sa, .long sn, .long us, .ref (x + 6), .ref (x + 7), .int (nI pe), .ref (x + 8), .int (nI le), .ref (x + 9), .ref (x + 10), .int (nI qu), .ref (x + 11), .ref (x + 12), .ref (x + 13), .ref (x + 14), .ref (x + 15), .ref (x + 16), .int (nI n_1), .long v_1, .ref (x + 17), .ref (x + 18), .ref (x + 19), .ref (x + 20), .ref (x + 21), .ref (x + 22), .int (nI n_2), .ref (x + 23), .ref (x + 24), .int (nI tk), .ref (x + 25), .int (nI il), .int (nI nx), .int ec, .int ep, .int kn, .int (nI st), .int nu, .long va]) := h_1
  refine z_put (ref := "FlowExporterModel") (C := RX12) (T := TX12) (N := 54) (ci := 14) (v := .int 0) B hu_X12_cacheSize_X12 tyX12 tyX12_ok nmX12 rfl 0 (Nat.le_of_ble_eq_true rfl) hv_X12_cacheSize_1 rfl (Or.inl rfl) h_2 hx rfl rfl (Nat.le_of_ble_eq_true rfl) dX12_cacheSize_2 (fun Φ1 hΦ1 => ?_)
  have h_3 : Φ1 x = some (o_ 14 [.int 0, .ref (x + 1), .ref (x + 2), .int ti, .int ra, .int (nI rt), .int ex, .int ad, .ref (x + 3), .ref (x + 4), .int me, .long se, .ref (x + 5), .int (nI fl), .int dr, .long ob, .long sa, .long sn, .long us, .ref (x + 6), .ref (x + 7), .int (nI pe), .ref (x + 8), .int (nI le), .ref (x + 9), .ref (x + 10), .int (nI qu), .ref (x + 11), .ref (x + 12), .ref (x + 13), .ref (x + 14), .ref (x + 15), .ref (x + 16), .int (nI n_1), .long v_1, .ref (x + 17), .ref (x + 18), .ref (x + 19), .ref (x + 20), .ref (x + 21), .ref (x + 22), .int (nI n_2), .ref (x + 23), .ref (x + 24), .int (nI tk), .ref (x + 25), .int (nI il), .int (nI nx), .int ec, .int ep, .int kn, .int (nI st), .int nu, .long va]) := fset_at hΦ1
  have hI1 : Im G x (rd, nw, cr, tp, tt, sI, sT, pt, ql, fl, pe, le, nx, il, qu, kn, ec, nu, va, st, ep, ti, ad, ob, ra, rt, ex, sa, us, tk, 0, me, dr, se, sn) Φ1 := Im.put0 hI hΦ1 ⟨n_1, v_1, n_2, rfl, b_13, b_1, b_2, b_3, b_4, b_5, b_6, b_7, b_8, b_9, b_10, b_11, b_12⟩
  refine z_aload_n B dX12_cacheSize_5 rfl 0 rfl ?_
  refine z_get (ref := "FlowExporterModel") (C := RX12) (T := TX12) (N := 54) (ci := 14) (v := .int (nI fl)) B hu_X12_cacheSize_X12 rfl 13 (Nat.le_of_ble_eq_true rfl) hv_X12_cacheSize_133 rfl h_3 rfl dX12_cacheSize_6 ?_
  exact z_ret_i B dX12_cacheSize_9 ⟨rfl, rfl, ⟨0, hI1⟩, (fun b9 h9 => ((fset_fr hΦ1 (fun h8 => h9 (0) h8 (show 0 = 0 by decide))).trans rfl))⟩

set_option maxHeartbeats 4000000 in
set_option maxRecDepth 100000 in
theorem r_rateX (G : EnvG) (l : Launch) (Φ : Hm) (sz x : Nat) (rd : (Nat → Int32) → Prop) (nw : (Nat → Int32) → Prop) (cr : (Nat → Int64) → Prop) (tp : (Nat → Int32) → Prop) (tt : (Nat → Int64) → Prop) (sI : (Nat → Int32) → Prop) (sT : (Nat → Int32) → Prop) (pt : (Nat → Int32) → Prop) (ql : (Nat → Int32) → Prop) (fl : Nat) (pe : Nat) (le : Nat) (nx : Nat) (il : Nat) (qu : Nat) (kn : Int32) (ec : Int32) (nu : Int32) (va : Int64) (st : Nat) (ep : Int32) (ti : Int32) (ad : Int32) (ob : Int64) (ra : Int32) (rt : Nat) (ex : Int32) (sa : Int64) (us : Int64) (tk : Nat) (th : Int32) (me : Int32) (dr : Int32) (se : Int64) (sn : Int64)  (hx : G.2.2.2 ≤ x) (hI : Im G x (rd, nw, cr, tp, tt, sI, sT, pt, ql, fl, pe, le, nx, il, qu, kn, ec, nu, va, st, ep, ti, ad, ob, ra, rt, ex, sa, us, tk, th, me, dr, se, sn) Φ) (hnw : ∀ f9 : Nat → Int32, nw f9 → NN f9) : Ct G l yX12_rate wsX12_rate ({ frames := 0, cells := 0, slots := 0, locals := 0 }) 0 0 [.ref x] Φ sz (fun v Φ1 sz1 => (v = some (.int (nI rt))) ∧ sz1 = sz ∧ (∃ (th1 : Int32), Im G x (rd, nw, cr, tp, tt, sI, sT, pt, ql, fl, pe, le, nx, il, qu, kn, ec, nu, va, st, ep, ti, ad, ob, ra, rt, ex, sa, us, tk, th1, me, dr, se, sn) Φ1) ∧ Fr x (fun j9 => j9 = 0) Φ Φ1) := by
  refine Ct.of (cc := cX12_rate) (maxL := 1) (ret := (some .int)) (by decide) rfl (Nat.le_of_ble_eq_true rfl) ?_
  intro p9 e9 s9 m9 w9 t9 k9 B
  show Z p9 l e9 _ s9 m9 _ w9 t9 k9 _ G 1 0 [(0, .ref x)] [] Φ sz 0 0
  refine z_aload_n B dX12_rate_0 rfl 0 rfl ?_
  refine z_iconst (v := 0) B dX12_rate_1 rfl ?_
  obtain ⟨n_1, v_1, n_2, h_1, b_13, b_1, b_2, b_3, b_4, b_5, b_6, b_7, b_8, b_9, b_10, b_11, b_12⟩ := im0 hI
  replace b_1 : 1 ≤ rt := b_1
  replace b_2 : rt ≤ 1024 := b_2
  replace b_3 : fl ≤ 12 := b_3
  replace b_4 : pe ≤ 24 := b_4
  replace b_5 : le ≤ 700 := b_5
  replace b_6 : qu ≤ 12 := b_6
  replace b_7 : n_1 ≤ 8 := b_7
  replace b_8 : n_2 ≤ 24 := b_8
  replace b_9 : tk ≤ 24 := b_9
  replace b_10 : il ≤ 700 := b_10
  replace b_11 : nx ≤ 701 := b_11
  replace b_12 : st ≤ 701 := b_12
  have h_2 : Φ x = some (o_ 14 [.int th, .ref (x + 1), .ref (x + 2), .int ti, .int ra, .int (nI rt), .int ex, .int ad, .ref (x + 3), .ref (x + 4), .int me, .long se, .ref (x + 5), .int (nI fl), .int dr, .long ob, .long sa, .long sn, .long us, .ref (x + 6), .ref (x + 7), .int (nI pe), .ref (x + 8), .int (nI le), .ref (x + 9), .ref (x + 10), .int (nI qu), .ref (x + 11), .ref (x + 12), .ref (x + 13), .ref (x + 14), .ref (x + 15), .ref (x + 16), .int (nI n_1), .long v_1, .ref (x + 17), .ref (x + 18), .ref (x + 19), .ref (x + 20), .ref (x + 21), .ref (x + 22), .int (nI n_2), .ref (x + 23), .ref (x + 24), .int (nI tk), .ref (x + 25), .int (nI il), .int (nI nx), .int ec, .int ep, .int kn, .int (nI st), .int nu, .long va]) := h_1
  refine z_put (ref := "FlowExporterModel") (C := RX12) (T := TX12) (N := 54) (ci := 14) (v := .int 0) B hu_X12_rate_X12 tyX12 tyX12_ok nmX12 rfl 0 (Nat.le_of_ble_eq_true rfl) hv_X12_rate_1 rfl (Or.inl rfl) h_2 hx rfl rfl (Nat.le_of_ble_eq_true rfl) dX12_rate_2 (fun Φ1 hΦ1 => ?_)
  have h_3 : Φ1 x = some (o_ 14 [.int 0, .ref (x + 1), .ref (x + 2), .int ti, .int ra, .int (nI rt), .int ex, .int ad, .ref (x + 3), .ref (x + 4), .int me, .long se, .ref (x + 5), .int (nI fl), .int dr, .long ob, .long sa, .long sn, .long us, .ref (x + 6), .ref (x + 7), .int (nI pe), .ref (x + 8), .int (nI le), .ref (x + 9), .ref (x + 10), .int (nI qu), .ref (x + 11), .ref (x + 12), .ref (x + 13), .ref (x + 14), .ref (x + 15), .ref (x + 16), .int (nI n_1), .long v_1, .ref (x + 17), .ref (x + 18), .ref (x + 19), .ref (x + 20), .ref (x + 21), .ref (x + 22), .int (nI n_2), .ref (x + 23), .ref (x + 24), .int (nI tk), .ref (x + 25), .int (nI il), .int (nI nx), .int ec, .int ep, .int kn, .int (nI st), .int nu, .long va]) := fset_at hΦ1
  have hI1 : Im G x (rd, nw, cr, tp, tt, sI, sT, pt, ql, fl, pe, le, nx, il, qu, kn, ec, nu, va, st, ep, ti, ad, ob, ra, rt, ex, sa, us, tk, 0, me, dr, se, sn) Φ1 := Im.put0 hI hΦ1 ⟨n_1, v_1, n_2, rfl, b_13, b_1, b_2, b_3, b_4, b_5, b_6, b_7, b_8, b_9, b_10, b_11, b_12⟩
  refine z_aload_n B dX12_rate_5 rfl 0 rfl ?_
  refine z_get (ref := "FlowExporterModel") (C := RX12) (T := TX12) (N := 54) (ci := 14) (v := .int (nI rt)) B hu_X12_rate_X12 rfl 5 (Nat.le_of_ble_eq_true rfl) hv_X12_rate_107 rfl h_3 rfl dX12_rate_6 ?_
  exact z_ret_i B dX12_rate_9 ⟨rfl, rfl, ⟨0, hI1⟩, (fun b9 h9 => ((fset_fr hΦ1 (fun h8 => h9 (0) h8 (show 0 = 0 by decide))).trans rfl))⟩

set_option maxHeartbeats 4000000 in
set_option maxRecDepth 100000 in
theorem r_sampledX (G : EnvG) (l : Launch) (Φ : Hm) (sz x : Nat) (rd : (Nat → Int32) → Prop) (nw : (Nat → Int32) → Prop) (cr : (Nat → Int64) → Prop) (tp : (Nat → Int32) → Prop) (tt : (Nat → Int64) → Prop) (sI : (Nat → Int32) → Prop) (sT : (Nat → Int32) → Prop) (pt : (Nat → Int32) → Prop) (ql : (Nat → Int32) → Prop) (fl : Nat) (pe : Nat) (le : Nat) (nx : Nat) (il : Nat) (qu : Nat) (kn : Int32) (ec : Int32) (nu : Int32) (va : Int64) (st : Nat) (ep : Int32) (ti : Int32) (ad : Int32) (ob : Int64) (ra : Int32) (rt : Nat) (ex : Int32) (sa : Int64) (us : Int64) (tk : Nat) (th : Int32) (me : Int32) (dr : Int32) (se : Int64) (sn : Int64)  (hx : G.2.2.2 ≤ x) (hI : Im G x (rd, nw, cr, tp, tt, sI, sT, pt, ql, fl, pe, le, nx, il, qu, kn, ec, nu, va, st, ep, ti, ad, ob, ra, rt, ex, sa, us, tk, th, me, dr, se, sn) Φ) (hnw : ∀ f9 : Nat → Int32, nw f9 → NN f9) : Ct G l yX12_sampled wsX12_sampled ({ frames := 0, cells := 0, slots := 0, locals := 0 }) 0 0 [.ref x] Φ sz (fun v Φ1 sz1 => (v = some (.long sa)) ∧ sz1 = sz ∧ (∃ (th1 : Int32), Im G x (rd, nw, cr, tp, tt, sI, sT, pt, ql, fl, pe, le, nx, il, qu, kn, ec, nu, va, st, ep, ti, ad, ob, ra, rt, ex, sa, us, tk, th1, me, dr, se, sn) Φ1) ∧ Fr x (fun j9 => j9 = 0) Φ Φ1) := by
  refine Ct.of (cc := cX12_sampled) (maxL := 1) (ret := (some .long)) (by decide) rfl (Nat.le_of_ble_eq_true rfl) ?_
  intro p9 e9 s9 m9 w9 t9 k9 B
  show Z p9 l e9 _ s9 m9 _ w9 t9 k9 _ G 1 0 [(0, .ref x)] [] Φ sz 0 0
  refine z_aload_n B dX12_sampled_0 rfl 0 rfl ?_
  refine z_iconst (v := 0) B dX12_sampled_1 rfl ?_
  obtain ⟨n_1, v_1, n_2, h_1, b_13, b_1, b_2, b_3, b_4, b_5, b_6, b_7, b_8, b_9, b_10, b_11, b_12⟩ := im0 hI
  replace b_1 : 1 ≤ rt := b_1
  replace b_2 : rt ≤ 1024 := b_2
  replace b_3 : fl ≤ 12 := b_3
  replace b_4 : pe ≤ 24 := b_4
  replace b_5 : le ≤ 700 := b_5
  replace b_6 : qu ≤ 12 := b_6
  replace b_7 : n_1 ≤ 8 := b_7
  replace b_8 : n_2 ≤ 24 := b_8
  replace b_9 : tk ≤ 24 := b_9
  replace b_10 : il ≤ 700 := b_10
  replace b_11 : nx ≤ 701 := b_11
  replace b_12 : st ≤ 701 := b_12
  have h_2 : Φ x = some (o_ 14 [.int th, .ref (x + 1), .ref (x + 2), .int ti, .int ra, .int (nI rt), .int ex, .int ad, .ref (x + 3), .ref (x + 4), .int me, .long se, .ref (x + 5), .int (nI fl), .int dr, .long ob, .long sa, .long sn, .long us, .ref (x + 6), .ref (x + 7), .int (nI pe), .ref (x + 8), .int (nI le), .ref (x + 9), .ref (x + 10), .int (nI qu), .ref (x + 11), .ref (x + 12), .ref (x + 13), .ref (x + 14), .ref (x + 15), .ref (x + 16), .int (nI n_1), .long v_1, .ref (x + 17), .ref (x + 18), .ref (x + 19), .ref (x + 20), .ref (x + 21), .ref (x + 22), .int (nI n_2), .ref (x + 23), .ref (x + 24), .int (nI tk), .ref (x + 25), .int (nI il), .int (nI nx), .int ec, .int ep, .int kn, .int (nI st), .int nu, .long va]) := h_1
  refine z_put (ref := "FlowExporterModel") (C := RX12) (T := TX12) (N := 54) (ci := 14) (v := .int 0) B hu_X12_sampled_X12 tyX12 tyX12_ok nmX12 rfl 0 (Nat.le_of_ble_eq_true rfl) hv_X12_sampled_1 rfl (Or.inl rfl) h_2 hx rfl rfl (Nat.le_of_ble_eq_true rfl) dX12_sampled_2 (fun Φ1 hΦ1 => ?_)
  have h_3 : Φ1 x = some (o_ 14 [.int 0, .ref (x + 1), .ref (x + 2), .int ti, .int ra, .int (nI rt), .int ex, .int ad, .ref (x + 3), .ref (x + 4), .int me, .long se, .ref (x + 5), .int (nI fl), .int dr, .long ob, .long sa, .long sn, .long us, .ref (x + 6), .ref (x + 7), .int (nI pe), .ref (x + 8), .int (nI le), .ref (x + 9), .ref (x + 10), .int (nI qu), .ref (x + 11), .ref (x + 12), .ref (x + 13), .ref (x + 14), .ref (x + 15), .ref (x + 16), .int (nI n_1), .long v_1, .ref (x + 17), .ref (x + 18), .ref (x + 19), .ref (x + 20), .ref (x + 21), .ref (x + 22), .int (nI n_2), .ref (x + 23), .ref (x + 24), .int (nI tk), .ref (x + 25), .int (nI il), .int (nI nx), .int ec, .int ep, .int kn, .int (nI st), .int nu, .long va]) := fset_at hΦ1
  have hI1 : Im G x (rd, nw, cr, tp, tt, sI, sT, pt, ql, fl, pe, le, nx, il, qu, kn, ec, nu, va, st, ep, ti, ad, ob, ra, rt, ex, sa, us, tk, 0, me, dr, se, sn) Φ1 := Im.put0 hI hΦ1 ⟨n_1, v_1, n_2, rfl, b_13, b_1, b_2, b_3, b_4, b_5, b_6, b_7, b_8, b_9, b_10, b_11, b_12⟩
  refine z_aload_n B dX12_sampled_5 rfl 0 rfl ?_
  refine z_get (ref := "FlowExporterModel") (C := RX12) (T := TX12) (N := 54) (ci := 14) (v := .long sa) B hu_X12_sampled_X12 rfl 16 (Nat.le_of_ble_eq_true rfl) hv_X12_sampled_121 rfl h_3 rfl dX12_sampled_6 ?_
  exact z_ret_l B dX12_sampled_9 ⟨rfl, rfl, ⟨0, hI1⟩, (fun b9 h9 => ((fset_fr hΦ1 (fun h8 => h9 (0) h8 (show 0 = 0 by decide))).trans rfl))⟩

set_option maxHeartbeats 4000000 in
set_option maxRecDepth 100000 in
theorem r_unsentX (G : EnvG) (l : Launch) (Φ : Hm) (sz x : Nat) (rd : (Nat → Int32) → Prop) (nw : (Nat → Int32) → Prop) (cr : (Nat → Int64) → Prop) (tp : (Nat → Int32) → Prop) (tt : (Nat → Int64) → Prop) (sI : (Nat → Int32) → Prop) (sT : (Nat → Int32) → Prop) (pt : (Nat → Int32) → Prop) (ql : (Nat → Int32) → Prop) (fl : Nat) (pe : Nat) (le : Nat) (nx : Nat) (il : Nat) (qu : Nat) (kn : Int32) (ec : Int32) (nu : Int32) (va : Int64) (st : Nat) (ep : Int32) (ti : Int32) (ad : Int32) (ob : Int64) (ra : Int32) (rt : Nat) (ex : Int32) (sa : Int64) (us : Int64) (tk : Nat) (th : Int32) (me : Int32) (dr : Int32) (se : Int64) (sn : Int64)  (hx : G.2.2.2 ≤ x) (hI : Im G x (rd, nw, cr, tp, tt, sI, sT, pt, ql, fl, pe, le, nx, il, qu, kn, ec, nu, va, st, ep, ti, ad, ob, ra, rt, ex, sa, us, tk, th, me, dr, se, sn) Φ) (hnw : ∀ f9 : Nat → Int32, nw f9 → NN f9) : Ct G l yX12_unsent wsX12_unsent ({ frames := 0, cells := 0, slots := 0, locals := 0 }) 0 0 [.ref x] Φ sz (fun v Φ1 sz1 => (v = some (.long us)) ∧ sz1 = sz ∧ (∃ (th1 : Int32), Im G x (rd, nw, cr, tp, tt, sI, sT, pt, ql, fl, pe, le, nx, il, qu, kn, ec, nu, va, st, ep, ti, ad, ob, ra, rt, ex, sa, us, tk, th1, me, dr, se, sn) Φ1) ∧ Fr x (fun j9 => j9 = 0) Φ Φ1) := by
  refine Ct.of (cc := cX12_unsent) (maxL := 1) (ret := (some .long)) (by decide) rfl (Nat.le_of_ble_eq_true rfl) ?_
  intro p9 e9 s9 m9 w9 t9 k9 B
  show Z p9 l e9 _ s9 m9 _ w9 t9 k9 _ G 1 0 [(0, .ref x)] [] Φ sz 0 0
  refine z_aload_n B dX12_unsent_0 rfl 0 rfl ?_
  refine z_iconst (v := 0) B dX12_unsent_1 rfl ?_
  obtain ⟨n_1, v_1, n_2, h_1, b_13, b_1, b_2, b_3, b_4, b_5, b_6, b_7, b_8, b_9, b_10, b_11, b_12⟩ := im0 hI
  replace b_1 : 1 ≤ rt := b_1
  replace b_2 : rt ≤ 1024 := b_2
  replace b_3 : fl ≤ 12 := b_3
  replace b_4 : pe ≤ 24 := b_4
  replace b_5 : le ≤ 700 := b_5
  replace b_6 : qu ≤ 12 := b_6
  replace b_7 : n_1 ≤ 8 := b_7
  replace b_8 : n_2 ≤ 24 := b_8
  replace b_9 : tk ≤ 24 := b_9
  replace b_10 : il ≤ 700 := b_10
  replace b_11 : nx ≤ 701 := b_11
  replace b_12 : st ≤ 701 := b_12
  have h_2 : Φ x = some (o_ 14 [.int th, .ref (x + 1), .ref (x + 2), .int ti, .int ra, .int (nI rt), .int ex, .int ad, .ref (x + 3), .ref (x + 4), .int me, .long se, .ref (x + 5), .int (nI fl), .int dr, .long ob, .long sa, .long sn, .long us, .ref (x + 6), .ref (x + 7), .int (nI pe), .ref (x + 8), .int (nI le), .ref (x + 9), .ref (x + 10), .int (nI qu), .ref (x + 11), .ref (x + 12), .ref (x + 13), .ref (x + 14), .ref (x + 15), .ref (x + 16), .int (nI n_1), .long v_1, .ref (x + 17), .ref (x + 18), .ref (x + 19), .ref (x + 20), .ref (x + 21), .ref (x + 22), .int (nI n_2), .ref (x + 23), .ref (x + 24), .int (nI tk), .ref (x + 25), .int (nI il), .int (nI nx), .int ec, .int ep, .int kn, .int (nI st), .int nu, .long va]) := h_1
  refine z_put (ref := "FlowExporterModel") (C := RX12) (T := TX12) (N := 54) (ci := 14) (v := .int 0) B hu_X12_unsent_X12 tyX12 tyX12_ok nmX12 rfl 0 (Nat.le_of_ble_eq_true rfl) hv_X12_unsent_1 rfl (Or.inl rfl) h_2 hx rfl rfl (Nat.le_of_ble_eq_true rfl) dX12_unsent_2 (fun Φ1 hΦ1 => ?_)
  have h_3 : Φ1 x = some (o_ 14 [.int 0, .ref (x + 1), .ref (x + 2), .int ti, .int ra, .int (nI rt), .int ex, .int ad, .ref (x + 3), .ref (x + 4), .int me, .long se, .ref (x + 5), .int (nI fl), .int dr, .long ob, .long sa, .long sn, .long us, .ref (x + 6), .ref (x + 7), .int (nI pe), .ref (x + 8), .int (nI le), .ref (x + 9), .ref (x + 10), .int (nI qu), .ref (x + 11), .ref (x + 12), .ref (x + 13), .ref (x + 14), .ref (x + 15), .ref (x + 16), .int (nI n_1), .long v_1, .ref (x + 17), .ref (x + 18), .ref (x + 19), .ref (x + 20), .ref (x + 21), .ref (x + 22), .int (nI n_2), .ref (x + 23), .ref (x + 24), .int (nI tk), .ref (x + 25), .int (nI il), .int (nI nx), .int ec, .int ep, .int kn, .int (nI st), .int nu, .long va]) := fset_at hΦ1
  have hI1 : Im G x (rd, nw, cr, tp, tt, sI, sT, pt, ql, fl, pe, le, nx, il, qu, kn, ec, nu, va, st, ep, ti, ad, ob, ra, rt, ex, sa, us, tk, 0, me, dr, se, sn) Φ1 := Im.put0 hI hΦ1 ⟨n_1, v_1, n_2, rfl, b_13, b_1, b_2, b_3, b_4, b_5, b_6, b_7, b_8, b_9, b_10, b_11, b_12⟩
  refine z_aload_n B dX12_unsent_5 rfl 0 rfl ?_
  refine z_get (ref := "FlowExporterModel") (C := RX12) (T := TX12) (N := 54) (ci := 14) (v := .long us) B hu_X12_unsent_X12 rfl 18 (Nat.le_of_ble_eq_true rfl) hv_X12_unsent_127 rfl h_3 rfl dX12_unsent_6 ?_
  exact z_ret_l B dX12_unsent_9 ⟨rfl, rfl, ⟨0, hI1⟩, (fun b9 h9 => ((fset_fr hΦ1 (fun h8 => h9 (0) h8 (show 0 = 0 by decide))).trans rfl))⟩

set_option maxHeartbeats 4000000 in
set_option maxRecDepth 100000 in
theorem r_restartExporterX (G : EnvG) (l : Launch) (Φ : Hm) (sz x : Nat) (rd : (Nat → Int32) → Prop) (nw : (Nat → Int32) → Prop) (tp : (Nat → Int32) → Prop) (tt : (Nat → Int64) → Prop) (sI : (Nat → Int32) → Prop) (sT : (Nat → Int32) → Prop) (pt : (Nat → Int32) → Prop) (ql : (Nat → Int32) → Prop) (fl : Nat) (pe : Nat) (le : Nat) (nx : Nat) (il : Nat) (qu : Nat) (kn : Int32) (ec : Int32) (nu : Int32) (va : Int64) (st : Nat) (ep : Int32) (ti : Int32) (ad : Int32) (ob : Int64) (ra : Int32) (rt : Nat) (ex : Int32) (sa : Int64) (us : Int64) (tk : Nat) (th : Int32) (me : Int32) (dr : Int32) (se : Int64) (sn : Int64) (Fs : Nat → Fl) (hx : G.2.2.2 ≤ x) (hI : Im G x (rd, nw, (CaQ fl Fs), tp, tt, sI, sT, pt, ql, fl, pe, le, nx, il, qu, kn, ec, nu, va, st, ep, ti, ad, ob, ra, rt, ex, sa, us, tk, th, me, dr, se, sn) Φ) (hnw : ∀ f9 : Nat → Int32, nw f9 → NN f9) : Ct G l yX12_restartExporter wsX12_restartExporter ({ frames := 1, cells := 0, slots := 0, locals := 21 }) 0 0 [.ref x] Φ sz (fun v Φ1 sz1 => (v = some (.int (nI fl))) ∧ sz1 = sz ∧ (∃ (th1 : Int32), Im G x (rd, nw, (CaQ 0 Fs), tp, tt, (SiQ (fun _ => 0)), sT, pt, ql, 0, 0, le, nx, il, qu, kn, ec, nu, va, st, ep, ti, ad, ob, ra, rt, ex, sa, us, tk, th1, me, dr, 0, sn) Φ1) ∧ Fr x (fun j9 => j9 = 0 ∨ j9 = 3) Φ Φ1) := by
  refine Ct.of (cc := cX12_restartExporter) (maxL := 2) (ret := (some .int)) (by decide) rfl (Nat.le_of_ble_eq_true rfl) ?_
  intro p9 e9 s9 m9 w9 t9 k9 B
  show Z p9 l e9 _ s9 m9 _ w9 t9 k9 _ G 2 0 [(0, .ref x)] [] Φ sz 0 0
  refine z_aload_n B dX12_restartExporter_0 rfl 0 rfl ?_
  refine z_iconst (v := 0) B dX12_restartExporter_1 rfl ?_
  obtain ⟨n_1, v_1, n_2, h_1, b_13, b_1, b_2, b_3, b_4, b_5, b_6, b_7, b_8, b_9, b_10, b_11, b_12⟩ := im0 hI
  replace b_1 : 1 ≤ rt := b_1
  replace b_2 : rt ≤ 1024 := b_2
  replace b_3 : fl ≤ 12 := b_3
  replace b_4 : pe ≤ 24 := b_4
  replace b_5 : le ≤ 700 := b_5
  replace b_6 : qu ≤ 12 := b_6
  replace b_7 : n_1 ≤ 8 := b_7
  replace b_8 : n_2 ≤ 24 := b_8
  replace b_9 : tk ≤ 24 := b_9
  replace b_10 : il ≤ 700 := b_10
  replace b_11 : nx ≤ 701 := b_11
  replace b_12 : st ≤ 701 := b_12
  have h_2 : Φ x = some (o_ 14 [.int th, .ref (x + 1), .ref (x + 2), .int ti, .int ra, .int (nI rt), .int ex, .int ad, .ref (x + 3), .ref (x + 4), .int me, .long se, .ref (x + 5), .int (nI fl), .int dr, .long ob, .long sa, .long sn, .long us, .ref (x + 6), .ref (x + 7), .int (nI pe), .ref (x + 8), .int (nI le), .ref (x + 9), .ref (x + 10), .int (nI qu), .ref (x + 11), .ref (x + 12), .ref (x + 13), .ref (x + 14), .ref (x + 15), .ref (x + 16), .int (nI n_1), .long v_1, .ref (x + 17), .ref (x + 18), .ref (x + 19), .ref (x + 20), .ref (x + 21), .ref (x + 22), .int (nI n_2), .ref (x + 23), .ref (x + 24), .int (nI tk), .ref (x + 25), .int (nI il), .int (nI nx), .int ec, .int ep, .int kn, .int (nI st), .int nu, .long va]) := h_1
  refine z_put (ref := "FlowExporterModel") (C := RX12) (T := TX12) (N := 54) (ci := 14) (v := .int 0) B hu_X12_restartExporter_X12 tyX12 tyX12_ok nmX12 rfl 0 (Nat.le_of_ble_eq_true rfl) hv_X12_restartExporter_1 rfl (Or.inl rfl) h_2 hx rfl rfl (Nat.le_of_ble_eq_true rfl) dX12_restartExporter_2 (fun Φ1 hΦ1 => ?_)
  have h_3 : Φ1 x = some (o_ 14 [.int 0, .ref (x + 1), .ref (x + 2), .int ti, .int ra, .int (nI rt), .int ex, .int ad, .ref (x + 3), .ref (x + 4), .int me, .long se, .ref (x + 5), .int (nI fl), .int dr, .long ob, .long sa, .long sn, .long us, .ref (x + 6), .ref (x + 7), .int (nI pe), .ref (x + 8), .int (nI le), .ref (x + 9), .ref (x + 10), .int (nI qu), .ref (x + 11), .ref (x + 12), .ref (x + 13), .ref (x + 14), .ref (x + 15), .ref (x + 16), .int (nI n_1), .long v_1, .ref (x + 17), .ref (x + 18), .ref (x + 19), .ref (x + 20), .ref (x + 21), .ref (x + 22), .int (nI n_2), .ref (x + 23), .ref (x + 24), .int (nI tk), .ref (x + 25), .int (nI il), .int (nI nx), .int ec, .int ep, .int kn, .int (nI st), .int nu, .long va]) := fset_at hΦ1
  have hI1 : Im G x (rd, nw, (CaQ fl Fs), tp, tt, sI, sT, pt, ql, fl, pe, le, nx, il, qu, kn, ec, nu, va, st, ep, ti, ad, ob, ra, rt, ex, sa, us, tk, 0, me, dr, se, sn) Φ1 := Im.put0 hI hΦ1 ⟨n_1, v_1, n_2, rfl, b_13, b_1, b_2, b_3, b_4, b_5, b_6, b_7, b_8, b_9, b_10, b_11, b_12⟩
  refine z_aload_n B dX12_restartExporter_5 rfl 0 rfl ?_
  refine z_get (ref := "FlowExporterModel") (C := RX12) (T := TX12) (N := 54) (ci := 14) (v := .int (nI fl)) B hu_X12_restartExporter_X12 rfl 13 (Nat.le_of_ble_eq_true rfl) hv_X12_restartExporter_133 rfl h_3 rfl dX12_restartExporter_6 ?_
  refine z_istore_n (lv' := [(1, .int (nI fl)), (0, .ref x)]) B dX12_restartExporter_9 rfl (Nat.le_of_ble_eq_true rfl) rfl ?_
  refine z_aload_n B dX12_restartExporter_10 rfl 1 rfl ?_
  refine z_callV (As := []) (rest := []) B (r_startExporter G l Φ1 sz x rd nw (CaQ fl Fs) tp tt sI sT pt ql fl pe le nx il qu kn ec nu va st ep ti ad ob ra rt ex sa us tk 0 me dr se sn  hx hI1 hnw) (cwV 0 B.1.2.2.2.2 gX12_restartExporter_X12_startExporter rfl rfl rfl (by decide +kernel) ⟨Nat.le_of_ble_eq_true rfl, Nat.le_of_ble_eq_true rfl⟩) h_3 rfl rfl rfl rfl (Nat.le_of_ble_eq_true rfl) dX12_restartExporter_11 ⟨Nat.le_of_ble_eq_true rfl, Nat.le_of_ble_eq_true rfl⟩ (fun r_1 Φ2 sz1 st1 hp1 hs1 => ?_)
  obtain ⟨rfl, hq1, hI2, hF1⟩ := hp1
  subst sz1
  replace hs1 : st1 = [] := hs1
  subst st1
  replace hI2 : Im G x (rd, nw, (CaQ fl Fs), tp, tt, SiQ (fun _ => 0), sT, pt, ql, 0, 0, le, nx, il, qu, kn, ec, nu, va, st, ep, ti, ad, ob, ra, rt, ex, sa, us, tk, 0, me, dr, 0, sn) Φ2 := hI2
  have hI3 : Im G x (rd, nw, (CaQ 0 Fs), tp, tt, SiQ (fun _ => 0), sT, pt, ql, 0, 0, le, nx, il, qu, kn, ec, nu, va, st, ep, ti, ad, ob, ra, rt, ex, sa, us, tk, 0, me, dr, 0, sn) Φ2 := Im.weak5 hI2 (fun _ q9 => q9) (fun _ q9 => q9) (fun _ q9 => CaQ.less q9 (Nat.zero_le _)) (fun _ q9 => q9) (fun _ q9 => q9) (fun _ q9 => q9) (fun _ q9 => q9) (fun _ q9 => q9) (fun _ q9 => q9)
  refine z_iload_n B dX12_restartExporter_14 rfl 0 rfl ?_
  exact z_ret_i B dX12_restartExporter_15 ⟨rfl, rfl, ⟨0, hI3⟩, (fun b9 h9 => ((hF1 b9 h9).trans ((fset_fr hΦ1 (fun h8 => h9 (0) h8 (show 0 = 0 ∨ 0 = 3 by decide))).trans rfl)))⟩

theorem trO_f {K n w p : Nat} {F : Nat → Fl} {f : Nat → Int64} (h : TtQ n F f) (hi : ixN F K n < n) (hw : w < 2) (hp : p = 2 * ixN F K n + w) : f p = trL K (nI w) (n, F) := by
  subst hp
  rw [trL_f hi]
  rcases (show w = 0 ∨ w = 1 by omega) with rfl | rfl
  · rw [if_pos (by decide)]
    exact (h _ hi).1
  · rw [if_neg (by decide)]
    exact (h _ hi).2

theorem hu_X12_truthOf_X12 : ∀ w ∈ u_ws RX12 TX12 54, w ∈ wsX12_truthOf := fun _ h => List.mem_cons_of_mem _ (List.mem_append_left _ (List.mem_append_right _ (h)))

theorem hv_X12_truthOf_85 : Cond.fieldLink RX12 85 "FlowExporterModel" (TX12 43).2.1 (TX12 43).2.2.1 ∈ wsX12_truthOf := List.mem_cons_of_mem _ (List.mem_append_left _ (List.mem_append_left _ (List.mem_of_getElem? (i := 0) rfl)))

set_option maxHeartbeats 4000000 in
set_option maxRecDepth 100000 in
theorem r_truthOfX (G : EnvG) (l : Launch) (Φ : Hm) (sz x : Nat) (rd : (Nat → Int32) → Prop) (nw : (Nat → Int32) → Prop) (cr : (Nat → Int64) → Prop) (sI : (Nat → Int32) → Prop) (sT : (Nat → Int32) → Prop) (pt : (Nat → Int32) → Prop) (ql : (Nat → Int32) → Prop) (fl : Nat) (pe : Nat) (le : Nat) (nx : Nat) (il : Nat) (qu : Nat) (kn : Int32) (ec : Int32) (nu : Int32) (va : Int64) (st : Nat) (ep : Int32) (ti : Int32) (ad : Int32) (ob : Int64) (ra : Int32) (rt : Nat) (ex : Int32) (sa : Int64) (us : Int64) (tk : Nat) (th : Int32) (me : Int32) (dr : Int32) (se : Int64) (sn : Int64) (Ft : Nat → Fl) (a : Int32) (b : Int32) (d : Int32) (f : Int32) (w : Nat) (hx : G.2.2.2 ≤ x) (hI : Im G x (rd, nw, cr, (TpQ tk Ft), (TtQ tk Ft), sI, sT, pt, ql, fl, pe, le, nx, il, qu, kn, ec, nu, va, st, ep, ti, ad, ob, ra, rt, ex, sa, us, tk, th, me, dr, se, sn) Φ) (hw : w < 2) (hk : KyP a b d f) (hnw : ∀ f9 : Nat → Int32, nw f9 → NN f9) : Ct G l yX12_truthOf wsX12_truthOf ({ frames := 2, cells := 0, slots := 0, locals := 54 }) 0 0 [.ref x, .int a, .int b, .int d, .int f, .int (nI w)] Φ sz (fun v Φ1 sz1 => (v = some (.long (trL (kyN a b d f) (nI w) (tk, Ft)))) ∧ sz1 = sz ∧ (Im G x (rd, nw, cr, (TpQ tk Ft), (TtQ tk Ft), sI, sT, pt, ql, fl, pe, le, nx, il, qu, kn, ec, nu, va, st, ep, ti, ad, ob, ra, rt, ex, sa, us, tk, th, me, dr, se, sn) Φ1) ∧ Fr x (fun j9 => False) Φ Φ1) := by
  refine Ct.of (cc := cX12_truthOf) (maxL := 7) (ret := (some .long)) (by decide) rfl (Nat.le_of_ble_eq_true rfl) ?_
  intro p9 e9 s9 m9 w9 t9 k9 B
  show Z p9 l e9 _ s9 m9 _ w9 t9 k9 _ G 7 0 [(0, .ref x), (1, .int a), (2, .int b), (3, .int d), (4, .int f), (5, .int (nI w))] [] Φ sz 0 0
  obtain ⟨f_1, h_1, r_1⟩ := imk (k := 24) hI
  replace r_1 : (TtQ tk Ft) f_1 := r_1
  have h_2 : Φ (x + 24) = some (al_ G 48 f_1) := h_1
  refine z_aload_n B dX12_truthOf_0 rfl 0 rfl ?_
  refine z_iload_n B dX12_truthOf_1 rfl 1 rfl ?_
  refine z_iload_n B dX12_truthOf_2 rfl 2 rfl ?_
  refine z_iload_n B dX12_truthOf_3 rfl 3 rfl ?_
  refine z_iload B dX12_truthOf_4 4 rfl ?_
  obtain ⟨n_1, v_1, n_2, h_3, b_13, b_1, b_2, b_3, b_4, b_5, b_6, b_7, b_8, b_9, b_10, b_11, b_12⟩ := im0 hI
  replace b_1 : 1 ≤ rt := b_1
  replace b_2 : rt ≤ 1024 := b_2
  replace b_3 : fl ≤ 12 := b_3
  replace b_4 : pe ≤ 24 := b_4
  replace b_5 : le ≤ 700 := b_5
  replace b_6 : qu ≤ 12 := b_6
  replace b_7 : n_1 ≤ 8 := b_7
  replace b_8 : n_2 ≤ 24 := b_8
  replace b_9 : tk ≤ 24 := b_9
  replace b_10 : il ≤ 700 := b_10
  replace b_11 : nx ≤ 701 := b_11
  replace b_12 : st ≤ 701 := b_12
  have h_4 : Φ x = some (o_ 14 [.int th, .ref (x + 1), .ref (x + 2), .int ti, .int ra, .int (nI rt), .int ex, .int ad, .ref (x + 3), .ref (x + 4), .int me, .long se, .ref (x + 5), .int (nI fl), .int dr, .long ob, .long sa, .long sn, .long us, .ref (x + 6), .ref (x + 7), .int (nI pe), .ref (x + 8), .int (nI le), .ref (x + 9), .ref (x + 10), .int (nI qu), .ref (x + 11), .ref (x + 12), .ref (x + 13), .ref (x + 14), .ref (x + 15), .ref (x + 16), .int (nI n_1), .long v_1, .ref (x + 17), .ref (x + 18), .ref (x + 19), .ref (x + 20), .ref (x + 21), .ref (x + 22), .int (nI n_2), .ref (x + 23), .ref (x + 24), .int (nI tk), .ref (x + 25), .int (nI il), .int (nI nx), .int ec, .int ep, .int kn, .int (nI st), .int nu, .long va]) := h_3
  refine z_callV (As := [.int a, .int b, .int d, .int f]) (rest := []) B (r_trueKeyOfX G l Φ sz x rd nw cr (TtQ tk Ft) sI sT pt ql fl pe le nx il qu kn ec nu va st ep ti ad ob ra rt ex sa us tk th me dr se sn Ft a b d f hx hI hk hnw) (cwV 4 B.1.2.2.2.2 gX12_truthOf_X12_trueKeyOf rfl rfl rfl (by decide +kernel) ⟨Nat.le_of_ble_eq_true rfl, Nat.le_of_ble_eq_true rfl⟩) h_4 rfl rfl rfl rfl (Nat.le_of_ble_eq_true rfl) dX12_truthOf_6 ⟨Nat.le_of_ble_eq_true rfl, Nat.le_of_ble_eq_true rfl⟩ (fun r_2 Φ1 sz1 st1 hp1 hs1 => ?_)
  obtain ⟨ha1, hq1, hI1, hF1⟩ := hp1
  subst sz1
  replace hI1 : Im G x (rd, nw, cr, (TpQ tk Ft), (TtQ tk Ft), sI, sT, pt, ql, fl, pe, le, nx, il, qu, kn, ec, nu, va, st, ep, ti, ad, ob, ra, rt, ex, sa, us, tk, th, me, dr, se, sn) Φ1 := hI1
  rcases ha1 with ⟨rfl, e_1⟩ | ⟨rfl, e_2⟩
  · replace hs1 : st1 = [.int (-1)] := hs1
    subst st1
    replace e_1 : ¬ ixN Ft (kyN a b d f) tk < tk := e_1
    refine z_istore (lv' := [(6, .int (-1)), (0, .ref x), (1, .int a), (2, .int b), (3, .int d), (4, .int f), (5, .int (nI w))]) B dX12_truthOf_9 (Nat.le_of_ble_eq_true rfl) rfl ?_
    refine z_iload B dX12_truthOf_11 0 rfl ?_
    refine z_iconst (v := (-1)) B dX12_truthOf_13 rfl ?_
    refine z_icmp_ne (tgt := 21) B dX12_truthOf_14 rfl (fun h9 => absurd (by decide) h9) (fun c_1 => ?_)
    refine z_lconst (v := 0) B dX12_truthOf_17 rfl ?_
    refine z_goto (tgt := 33) B dX12_truthOf_18 rfl ?_
    exact z_ret_l B dX12_truthOf_33 ⟨(congrArg (fun w9 : Int64 => some (Value.long w9)) (trL_n e_1).symm), rfl, hI1, (fun b9 h9 => ((hF1 b9 (fun j9 h8 h7 => (show False from h7).elim)).trans rfl))⟩
  · replace hs1 : st1 = [.int (nI (ixN Ft (kyN a b d f) tk))] := hs1
    subst st1
    replace e_2 : ixN Ft (kyN a b d f) tk < tk := e_2
    refine z_istore (lv' := [(6, .int (nI (ixN Ft (kyN a b d f) tk))), (0, .ref x), (1, .int a), (2, .int b), (3, .int d), (4, .int f), (5, .int (nI w))]) B dX12_truthOf_9 (Nat.le_of_ble_eq_true rfl) rfl ?_
    refine z_iload B dX12_truthOf_11 0 rfl ?_
    refine z_iconst (v := (-1)) B dX12_truthOf_13 rfl ?_
    refine z_icmp_ne (tgt := 21) B dX12_truthOf_14 rfl (fun c_2 => ?_) (fun h9 => absurd h9 (nI_nm1 (n := ixN Ft (kyN a b d f) tk) (by omega)))
    refine z_aload_n B dX12_truthOf_21 rfl 1 rfl ?_
    have h_5 : Φ1 x = some (o_ 14 [.int th, .ref (x + 1), .ref (x + 2), .int ti, .int ra, .int (nI rt), .int ex, .int ad, .ref (x + 3), .ref (x + 4), .int me, .long se, .ref (x + 5), .int (nI fl), .int dr, .long ob, .long sa, .long sn, .long us, .ref (x + 6), .ref (x + 7), .int (nI pe), .ref (x + 8), .int (nI le), .ref (x + 9), .ref (x + 10), .int (nI qu), .ref (x + 11), .ref (x + 12), .ref (x + 13), .ref (x + 14), .ref (x + 15), .ref (x + 16), .int (nI n_1), .long v_1, .ref (x + 17), .ref (x + 18), .ref (x + 19), .ref (x + 20), .ref (x + 21), .ref (x + 22), .int (nI n_2), .ref (x + 23), .ref (x + 24), .int (nI tk), .ref (x + 25), .int (nI il), .int (nI nx), .int ec, .int ep, .int kn, .int (nI st), .int nu, .long va]) := ((hF1 x (fun j9 h8 h7 => (show False from h7).elim)).trans h_4)
    refine z_get (ref := "FlowExporterModel") (C := RX12) (T := TX12) (N := 54) (ci := 14) (v := .ref (x + 24)) B hu_X12_truthOf_X12 rfl 43 (Nat.le_of_ble_eq_true rfl) hv_X12_truthOf_85 rfl h_5 rfl dX12_truthOf_22 ?_
    refine z_iconst (v := 2) B dX12_truthOf_25 rfl ?_
    refine z_iload B dX12_truthOf_26 0 rfl ?_
    refine z_imul B dX12_truthOf_28 ?_
    refine z_top (st1 := [.int (nI (2 * (ixN Ft (kyN a b d f) tk))), .ref (x + 24)]) (congrArg (fun w9 : Int32 => ([.int w9, .ref (x + 24)] : List Value)) (nI_mul 2 (ixN Ft (kyN a b d f) tk))) ?_
    refine z_iload B dX12_truthOf_29 6 rfl ?_
    refine z_iadd B dX12_truthOf_31 ?_
    refine z_top (st1 := [.int (nI (2 * (ixN Ft (kyN a b d f) tk) + w)), .ref (x + 24)]) (congrArg (fun w9 : Int32 => ([.int w9, .ref (x + 24)] : List Value)) (nI_add (2 * (ixN Ft (kyN a b d f) tk)) w)) ?_
    have h_6 : Φ1 (x + 24) = some (al_ G 48 f_1) := ((hF1 (x + 24) (fun j9 h8 h7 => (show False from h7).elim)).trans h_2)
    refine z_lald B h_6 (vp_in_nI (by omega) (by omega)) dX12_truthOf_32 ?_
    exact z_ret_l B dX12_truthOf_33 ⟨(congrArg (fun w9 : Int64 => some (Value.long w9)) (trO_f r_1 e_2 hw (nI_clamp (by omega)))), rfl, hI1, (fun b9 h9 => ((hF1 b9 (fun j9 h8 h7 => (show False from h7).elim)).trans rfl))⟩

set_option maxHeartbeats 4000000 in
set_option maxRecDepth 100000 in
theorem r_cachedX (G : EnvG) (l : Launch) (Φ : Hm) (sz x : Nat) (rd : (Nat → Int32) → Prop) (nw : (Nat → Int32) → Prop) (tp : (Nat → Int32) → Prop) (tt : (Nat → Int64) → Prop) (sI : (Nat → Int32) → Prop) (sT : (Nat → Int32) → Prop) (pt : (Nat → Int32) → Prop) (ql : (Nat → Int32) → Prop) (fl : Nat) (pe : Nat) (le : Nat) (nx : Nat) (il : Nat) (qu : Nat) (kn : Int32) (ec : Int32) (nu : Int32) (va : Int64) (st : Nat) (ep : Int32) (ti : Int32) (ad : Int32) (ob : Int64) (ra : Int32) (rt : Nat) (ex : Int32) (sa : Int64) (us : Int64) (tk : Nat) (th : Int32) (me : Int32) (dr : Int32) (se : Int64) (sn : Int64) (Fs : Nat → Fl) (a : Int32) (b : Int32) (hx : G.2.2.2 ≤ x) (hI : Im G x (rd, nw, (CaQ fl Fs), tp, tt, sI, sT, pt, ql, fl, pe, le, nx, il, qu, kn, ec, nu, va, st, ep, ti, ad, ob, ra, rt, ex, sa, us, tk, th, me, dr, se, sn) Φ) (hnw : ∀ f9 : Nat → Int32, nw f9 → NN f9) : Ct G l yX12_cached wsX12_cached ({ frames := 1, cells := 0, slots := 0, locals := 25 }) 0 0 [.ref x, .int a, .int b] Φ sz (fun v Φ1 sz1 => (∃ (r9 : Int64) (th9 : Int32) (l9 : List Value), v = some (.long r9) ∧ Φ1 x = some (o_ 14 (.int th9 :: l9)) ∧ AnsR (Ca1 fl a) (Ca2 b) (vlL (Fs a.toNatClampNeg) b.toNatClampNeg) th9 r9) ∧ sz1 = sz ∧ (∃ (th1 : Int32), Im G x (rd, nw, (CaQ fl Fs), tp, tt, sI, sT, pt, ql, fl, pe, le, nx, il, qu, kn, ec, nu, va, st, ep, ti, ad, ob, ra, rt, ex, sa, us, tk, th1, me, dr, se, sn) Φ1) ∧ Fr x (fun j9 => j9 = 0) Φ Φ1) := by
  refine Ct.of (cc := cX12_cached) (maxL := 3) (ret := (some .long)) (by decide) rfl (Nat.le_of_ble_eq_true rfl) ?_
  intro p9 e9 s9 m9 w9 t9 k9 B
  show Z p9 l e9 _ s9 m9 _ w9 t9 k9 _ G 3 0 [(0, .ref x), (1, .int a), (2, .int b)] [] Φ sz 0 0
  refine z_aload_n B dX12_cached_0 rfl 0 rfl ?_
  refine z_iconst (v := 0) B dX12_cached_1 rfl ?_
  obtain ⟨n_1, v_1, n_2, h_1, b_13, b_1, b_2, b_3, b_4, b_5, b_6, b_7, b_8, b_9, b_10, b_11, b_12⟩ := im0 hI
  replace b_1 : 1 ≤ rt := b_1
  replace b_2 : rt ≤ 1024 := b_2
  replace b_3 : fl ≤ 12 := b_3
  replace b_4 : pe ≤ 24 := b_4
  replace b_5 : le ≤ 700 := b_5
  replace b_6 : qu ≤ 12 := b_6
  replace b_7 : n_1 ≤ 8 := b_7
  replace b_8 : n_2 ≤ 24 := b_8
  replace b_9 : tk ≤ 24 := b_9
  replace b_10 : il ≤ 700 := b_10
  replace b_11 : nx ≤ 701 := b_11
  replace b_12 : st ≤ 701 := b_12
  have h_2 : Φ x = some (o_ 14 [.int th, .ref (x + 1), .ref (x + 2), .int ti, .int ra, .int (nI rt), .int ex, .int ad, .ref (x + 3), .ref (x + 4), .int me, .long se, .ref (x + 5), .int (nI fl), .int dr, .long ob, .long sa, .long sn, .long us, .ref (x + 6), .ref (x + 7), .int (nI pe), .ref (x + 8), .int (nI le), .ref (x + 9), .ref (x + 10), .int (nI qu), .ref (x + 11), .ref (x + 12), .ref (x + 13), .ref (x + 14), .ref (x + 15), .ref (x + 16), .int (nI n_1), .long v_1, .ref (x + 17), .ref (x + 18), .ref (x + 19), .ref (x + 20), .ref (x + 21), .ref (x + 22), .int (nI n_2), .ref (x + 23), .ref (x + 24), .int (nI tk), .ref (x + 25), .int (nI il), .int (nI nx), .int ec, .int ep, .int kn, .int (nI st), .int nu, .long va]) := h_1
  refine z_put (ref := "FlowExporterModel") (C := RX12) (T := TX12) (N := 54) (ci := 14) (v := .int 0) B hu_X12_cached_X12 tyX12 tyX12_ok nmX12 rfl 0 (Nat.le_of_ble_eq_true rfl) hv_X12_cached_1 rfl (Or.inl rfl) h_2 hx rfl rfl (Nat.le_of_ble_eq_true rfl) dX12_cached_2 (fun Φ1 hΦ1 => ?_)
  have h_3 : Φ1 x = some (o_ 14 [.int 0, .ref (x + 1), .ref (x + 2), .int ti, .int ra, .int (nI rt), .int ex, .int ad, .ref (x + 3), .ref (x + 4), .int me, .long se, .ref (x + 5), .int (nI fl), .int dr, .long ob, .long sa, .long sn, .long us, .ref (x + 6), .ref (x + 7), .int (nI pe), .ref (x + 8), .int (nI le), .ref (x + 9), .ref (x + 10), .int (nI qu), .ref (x + 11), .ref (x + 12), .ref (x + 13), .ref (x + 14), .ref (x + 15), .ref (x + 16), .int (nI n_1), .long v_1, .ref (x + 17), .ref (x + 18), .ref (x + 19), .ref (x + 20), .ref (x + 21), .ref (x + 22), .int (nI n_2), .ref (x + 23), .ref (x + 24), .int (nI tk), .ref (x + 25), .int (nI il), .int (nI nx), .int ec, .int ep, .int kn, .int (nI st), .int nu, .long va]) := fset_at hΦ1
  have hI1 : Im G x (rd, nw, (CaQ fl Fs), tp, tt, sI, sT, pt, ql, fl, pe, le, nx, il, qu, kn, ec, nu, va, st, ep, ti, ad, ob, ra, rt, ex, sa, us, tk, 0, me, dr, se, sn) Φ1 := Im.put0 hI hΦ1 ⟨n_1, v_1, n_2, rfl, b_13, b_1, b_2, b_3, b_4, b_5, b_6, b_7, b_8, b_9, b_10, b_11, b_12⟩
  refine z_aload_n B dX12_cached_5 rfl 0 rfl ?_
  refine z_iload_n B dX12_cached_6 rfl 1 rfl ?_
  refine z_i2l (v := a.toInt64) B dX12_cached_7 rfl ?_
  refine z_lconst (v := 0) B dX12_cached_8 rfl ?_
  refine z_aload_n B dX12_cached_9 rfl 0 rfl ?_
  refine z_get (ref := "FlowExporterModel") (C := RX12) (T := TX12) (N := 54) (ci := 14) (v := .int (nI fl)) B hu_X12_cached_X12 rfl 13 (Nat.le_of_ble_eq_true rfl) hv_X12_cached_133 rfl h_3 rfl dX12_cached_10 ?_
  refine z_iconst (v := 1) B dX12_cached_13 rfl ?_
  refine z_isub B dX12_cached_14 ?_
  refine z_i2l (v := (nI fl - 1).toInt64) B dX12_cached_15 rfl ?_
  by_cases hR1 : inP a.toInt64 0 ((nI fl - 1).toInt64)
  · obtain ⟨n_3, e_1, e_2, e_3, rfl⟩ := in_get (L := 0) (H := ((fl : Nat) : Int) - 1) (by decide) (predL (by omega)) hR1
    refine z_callS (As := [.long ((nI n_3).toInt64), .long 0, .long ((nI fl - 1).toInt64)]) (rest := [.ref x]) B (c_inR1 G l Φ1 sz ((nI n_3).toInt64) 0 ((nI fl - 1).toInt64) hR1 (fun v8 Φ8 sz8 => v8 = some (.int 1) ∧ sz8 = sz ∧ Im G x (rd, nw, (CaQ fl Fs), tp, tt, sI, sT, pt, ql, fl, pe, le, nx, il, qu, kn, ec, nu, va, st, ep, ti, ad, ob, ra, rt, ex, sa, us, tk, 0, me, dr, se, sn) Φ8 ∧ Fr x (fun j9 => False) Φ1 Φ8) ⟨rfl, rfl, hI1, fun _ _ => rfl⟩) (va_cwS 3 B.1.2.2.2.2 gX12_cached_X12_inRange rfl rfl rfl (by decide +kernel) ⟨Nat.le_of_ble_eq_true rfl, Nat.le_of_ble_eq_true rfl⟩) rfl rfl (Nat.le_of_ble_eq_true rfl) dX12_cached_16 ⟨Nat.le_of_ble_eq_true rfl, Nat.le_of_ble_eq_true rfl⟩ (fun r_1 Φ2 sz1 st1 hp1 hs1 => ?_)
    obtain ⟨rfl, hq1, hI2, hF1⟩ := hp1
    subst sz1
    replace hs1 : st1 = [.int 1, .ref x] := hs1
    subst st1
    refine z_if_ne (tgt := 26) B dX12_cached_19 rfl (fun c_1 => ?_) (fun h9 => absurd h9 (by decide))
    refine z_iconst (v := 0) B dX12_cached_26 rfl ?_
    refine z_iconst (v := 1) B dX12_cached_27 rfl ?_
    have h_4 : Φ2 x = some (o_ 14 [.int 0, .ref (x + 1), .ref (x + 2), .int ti, .int ra, .int (nI rt), .int ex, .int ad, .ref (x + 3), .ref (x + 4), .int me, .long se, .ref (x + 5), .int (nI fl), .int dr, .long ob, .long sa, .long sn, .long us, .ref (x + 6), .ref (x + 7), .int (nI pe), .ref (x + 8), .int (nI le), .ref (x + 9), .ref (x + 10), .int (nI qu), .ref (x + 11), .ref (x + 12), .ref (x + 13), .ref (x + 14), .ref (x + 15), .ref (x + 16), .int (nI n_1), .long v_1, .ref (x + 17), .ref (x + 18), .ref (x + 19), .ref (x + 20), .ref (x + 21), .ref (x + 22), .int (nI n_2), .ref (x + 23), .ref (x + 24), .int (nI tk), .ref (x + 25), .int (nI il), .int (nI nx), .int ec, .int ep, .int kn, .int (nI st), .int nu, .long va]) := ((hF1 x (fun j9 h8 h7 => (show False from h7).elim)).trans h_3)
    refine z_callV (As := [.int 0, .int 1]) (rest := []) B (r_throwsIf0 G l Φ2 sz x rd nw (CaQ fl Fs) tp tt sI sT pt ql fl pe le nx il qu kn ec nu va st ep ti ad ob ra rt ex sa us tk 0 me dr se sn  hx hI2 hnw) (cwV 2 B.1.2.2.2.2 gX12_cached_X12_throwsIf rfl rfl rfl (by decide +kernel) ⟨Nat.le_of_ble_eq_true rfl, Nat.le_of_ble_eq_true rfl⟩) h_4 rfl rfl rfl rfl (Nat.le_of_ble_eq_true rfl) dX12_cached_28 ⟨Nat.le_of_ble_eq_true rfl, Nat.le_of_ble_eq_true rfl⟩ (fun r_2 Φ3 sz2 st2 hp2 hs2 => ?_)
    obtain ⟨rfl, hq2, hI3, hF2⟩ := hp2
    subst sz2
    replace hs2 : st2 = [.int 0] := hs2
    subst st2
    replace hI3 : Im G x (rd, nw, (CaQ fl Fs), tp, tt, sI, sT, pt, ql, fl, pe, le, nx, il, qu, kn, ec, nu, va, st, ep, ti, ad, ob, ra, rt, ex, sa, us, tk, 0, me, dr, se, sn) Φ3 := hI3
    refine z_if_ne (tgt := 59) B dX12_cached_31 rfl (fun h9 => absurd (by decide) h9) (fun c_2 => ?_)
    refine z_aload_n B dX12_cached_34 rfl 0 rfl ?_
    refine z_iload_n B dX12_cached_35 rfl 2 rfl ?_
    refine z_i2l (v := b.toInt64) B dX12_cached_36 rfl ?_
    refine z_lconst (v := 0) B dX12_cached_37 rfl ?_
    refine z_ldc2 (v := 7) B (by decide +kernel) dX12_cached_38 ?_
    by_cases hR2 : inP b.toInt64 0 7
    · obtain ⟨n_4, e_4, e_5, e_6, rfl⟩ := in_get (L := 0) (H := 7) (by decide) (by decide) hR2
      refine z_callS (As := [.long ((nI n_4).toInt64), .long 0, .long 7]) (rest := [.ref x]) B (c_inR1 G l Φ3 sz ((nI n_4).toInt64) 0 7 hR2 (fun v8 Φ8 sz8 => v8 = some (.int 1) ∧ sz8 = sz ∧ Im G x (rd, nw, (CaQ fl Fs), tp, tt, sI, sT, pt, ql, fl, pe, le, nx, il, qu, kn, ec, nu, va, st, ep, ti, ad, ob, ra, rt, ex, sa, us, tk, 0, me, dr, se, sn) Φ8 ∧ Fr x (fun j9 => False) Φ3 Φ8) ⟨rfl, rfl, hI3, fun _ _ => rfl⟩) (va_cwS 3 B.1.2.2.2.2 gX12_cached_X12_inRange rfl rfl rfl (by decide +kernel) ⟨Nat.le_of_ble_eq_true rfl, Nat.le_of_ble_eq_true rfl⟩) rfl rfl (Nat.le_of_ble_eq_true rfl) dX12_cached_41 ⟨Nat.le_of_ble_eq_true rfl, Nat.le_of_ble_eq_true rfl⟩ (fun r_3 Φ4 sz3 st3 hp3 hs3 => ?_)
      obtain ⟨rfl, hq3, hI4, hF3⟩ := hp3
      subst sz3
      replace hs3 : st3 = [.int 1, .ref x] := hs3
      subst st3
      refine z_if_ne (tgt := 51) B dX12_cached_44 rfl (fun c_3 => ?_) (fun h9 => absurd h9 (by decide))
      refine z_iconst (v := 0) B dX12_cached_51 rfl ?_
      refine z_iconst (v := 2) B dX12_cached_52 rfl ?_
      have h_5 : Φ4 x = some (o_ 14 [.int 0, .ref (x + 1), .ref (x + 2), .int ti, .int ra, .int (nI rt), .int ex, .int ad, .ref (x + 3), .ref (x + 4), .int me, .long se, .ref (x + 5), .int (nI fl), .int dr, .long ob, .long sa, .long sn, .long us, .ref (x + 6), .ref (x + 7), .int (nI pe), .ref (x + 8), .int (nI le), .ref (x + 9), .ref (x + 10), .int (nI qu), .ref (x + 11), .ref (x + 12), .ref (x + 13), .ref (x + 14), .ref (x + 15), .ref (x + 16), .int (nI n_1), .long v_1, .ref (x + 17), .ref (x + 18), .ref (x + 19), .ref (x + 20), .ref (x + 21), .ref (x + 22), .int (nI n_2), .ref (x + 23), .ref (x + 24), .int (nI tk), .ref (x + 25), .int (nI il), .int (nI nx), .int ec, .int ep, .int kn, .int (nI st), .int nu, .long va]) := ((hF3 x (fun j9 h8 h7 => (show False from h7).elim)).trans ((hF2 x (fun j9 h8 h7 => (show False from h7).elim)).trans h_4))
      refine z_callV (As := [.int 0, .int 2]) (rest := []) B (r_throwsIf02 G l Φ4 sz x rd nw (CaQ fl Fs) tp tt sI sT pt ql fl pe le nx il qu kn ec nu va st ep ti ad ob ra rt ex sa us tk 0 me dr se sn  hx hI4 hnw) (cwV 2 B.1.2.2.2.2 gX12_cached_X12_throwsIf rfl rfl rfl (by decide +kernel) ⟨Nat.le_of_ble_eq_true rfl, Nat.le_of_ble_eq_true rfl⟩) h_5 rfl rfl rfl rfl (Nat.le_of_ble_eq_true rfl) dX12_cached_53 ⟨Nat.le_of_ble_eq_true rfl, Nat.le_of_ble_eq_true rfl⟩ (fun r_4 Φ5 sz4 st4 hp4 hs4 => ?_)
      obtain ⟨rfl, hq4, hI5, hF4⟩ := hp4
      subst sz4
      replace hs4 : st4 = [.int 0] := hs4
      subst st4
      replace hI5 : Im G x (rd, nw, (CaQ fl Fs), tp, tt, sI, sT, pt, ql, fl, pe, le, nx, il, qu, kn, ec, nu, va, st, ep, ti, ad, ob, ra, rt, ex, sa, us, tk, 0, me, dr, se, sn) Φ5 := hI5
      refine z_if_eq (tgt := 63) B dX12_cached_56 rfl (fun c_4 => ?_) (fun h9 => absurd (by decide) h9)
      refine z_aload_n B dX12_cached_63 rfl 0 rfl ?_
      have h_6 : Φ5 x = some (o_ 14 [.int 0, .ref (x + 1), .ref (x + 2), .int ti, .int ra, .int (nI rt), .int ex, .int ad, .ref (x + 3), .ref (x + 4), .int me, .long se, .ref (x + 5), .int (nI fl), .int dr, .long ob, .long sa, .long sn, .long us, .ref (x + 6), .ref (x + 7), .int (nI pe), .ref (x + 8), .int (nI le), .ref (x + 9), .ref (x + 10), .int (nI qu), .ref (x + 11), .ref (x + 12), .ref (x + 13), .ref (x + 14), .ref (x + 15), .ref (x + 16), .int (nI n_1), .long v_1, .ref (x + 17), .ref (x + 18), .ref (x + 19), .ref (x + 20), .ref (x + 21), .ref (x + 22), .int (nI n_2), .ref (x + 23), .ref (x + 24), .int (nI tk), .ref (x + 25), .int (nI il), .int (nI nx), .int ec, .int ep, .int kn, .int (nI st), .int nu, .long va]) := ((hF4 x (fun j9 h8 h7 => (show False from h7).elim)).trans h_5)
      refine z_get (ref := "FlowExporterModel") (C := RX12) (T := TX12) (N := 54) (ci := 14) (v := .ref (x + 5)) B hu_X12_cached_X12 rfl 12 (Nat.le_of_ble_eq_true rfl) hv_X12_cached_26 rfl h_6 rfl dX12_cached_64 ?_
      refine z_bipush (v := 8) B dX12_cached_67 rfl ?_
      refine z_iload_n B dX12_cached_69 rfl 1 rfl ?_
      refine z_imul B dX12_cached_70 ?_
      refine z_top (st1 := [.int (nI (8 * n_3)), .ref (x + 5)]) (congrArg (fun w9 : Int32 => ([.int w9, .ref (x + 5)] : List Value)) (nI_mul 8 n_3)) ?_
      refine z_iload_n B dX12_cached_71 rfl 2 rfl ?_
      refine z_iadd B dX12_cached_72 ?_
      refine z_top (st1 := [.int (nI (8 * n_3 + n_4)), .ref (x + 5)]) (congrArg (fun w9 : Int32 => ([.int w9, .ref (x + 5)] : List Value)) (nI_add (8 * n_3) n_4)) ?_
      obtain ⟨f_1, h_7, r_5, r_6⟩ := imk (k := 5) hI5
      replace r_6 : (CaQ fl Fs) f_1 := r_6
      replace r_5 : CC f_1 := r_5
      have h_8 : Φ5 (x + 5) = some (al_ G 96 f_1) := h_7
      refine z_lald B h_8 (vp_in_nI (by omega) (by omega)) dX12_cached_73 ?_
      exact z_ret_l B dX12_cached_74 ⟨⟨_, 0, _, rfl, h_6, Or.inl ⟨⟨by rw [nI_toInt (by omega)]; omega, by rw [nI_toInt (by omega)]; omega⟩, ⟨by rw [nI_toInt (by omega)]; omega, by rw [nI_toInt (by omega)]; omega⟩, rfl, by rw [nI_clamp (n := n_3) (by omega), nI_clamp (n := n_4) (by omega)]; exact (congrArg f_1 (nI_clamp (by omega))).trans (CaQ.at r_6 (j := n_3) (by omega) n_4 (by omega) rfl)⟩⟩, rfl, ⟨0, hI5⟩, (fun b9 h9 => ((hF4 b9 (fun j9 h8 h7 => (show False from h7).elim)).trans ((hF3 b9 (fun j9 h8 h7 => (show False from h7).elim)).trans ((hF2 b9 (fun j9 h8 h7 => (show False from h7).elim)).trans ((hF1 b9 (fun j9 h8 h7 => (show False from h7).elim)).trans ((fset_fr hΦ1 (fun h8 => h9 (0) h8 (show 0 = 0 by decide))).trans rfl))))))⟩
    · have q_1 : ¬ (0 ≤ b.toInt ∧ b.toInt ≤ 7) := fun h9 => hR2 ((inP_i (by decide) (by decide)).mpr h9)
      refine z_callS (As := [.long b.toInt64, .long 0, .long 7]) (rest := [.ref x]) B (c_inR0 G l Φ3 sz b.toInt64 0 7 hR2 (fun v8 Φ8 sz8 => v8 = some (.int 0) ∧ sz8 = sz ∧ Im G x (rd, nw, (CaQ fl Fs), tp, tt, sI, sT, pt, ql, fl, pe, le, nx, il, qu, kn, ec, nu, va, st, ep, ti, ad, ob, ra, rt, ex, sa, us, tk, 0, me, dr, se, sn) Φ8 ∧ Fr x (fun j9 => False) Φ3 Φ8) ⟨rfl, rfl, hI3, fun _ _ => rfl⟩) (va_cwS 3 B.1.2.2.2.2 gX12_cached_X12_inRange rfl rfl rfl (by decide +kernel) ⟨Nat.le_of_ble_eq_true rfl, Nat.le_of_ble_eq_true rfl⟩) rfl rfl (Nat.le_of_ble_eq_true rfl) dX12_cached_41 ⟨Nat.le_of_ble_eq_true rfl, Nat.le_of_ble_eq_true rfl⟩ (fun r_7 Φ6 sz5 st5 hp5 hs5 => ?_)
      obtain ⟨rfl, hq5, hI6, hF5⟩ := hp5
      subst sz5
      replace hs5 : st5 = [.int 0, .ref x] := hs5
      subst st5
      refine z_if_ne (tgt := 51) B dX12_cached_44 rfl (fun h9 => absurd (by decide) h9) (fun c_5 => ?_)
      refine z_iconst (v := 1) B dX12_cached_47 rfl ?_
      refine z_goto (tgt := 52) B dX12_cached_48 rfl ?_
      refine z_iconst (v := 2) B dX12_cached_52 rfl ?_
      have h_9 : Φ6 x = some (o_ 14 [.int 0, .ref (x + 1), .ref (x + 2), .int ti, .int ra, .int (nI rt), .int ex, .int ad, .ref (x + 3), .ref (x + 4), .int me, .long se, .ref (x + 5), .int (nI fl), .int dr, .long ob, .long sa, .long sn, .long us, .ref (x + 6), .ref (x + 7), .int (nI pe), .ref (x + 8), .int (nI le), .ref (x + 9), .ref (x + 10), .int (nI qu), .ref (x + 11), .ref (x + 12), .ref (x + 13), .ref (x + 14), .ref (x + 15), .ref (x + 16), .int (nI n_1), .long v_1, .ref (x + 17), .ref (x + 18), .ref (x + 19), .ref (x + 20), .ref (x + 21), .ref (x + 22), .int (nI n_2), .ref (x + 23), .ref (x + 24), .int (nI tk), .ref (x + 25), .int (nI il), .int (nI nx), .int ec, .int ep, .int kn, .int (nI st), .int nu, .long va]) := ((hF5 x (fun j9 h8 h7 => (show False from h7).elim)).trans ((hF2 x (fun j9 h8 h7 => (show False from h7).elim)).trans h_4))
      refine z_callV (As := [.int 1, .int 2]) (rest := []) B (r_throwsIf12 G l Φ6 sz x rd nw (CaQ fl Fs) tp tt sI sT pt ql fl pe le nx il qu kn ec nu va st ep ti ad ob ra rt ex sa us tk 0 me dr se sn  hx hI6 hnw) (cwV 2 B.1.2.2.2.2 gX12_cached_X12_throwsIf rfl rfl rfl (by decide +kernel) ⟨Nat.le_of_ble_eq_true rfl, Nat.le_of_ble_eq_true rfl⟩) h_9 rfl rfl rfl rfl (Nat.le_of_ble_eq_true rfl) dX12_cached_53 ⟨Nat.le_of_ble_eq_true rfl, Nat.le_of_ble_eq_true rfl⟩ (fun r_8 Φ7 sz6 st6 hp6 hs6 => ?_)
      obtain ⟨⟨rfl, l_1, h_10⟩, hq6, hI7, hF6⟩ := hp6
      subst sz6
      replace hs6 : st6 = [.int 1] := hs6
      subst st6
      replace hI7 : Im G x (rd, nw, (CaQ fl Fs), tp, tt, sI, sT, pt, ql, fl, pe, le, nx, il, qu, kn, ec, nu, va, st, ep, ti, ad, ob, ra, rt, ex, sa, us, tk, 2, me, dr, se, sn) Φ7 := hI7
      refine z_if_eq (tgt := 63) B dX12_cached_56 rfl (fun h9 => absurd h9 (by decide)) (fun c_6 => ?_)
      refine z_lconst (v := 0) B dX12_cached_59 rfl ?_
      refine z_goto (tgt := 74) B dX12_cached_60 rfl ?_
      exact z_ret_l B dX12_cached_74 ⟨⟨0, 2, l_1, rfl, h_10, Or.inr (Or.inr ⟨⟨by rw [nI_toInt (by omega)]; omega, by rw [nI_toInt (by omega)]; omega⟩, fun h9 => hR2 ((inP_i (L := 0) (H := 7) (by decide) (by decide)).mpr h9), rfl⟩)⟩, rfl, ⟨2, hI7⟩, (fun b9 h9 => ((hF6 b9 h9).trans ((hF5 b9 (fun j9 h8 h7 => (show False from h7).elim)).trans ((hF2 b9 (fun j9 h8 h7 => (show False from h7).elim)).trans ((hF1 b9 (fun j9 h8 h7 => (show False from h7).elim)).trans ((fset_fr hΦ1 (fun h8 => h9 (0) h8 (show 0 = 0 by decide))).trans rfl))))))⟩
  · refine z_callS (As := [.long a.toInt64, .long 0, .long ((nI fl - 1).toInt64)]) (rest := [.ref x]) B (c_inR0 G l Φ1 sz a.toInt64 0 ((nI fl - 1).toInt64) hR1 (fun v8 Φ8 sz8 => v8 = some (.int 0) ∧ sz8 = sz ∧ Im G x (rd, nw, (CaQ fl Fs), tp, tt, sI, sT, pt, ql, fl, pe, le, nx, il, qu, kn, ec, nu, va, st, ep, ti, ad, ob, ra, rt, ex, sa, us, tk, 0, me, dr, se, sn) Φ8 ∧ Fr x (fun j9 => False) Φ1 Φ8) ⟨rfl, rfl, hI1, fun _ _ => rfl⟩) (va_cwS 3 B.1.2.2.2.2 gX12_cached_X12_inRange rfl rfl rfl (by decide +kernel) ⟨Nat.le_of_ble_eq_true rfl, Nat.le_of_ble_eq_true rfl⟩) rfl rfl (Nat.le_of_ble_eq_true rfl) dX12_cached_16 ⟨Nat.le_of_ble_eq_true rfl, Nat.le_of_ble_eq_true rfl⟩ (fun r_9 Φ8 sz7 st7 hp7 hs7 => ?_)
    obtain ⟨rfl, hq7, hI8, hF7⟩ := hp7
    subst sz7
    replace hs7 : st7 = [.int 0, .ref x] := hs7
    subst st7
    refine z_if_ne (tgt := 26) B dX12_cached_19 rfl (fun h9 => absurd (by decide) h9) (fun c_7 => ?_)
    refine z_iconst (v := 1) B dX12_cached_22 rfl ?_
    refine z_goto (tgt := 27) B dX12_cached_23 rfl ?_
    refine z_iconst (v := 1) B dX12_cached_27 rfl ?_
    have h_11 : Φ8 x = some (o_ 14 [.int 0, .ref (x + 1), .ref (x + 2), .int ti, .int ra, .int (nI rt), .int ex, .int ad, .ref (x + 3), .ref (x + 4), .int me, .long se, .ref (x + 5), .int (nI fl), .int dr, .long ob, .long sa, .long sn, .long us, .ref (x + 6), .ref (x + 7), .int (nI pe), .ref (x + 8), .int (nI le), .ref (x + 9), .ref (x + 10), .int (nI qu), .ref (x + 11), .ref (x + 12), .ref (x + 13), .ref (x + 14), .ref (x + 15), .ref (x + 16), .int (nI n_1), .long v_1, .ref (x + 17), .ref (x + 18), .ref (x + 19), .ref (x + 20), .ref (x + 21), .ref (x + 22), .int (nI n_2), .ref (x + 23), .ref (x + 24), .int (nI tk), .ref (x + 25), .int (nI il), .int (nI nx), .int ec, .int ep, .int kn, .int (nI st), .int nu, .long va]) := ((hF7 x (fun j9 h8 h7 => (show False from h7).elim)).trans h_3)
    refine z_callV (As := [.int 1, .int 1]) (rest := []) B (r_throwsIf1 G l Φ8 sz x rd nw (CaQ fl Fs) tp tt sI sT pt ql fl pe le nx il qu kn ec nu va st ep ti ad ob ra rt ex sa us tk 0 me dr se sn  hx hI8 hnw) (cwV 2 B.1.2.2.2.2 gX12_cached_X12_throwsIf rfl rfl rfl (by decide +kernel) ⟨Nat.le_of_ble_eq_true rfl, Nat.le_of_ble_eq_true rfl⟩) h_11 rfl rfl rfl rfl (Nat.le_of_ble_eq_true rfl) dX12_cached_28 ⟨Nat.le_of_ble_eq_true rfl, Nat.le_of_ble_eq_true rfl⟩ (fun r_10 Φ9 sz8 st8 hp8 hs8 => ?_)
    obtain ⟨⟨rfl, l_2, h_12⟩, hq8, hI9, hF8⟩ := hp8
    subst sz8
    replace hs8 : st8 = [.int 1] := hs8
    subst st8
    replace hI9 : Im G x (rd, nw, (CaQ fl Fs), tp, tt, sI, sT, pt, ql, fl, pe, le, nx, il, qu, kn, ec, nu, va, st, ep, ti, ad, ob, ra, rt, ex, sa, us, tk, 1, me, dr, se, sn) Φ9 := hI9
    refine z_if_ne (tgt := 59) B dX12_cached_31 rfl (fun c_8 => ?_) (fun h9 => absurd h9 (by decide))
    refine z_lconst (v := 0) B dX12_cached_59 rfl ?_
    refine z_goto (tgt := 74) B dX12_cached_60 rfl ?_
    exact z_ret_l B dX12_cached_74 ⟨⟨0, 1, l_2, rfl, h_12, Or.inr (Or.inl ⟨(fun h9 => hR1 ((inP_i (L := 0) (H := ((fl : Nat) : Int) - 1) (by decide) (predL (by omega))).mpr ⟨h9.1, by have := h9.2; omega⟩)), rfl⟩)⟩, rfl, ⟨1, hI9⟩, (fun b9 h9 => ((hF8 b9 h9).trans ((hF7 b9 (fun j9 h8 h7 => (show False from h7).elim)).trans ((fset_fr hΦ1 (fun h8 => h9 (0) h8 (show 0 = 0 by decide))).trans rfl))))⟩

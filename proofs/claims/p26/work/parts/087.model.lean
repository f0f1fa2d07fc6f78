set_option maxRecDepth 20000 in
theorem ggX12_lossRate_X12_throwsIf : GoodIn wsX12_lossRate wsX12_throwsIf := (goodIn_ca (goodIn_r _ [7, 1] rfl (by decide +kernel)) (goodIn_sub (fun _ h => List.mem_cons_of_mem _ (List.mem_append_left _ (List.mem_append_right _ h))) gw_wsX120))
set_option maxRecDepth 20000 in
theorem gX12_lossRate_X12_throwsIf : GoodIn wsX12_lossRate (wsV RX12 185 RX12 yX12_throwsIf wsX12_throwsIf) := goodIn_app (goodIn_m (mem_cA (List.mem_cons_of_mem _ (List.mem_append_left _ (List.mem_append_left _ (List.mem_of_getElem? (i := 2) rfl)))) (mem_cA (List.mem_cons_of_mem _ (List.mem_append_left _ (List.mem_append_left _ (List.mem_of_getElem? (i := 3) rfl)))) (mem_cA (List.mem_cons_of_mem _ (List.mem_append_left _ (List.mem_append_left _ (List.mem_of_getElem? (i := 4) rfl)))) (mem_cA (List.mem_cons_of_mem _ (List.mem_append_left _ (List.mem_append_left _ (List.mem_of_getElem? (i := 5) rfl)))) mem_cZ)))) (by decide +kernel)) ggX12_lossRate_X12_throwsIf
theorem dX12_lossRate_0 : decode cX12_lossRate 0 = .ok (.aload_n 0, 1) := by decide +kernel
theorem dX12_lossRate_1 : decode cX12_lossRate 1 = .ok (.iconst 0, 1) := by decide +kernel
theorem dX12_lossRate_2 : decode cX12_lossRate 2 = .ok (.putfield 1, 3) := by decide +kernel
theorem dX12_lossRate_5 : decode cX12_lossRate 5 = .ok (.aload_n 0, 1) := by decide +kernel
theorem dX12_lossRate_6 : decode cX12_lossRate 6 = .ok (.getfield 45, 3) := by decide +kernel
theorem dX12_lossRate_9 : decode cX12_lossRate 9 = .ok (.iconst 0, 1) := by decide +kernel
theorem dX12_lossRate_10 : decode cX12_lossRate 10 = .ok (.laload, 1) := by decide +kernel
theorem dX12_lossRate_11 : decode cX12_lossRate 11 = .ok (.aload_n 0, 1) := by decide +kernel
theorem dX12_lossRate_12 : decode cX12_lossRate 12 = .ok (.getfield 45, 3) := by decide +kernel
theorem dX12_lossRate_15 : decode cX12_lossRate 15 = .ok (.bipush 7, 2) := by decide +kernel
theorem dX12_lossRate_17 : decode cX12_lossRate 17 = .ok (.laload, 1) := by decide +kernel
theorem dX12_lossRate_18 : decode cX12_lossRate 18 = .ok (.ladd, 1) := by decide +kernel
theorem dX12_lossRate_19 : decode cX12_lossRate 19 = .ok (.lstore_n 1, 1) := by decide +kernel
theorem dX12_lossRate_20 : decode cX12_lossRate 20 = .ok (.aload_n 0, 1) := by decide +kernel
theorem dX12_lossRate_21 : decode cX12_lossRate 21 = .ok (.lload_n 1, 1) := by decide +kernel
theorem dX12_lossRate_22 : decode cX12_lossRate 22 = .ok (.lconst 0, 1) := by decide +kernel
theorem dX12_lossRate_23 : decode cX12_lossRate 23 = .ok (.lcmp, 1) := by decide +kernel
theorem dX12_lossRate_24 : decode cX12_lossRate 24 = .ok (.ifCond .ne 7, 3) := by decide +kernel
theorem dX12_lossRate_27 : decode cX12_lossRate 27 = .ok (.iconst 1, 1) := by decide +kernel
theorem dX12_lossRate_28 : decode cX12_lossRate 28 = .ok (.goto 4, 3) := by decide +kernel
theorem dX12_lossRate_31 : decode cX12_lossRate 31 = .ok (.iconst 0, 1) := by decide +kernel
theorem dX12_lossRate_32 : decode cX12_lossRate 32 = .ok (.iconst 1, 1) := by decide +kernel
theorem dX12_lossRate_33 : decode cX12_lossRate 33 = .ok (.invokevirtual 185, 3) := by decide +kernel
theorem dX12_lossRate_36 : decode cX12_lossRate 36 = .ok (.ifCond .eq 7, 3) := by decide +kernel
theorem dX12_lossRate_39 : decode cX12_lossRate 39 = .ok (.dconst 0, 1) := by decide +kernel
theorem dX12_lossRate_40 : decode cX12_lossRate 40 = .ok (.goto 13, 3) := by decide +kernel
theorem dX12_lossRate_43 : decode cX12_lossRate 43 = .ok (.aload_n 0, 1) := by decide +kernel
theorem dX12_lossRate_44 : decode cX12_lossRate 44 = .ok (.getfield 45, 3) := by decide +kernel
theorem dX12_lossRate_47 : decode cX12_lossRate 47 = .ok (.iconst 0, 1) := by decide +kernel
theorem dX12_lossRate_48 : decode cX12_lossRate 48 = .ok (.laload, 1) := by decide +kernel
theorem dX12_lossRate_49 : decode cX12_lossRate 49 = .ok (.l2d, 1) := by decide +kernel
theorem dX12_lossRate_50 : decode cX12_lossRate 50 = .ok (.lload_n 1, 1) := by decide +kernel
theorem dX12_lossRate_51 : decode cX12_lossRate 51 = .ok (.l2d, 1) := by decide +kernel
theorem dX12_lossRate_52 : decode cX12_lossRate 52 = .ok (.ddiv, 1) := by decide +kernel
theorem dX12_lossRate_53 : decode cX12_lossRate 53 = .ok (.dreturn, 1) := by decide +kernel
theorem dX12_get_0 : decode cX12_get 0 = .ok (.lconst 0, 1) := by decide +kernel
theorem dX12_get_1 : decode cX12_get 1 = .ok (.lstore_n 3, 1) := by decide +kernel
theorem dX12_get_2 : decode cX12_get 2 = .ok (.iload_n 1, 1) := by decide +kernel
theorem dX12_get_3 : decode cX12_get 3 = .ok (.istore 5, 2) := by decide +kernel
theorem dX12_get_5 : decode cX12_get 5 = .ok (.iload 5, 2) := by decide +kernel
theorem dX12_get_7 : decode cX12_get 7 = .ok (.iload_n 1, 1) := by decide +kernel
theorem dX12_get_8 : decode cX12_get 8 = .ok (.iload_n 2, 1) := by decide +kernel
theorem dX12_get_9 : decode cX12_get 9 = .ok (.iadd, 1) := by decide +kernel
theorem dX12_get_10 : decode cX12_get 10 = .ok (.if_icmp .ge 23, 3) := by decide +kernel
theorem dX12_get_13 : decode cX12_get 13 = .ok (.lload_n 3, 1) := by decide +kernel
theorem dX12_get_14 : decode cX12_get 14 = .ok (.bipush 8, 2) := by decide +kernel
theorem dX12_get_16 : decode cX12_get 16 = .ok (.lshl, 1) := by decide +kernel
theorem dX12_get_17 : decode cX12_get 17 = .ok (.aload_n 0, 1) := by decide +kernel
theorem dX12_get_18 : decode cX12_get 18 = .ok (.getfield 36, 3) := by decide +kernel
theorem dX12_get_21 : decode cX12_get 21 = .ok (.iload 5, 2) := by decide +kernel
theorem dX12_get_23 : decode cX12_get 23 = .ok (.iaload, 1) := by decide +kernel
theorem dX12_get_24 : decode cX12_get 24 = .ok (.i2l, 1) := by decide +kernel
theorem dX12_get_25 : decode cX12_get 25 = .ok (.lor, 1) := by decide +kernel
theorem dX12_get_26 : decode cX12_get 26 = .ok (.lstore_n 3, 1) := by decide +kernel
theorem dX12_get_27 : decode cX12_get 27 = .ok (.iinc 5 1, 3) := by decide +kernel
theorem dX12_get_30 : decode cX12_get 30 = .ok (.goto (-25), 3) := by decide +kernel
theorem dX12_get_33 : decode cX12_get 33 = .ok (.lload_n 3, 1) := by decide +kernel
theorem dX12_get_34 : decode cX12_get 34 = .ok (.lreturn, 1) := by decide +kernel
theorem dX12_isDouble_0 : decode cX12_isDouble 0 = .ok (.iconst 0, 1) := by decide +kernel
theorem dX12_isDouble_1 : decode cX12_isDouble 1 = .ok (.istore 5, 2) := by decide +kernel
theorem dX12_isDouble_3 : decode cX12_isDouble 3 = .ok (.iload 5, 2) := by decide +kernel
theorem dX12_isDouble_5 : decode cX12_isDouble 5 = .ok (.aload_n 0, 1) := by decide +kernel
theorem dX12_isDouble_6 : decode cX12_isDouble 6 = .ok (.getfield 326, 3) := by decide +kernel
theorem dX12_isDouble_9 : decode cX12_isDouble 9 = .ok (.if_icmp .ge 35, 3) := by decide +kernel
theorem dX12_isDouble_12 : decode cX12_isDouble 12 = .ok (.aload_n 0, 1) := by decide +kernel
theorem dX12_isDouble_13 : decode cX12_isDouble 13 = .ok (.getfield 57, 3) := by decide +kernel
theorem dX12_isDouble_16 : decode cX12_isDouble 16 = .ok (.iload 5, 2) := by decide +kernel
theorem dX12_isDouble_18 : decode cX12_isDouble 18 = .ok (.laload, 1) := by decide +kernel
theorem dX12_isDouble_19 : decode cX12_isDouble 19 = .ok (.lload_n 1, 1) := by decide +kernel
theorem dX12_isDouble_20 : decode cX12_isDouble 20 = .ok (.lcmp, 1) := by decide +kernel
theorem dX12_isDouble_21 : decode cX12_isDouble 21 = .ok (.ifCond .ne 17, 3) := by decide +kernel
theorem dX12_isDouble_24 : decode cX12_isDouble 24 = .ok (.aload_n 0, 1) := by decide +kernel
theorem dX12_isDouble_25 : decode cX12_isDouble 25 = .ok (.getfield 60, 3) := by decide +kernel
theorem dX12_isDouble_28 : decode cX12_isDouble 28 = .ok (.iload 5, 2) := by decide +kernel
theorem dX12_isDouble_30 : decode cX12_isDouble 30 = .ok (.laload, 1) := by decide +kernel
theorem dX12_isDouble_31 : decode cX12_isDouble 31 = .ok (.lload_n 3, 1) := by decide +kernel
theorem dX12_isDouble_32 : decode cX12_isDouble 32 = .ok (.lcmp, 1) := by decide +kernel
theorem dX12_isDouble_33 : decode cX12_isDouble 33 = .ok (.ifCond .ne 5, 3) := by decide +kernel
theorem dX12_isDouble_36 : decode cX12_isDouble 36 = .ok (.iconst 1, 1) := by decide +kernel
theorem dX12_isDouble_37 : decode cX12_isDouble 37 = .ok (.ireturn, 1) := by decide +kernel
theorem dX12_isDouble_38 : decode cX12_isDouble 38 = .ok (.iinc 5 1, 3) := by decide +kernel
theorem dX12_isDouble_41 : decode cX12_isDouble 41 = .ok (.goto (-38), 3) := by decide +kernel
theorem dX12_isDouble_44 : decode cX12_isDouble 44 = .ok (.iconst 0, 1) := by decide +kernel
theorem dX12_isDouble_45 : decode cX12_isDouble 45 = .ok (.ireturn, 1) := by decide +kernel
set_option maxHeartbeats 4000000 in
set_option maxRecDepth 100000 in
theorem r_lossRate (G : EnvG) (l : Launch) (Φ : Hm) (sz x : Nat) (rd : (Nat → Int32) → Prop) (nw : (Nat → Int32) → Prop) (cr : (Nat → Int64) → Prop) (tp : (Nat → Int32) → Prop) (tt : (Nat → Int64) → Prop) (sI : (Nat → Int32) → Prop) (sT : (Nat → Int32) → Prop) (pt : (Nat → Int32) → Prop) (ql : (Nat → Int32) → Prop) (fl : Nat) (pe : Nat) (le : Nat) (nx : Nat) (il : Nat) (qu : Nat) (kn : Int32) (ec : Int32) (nu : Int32) (va : Int64) (st : Nat) (ep : Int32) (ti : Int32) (ad : Int32) (ob : Int64) (ra : Int32) (rt : Nat) (ex : Int32) (sa : Int64) (us : Int64) (tk : Nat) (th : Int32) (me : Int32) (dr : Int32) (se : Int64) (sn : Int64)  (hx : G.2.2.2 ≤ x) (hI : Im G x (rd, nw, cr, tp, tt, sI, sT, pt, ql, fl, pe, le, nx, il, qu, kn, ec, nu, va, st, ep, ti, ad, ob, ra, rt, ex, sa, us, tk, th, me, dr, se, sn) Φ) (hnw : ∀ f9 : Nat → Int32, nw f9 → NN f9) : Ct G l yX12_lossRate wsX12_lossRate ({ frames := 1, cells := 0, slots := 0, locals := 22 }) 0 0 [.ref x] Φ sz (fun v Φ1 sz1 => (∃ r9 : UInt64, v = some (.double r9) ∧ nn64 r9) ∧ sz1 = sz ∧ (∃ (th1 : Int32), Im G x (rd, nw, cr, tp, tt, sI, sT, pt, ql, fl, pe, le, nx, il, qu, kn, ec, nu, va, st, ep, ti, ad, ob, ra, rt, ex, sa, us, tk, th1, me, dr, se, sn) Φ1) ∧ Fr x (fun j9 => j9 = 0) Φ Φ1) := by
  refine Ct.of (cc := cX12_lossRate) (maxL := 3) (ret := (some .double)) (by decide) rfl (Nat.le_of_ble_eq_true rfl) ?_
  intro p9 e9 s9 m9 w9 t9 k9 B
  show Z p9 l e9 _ s9 m9 _ w9 t9 k9 _ G 3 0 [(0, .ref x)] [] Φ sz 0 0
  refine z_aload_n B dX12_lossRate_0 rfl 0 rfl ?_
  refine z_iconst (v := 0) B dX12_lossRate_1 rfl ?_
  obtain ⟨n_1, v_1, n_2, h_1, b_13, b_1, b_2, b_3, b_4, b_5, b_6, b_7, b_8, b_9, b_10, b_11, b_12⟩ := im0 hI
  replace b_1 : 1 ≤ rt := b_1
  replace b_2 : rt ≤ 1024 := b_2
  replace b_3 : fl ≤ 12 := b_3
  replace b_4 : pe ≤ 24 := b_4
  replace b_5 : le ≤ 700 := b_5
  replace b_6 : qu ≤ 12 := b_6
  replace b_7 : n_1 ≤ 8 := b_7
  replace b_8 : n_2 ≤ 24 := b_8
  replace b_9 : tk ≤ 24 := b_9
  replace b_10 : il ≤ 700 := b_10
  replace b_11 : nx ≤ 701 := b_11
  replace b_12 : st ≤ 701 := b_12
  have h_2 : Φ x = some (o_ 14 [.int th, .ref (x + 1), .ref (x + 2), .int ti, .int ra, .int (nI rt), .int ex, .int ad, .ref (x + 3), .ref (x + 4), .int me, .long se, .ref (x + 5), .int (nI fl), .int dr, .long ob, .long sa, .long sn, .long us, .ref (x + 6), .ref (x + 7), .int (nI pe), .ref (x + 8), .int (nI le), .ref (x + 9), .ref (x + 10), .int (nI qu), .ref (x + 11), .ref (x + 12), .ref (x + 13), .ref (x + 14), .ref (x + 15), .ref (x + 16), .int (nI n_1), .long v_1, .ref (x + 17), .ref (x + 18), .ref (x + 19), .ref (x + 20), .ref (x + 21), .ref (x + 22), .int (nI n_2), .ref (x + 23), .ref (x + 24), .int (nI tk), .ref (x + 25), .int (nI il), .int (nI nx), .int ec, .int ep, .int kn, .int (nI st), .int nu, .long va]) := h_1
  refine z_put (ref := "FlowExporterModel") (C := RX12) (T := TX12) (N := 54) (ci := 14) (v := .int 0) B hu_X12_lossRate_X12 tyX12 tyX12_ok nmX12 rfl 0 (Nat.le_of_ble_eq_true rfl) hv_X12_lossRate_1 rfl (Or.inl rfl) h_2 hx rfl rfl (Nat.le_of_ble_eq_true rfl) dX12_lossRate_2 (fun Φ1 hΦ1 => ?_)
  have h_3 : Φ1 x = some (o_ 14 [.int 0, .ref (x + 1), .ref (x + 2), .int ti, .int ra, .int (nI rt), .int ex, .int ad, .ref (x + 3), .ref (x + 4), .int me, .long se, .ref (x + 5), .int (nI fl), .int dr, .long ob, .long sa, .long sn, .long us, .ref (x + 6), .ref (x + 7), .int (nI pe), .ref (x + 8), .int (nI le), .ref (x + 9), .ref (x + 10), .int (nI qu), .ref (x + 11), .ref (x + 12), .ref (x + 13), .ref (x + 14), .ref (x + 15), .ref (x + 16), .int (nI n_1), .long v_1, .ref (x + 17), .ref (x + 18), .ref (x + 19), .ref (x + 20), .ref (x + 21), .ref (x + 22), .int (nI n_2), .ref (x + 23), .ref (x + 24), .int (nI tk), .ref (x + 25), .int (nI il), .int (nI nx), .int ec, .int ep, .int kn, .int (nI st), .int nu, .long va]) := fset_at hΦ1
  have hI1 : Im G x (rd, nw, cr, tp, tt, sI, sT, pt, ql, fl, pe, le, nx, il, qu, kn, ec, nu, va, st, ep, ti, ad, ob, ra, rt, ex, sa, us, tk, 0, me, dr, se, sn) Φ1 := Im.put0 hI hΦ1 ⟨n_1, v_1, n_2, rfl, b_13, b_1, b_2, b_3, b_4, b_5, b_6, b_7, b_8, b_9, b_10, b_11, b_12⟩
  refine z_aload_n B dX12_lossRate_5 rfl 0 rfl ?_
  refine z_get (ref := "FlowExporterModel") (C := RX12) (T := TX12) (N := 54) (ci := 14) (v := .ref (x + 11)) B hu_X12_lossRate_X12 rfl 27 (Nat.le_of_ble_eq_true rfl) hv_X12_lossRate_45 rfl h_3 rfl dX12_lossRate_6 ?_
  refine z_iconst (v := 0) B dX12_lossRate_9 rfl ?_
  obtain ⟨f_1, h_4⟩ := imk (k := 11) hI1
  have h_5 : Φ1 (x + 11) = some (al_ G 9 f_1) := h_4
  refine z_lald B h_5 (vin rfl) dX12_lossRate_10 ?_
  refine z_fl (fun v_2 => ?_)
  refine z_aload_n B dX12_lossRate_11 rfl 0 rfl ?_
  refine z_get (ref := "FlowExporterModel") (C := RX12) (T := TX12) (N := 54) (ci := 14) (v := .ref (x + 11)) B hu_X12_lossRate_X12 rfl 27 (Nat.le_of_ble_eq_true rfl) hv_X12_lossRate_45 rfl h_3 rfl dX12_lossRate_12 ?_
  refine z_bipush (v := 7) B dX12_lossRate_15 rfl ?_
  refine z_lald B h_5 (vin rfl) dX12_lossRate_17 ?_
  refine z_fl (fun v_3 => ?_)
  refine z_ladd B dX12_lossRate_18 ?_
  refine z_fl (fun v_4 => ?_)
  refine z_lstore_n (lv' := [(1, .long v_4), (0, .ref x)]) B dX12_lossRate_19 rfl (Nat.le_of_ble_eq_true rfl) rfl ?_
  refine z_aload_n B dX12_lossRate_20 rfl 1 rfl ?_
  refine z_lload_n B dX12_lossRate_21 rfl 0 rfl ?_
  refine z_lconst (v := 0) B dX12_lossRate_22 rfl ?_
  refine z_lcmp B dX12_lossRate_23 ?_
  refine z_if_ne (tgt := 31) B dX12_lossRate_24 rfl (fun c_1 => ?_) (fun c_1 => ?_)
  · refine z_iconst (v := 0) B dX12_lossRate_31 rfl ?_
    refine z_iconst (v := 1) B dX12_lossRate_32 rfl ?_
    refine z_callV (As := [.int 0, .int 1]) (rest := []) B (r_throwsIf G l Φ1 sz x rd nw cr tp tt sI sT pt ql fl pe le nx il qu kn ec nu va st ep ti ad ob ra rt ex sa us tk 0 me dr se sn 0 1 hx hI1 (by decide) hnw) (cwV 2 B.1.2.2.2.2 gX12_lossRate_X12_throwsIf rfl rfl rfl (by decide +kernel) ⟨Nat.le_of_ble_eq_true rfl, Nat.le_of_ble_eq_true rfl⟩) h_3 rfl rfl rfl rfl (Nat.le_of_ble_eq_true rfl) dX12_lossRate_33 ⟨Nat.le_of_ble_eq_true rfl, Nat.le_of_ble_eq_true rfl⟩ (fun r_2 Φ2 sz1 st1 hp1 hs1 => ?_)
    obtain ⟨rfl, hq1, ⟨v_5, hI2⟩, hF1⟩ := hp1
    subst sz1
    replace hs1 : st1 = [.int 0] := hs1
    subst st1
    replace hI2 : Im G x (rd, nw, cr, tp, tt, sI, sT, pt, ql, fl, pe, le, nx, il, qu, kn, ec, nu, va, st, ep, ti, ad, ob, ra, rt, ex, sa, us, tk, v_5, me, dr, se, sn) Φ2 := hI2
    refine z_if_eq (tgt := 43) B dX12_lossRate_36 rfl (fun c_2 => ?_) (fun h9 => absurd (by decide) h9)
    refine z_aload_n B dX12_lossRate_43 rfl 1 rfl ?_
    obtain ⟨n_3, v_6, n_4, h_6, b_26, b_14, b_15, b_16, b_17, b_18, b_19, b_20, b_21, b_22, b_23, b_24, b_25⟩ := im0 hI2
    replace b_14 : 1 ≤ rt := b_14
    replace b_15 : rt ≤ 1024 := b_15
    replace b_16 : fl ≤ 12 := b_16
    replace b_17 : pe ≤ 24 := b_17
    replace b_18 : le ≤ 700 := b_18
    replace b_19 : qu ≤ 12 := b_19
    replace b_20 : n_3 ≤ 8 := b_20
    replace b_21 : n_4 ≤ 24 := b_21
    replace b_22 : tk ≤ 24 := b_22
    replace b_23 : il ≤ 700 := b_23
    replace b_24 : nx ≤ 701 := b_24
    replace b_25 : st ≤ 701 := b_25
    have h_7 : Φ2 x = some (o_ 14 [.int v_5, .ref (x + 1), .ref (x + 2), .int ti, .int ra, .int (nI rt), .int ex, .int ad, .ref (x + 3), .ref (x + 4), .int me, .long se, .ref (x + 5), .int (nI fl), .int dr, .long ob, .long sa, .long sn, .long us, .ref (x + 6), .ref (x + 7), .int (nI pe), .ref (x + 8), .int (nI le), .ref (x + 9), .ref (x + 10), .int (nI qu), .ref (x + 11), .ref (x + 12), .ref (x + 13), .ref (x + 14), .ref (x + 15), .ref (x + 16), .int (nI n_3), .long v_6, .ref (x + 17), .ref (x + 18), .ref (x + 19), .ref (x + 20), .ref (x + 21), .ref (x + 22), .int (nI n_4), .ref (x + 23), .ref (x + 24), .int (nI tk), .ref (x + 25), .int (nI il), .int (nI nx), .int ec, .int ep, .int kn, .int (nI st), .int nu, .long va]) := h_6
    refine z_get (ref := "FlowExporterModel") (C := RX12) (T := TX12) (N := 54) (ci := 14) (v := .ref (x + 11)) B hu_X12_lossRate_X12 rfl 27 (Nat.le_of_ble_eq_true rfl) hv_X12_lossRate_45 rfl h_7 rfl dX12_lossRate_44 ?_
    refine z_iconst (v := 0) B dX12_lossRate_47 rfl ?_
    have h_8 : Φ2 (x + 11) = some (al_ G 9 f_1) := ((hF1 (x + 11) fq_1117).trans h_5)
    refine z_lald B h_8 (vin rfl) dX12_lossRate_48 ?_
    refine z_fl (fun v_7 => ?_)
    refine z_l2d B dX12_lossRate_49 ?_
    refine z_fdq (P := fun u9 : UInt64 => sm64 12 u9) (l2d_sm v_7) (fun v_8 q_2 => ?_)
    replace q_2 : sm64 12 v_8 := q_2
    refine z_lload_n B dX12_lossRate_50 rfl 0 rfl ?_
    refine z_l2d B dX12_lossRate_51 ?_
    have q_4 : nn64 (FP.ddiv v_8 (FP.l2d v_4)) := (div_nnw (sm_nn q_2) (l2d_w (fun h8 => c_1 ((lg_cmp_eq _ _).mpr h8))))
    refine z_ddiv B dX12_lossRate_52 (vf_of q_4) ?_
    refine z_fdq (P := fun u9 : UInt64 => nn64 u9) q_4 (fun v_9 q_6 => ?_)
    replace q_6 : nn64 v_9 := q_6
    exact z_ret_d B dX12_lossRate_53 ⟨⟨_, rfl, q_6⟩, rfl, ⟨v_5, hI2⟩, (fun b9 h9 => ((hF1 b9 h9).trans ((fset_fr hΦ1 (fun h8 => h9 (0) h8 (show 0 = 0 by decide))).trans rfl)))⟩
  · refine z_iconst (v := 1) B dX12_lossRate_27 rfl ?_
    refine z_goto (tgt := 32) B dX12_lossRate_28 rfl ?_
    refine z_iconst (v := 1) B dX12_lossRate_32 rfl ?_
    refine z_callV (As := [.int 1, .int 1]) (rest := []) B (r_throwsIf G l Φ1 sz x rd nw cr tp tt sI sT pt ql fl pe le nx il qu kn ec nu va st ep ti ad ob ra rt ex sa us tk 0 me dr se sn 1 1 hx hI1 (by decide) hnw) (cwV 2 B.1.2.2.2.2 gX12_lossRate_X12_throwsIf rfl rfl rfl (by decide +kernel) ⟨Nat.le_of_ble_eq_true rfl, Nat.le_of_ble_eq_true rfl⟩) h_3 rfl rfl rfl rfl (Nat.le_of_ble_eq_true rfl) dX12_lossRate_33 ⟨Nat.le_of_ble_eq_true rfl, Nat.le_of_ble_eq_true rfl⟩ (fun r_3 Φ3 sz2 st2 hp2 hs2 => ?_)
    obtain ⟨rfl, hq2, ⟨v_10, hI3⟩, hF2⟩ := hp2
    subst sz2
    replace hs2 : st2 = [.int 1] := hs2
    subst st2
    replace hI3 : Im G x (rd, nw, cr, tp, tt, sI, sT, pt, ql, fl, pe, le, nx, il, qu, kn, ec, nu, va, st, ep, ti, ad, ob, ra, rt, ex, sa, us, tk, v_10, me, dr, se, sn) Φ3 := hI3
    refine z_if_eq (tgt := 43) B dX12_lossRate_36 rfl (fun h9 => absurd h9 (by decide)) (fun c_3 => ?_)
    refine z_dconst0 B dX12_lossRate_39 ?_
    refine z_goto (tgt := 53) B dX12_lossRate_40 rfl ?_
    exact z_ret_d B dX12_lossRate_53 ⟨⟨_, rfl, (sm_nn sm_zero)⟩, rfl, ⟨v_10, hI3⟩, (fun b9 h9 => ((hF2 b9 h9).trans ((fset_fr hΦ1 (fun h8 => h9 (0) h8 (show 0 = 0 by decide))).trans rfl)))⟩

theorem hu_X12_get_X12 : ∀ w ∈ u_ws RX12 TX12 54, w ∈ wsX12_get := fun _ h => List.mem_cons_of_mem _ (List.mem_append_left _ (List.mem_append_right _ (h)))

theorem hv_X12_get_36 : Cond.fieldLink RX12 36 "FlowExporterModel" (TX12 22).2.1 (TX12 22).2.2.1 ∈ wsX12_get := List.mem_cons_of_mem _ (List.mem_append_left _ (List.mem_append_left _ (List.mem_of_getElem? (i := 0) rfl)))

set_option maxHeartbeats 4000000 in
set_option maxRecDepth 100000 in
theorem r_get (G : EnvG) (l : Launch) (Φ : Hm) (sz x : Nat) (rd : (Nat → Int32) → Prop) (nw : (Nat → Int32) → Prop) (cr : (Nat → Int64) → Prop) (tp : (Nat → Int32) → Prop) (tt : (Nat → Int64) → Prop) (sI : (Nat → Int32) → Prop) (sT : (Nat → Int32) → Prop) (pt : (Nat → Int32) → Prop) (ql : (Nat → Int32) → Prop) (fl : Nat) (pe : Nat) (le : Nat) (nx : Nat) (il : Nat) (qu : Nat) (kn : Int32) (ec : Int32) (nu : Int32) (va : Int64) (st : Nat) (ep : Int32) (ti : Int32) (ad : Int32) (ob : Int64) (ra : Int32) (rt : Nat) (ex : Int32) (sa : Int64) (us : Int64) (tk : Nat) (th : Int32) (me : Int32) (dr : Int32) (se : Int64) (sn : Int64) (q : Nat) (n : Nat) (hx : G.2.2.2 ≤ x) (hI : Im G x (rd, nw, cr, tp, tt, sI, sT, pt, ql, fl, pe, le, nx, il, qu, kn, ec, nu, va, st, ep, ti, ad, ob, ra, rt, ex, sa, us, tk, th, me, dr, se, sn) Φ) (hn : n ≤ 8) (hq : q + n ≤ 700) (hnw : ∀ f9 : Nat → Int32, nw f9 → NN f9) : Ct G l yX12_get wsX12_get ({ frames := 0, cells := 0, slots := 0, locals := 0 }) 0 0 [.ref x, .int (nI q), .int (nI n)] Φ sz (fun v Φ1 sz1 => (∃ r9 : Int64, v = some (.long r9) ∧ np n r9) ∧ sz1 = sz ∧ (Im G x (rd, nw, cr, tp, tt, sI, sT, pt, ql, fl, pe, le, nx, il, qu, kn, ec, nu, va, st, ep, ti, ad, ob, ra, rt, ex, sa, us, tk, th, me, dr, se, sn) Φ1) ∧ Fr x (fun j9 => False) Φ Φ1) := by
  refine Ct.of (cc := cX12_get) (maxL := 6) (ret := (some .long)) (by decide) rfl (Nat.le_of_ble_eq_true rfl) ?_
  intro p9 e9 s9 m9 w9 t9 k9 B
  show Z p9 l e9 _ s9 m9 _ w9 t9 k9 _ G 6 0 [(0, .ref x), (1, .int (nI q)), (2, .int (nI n))] [] Φ sz 0 0
  refine z_lconst (v := 0) B dX12_get_0 rfl ?_
  refine z_lstore_n (lv' := [(3, .long 0), (0, .ref x), (1, .int (nI q)), (2, .int (nI n))]) B dX12_get_1 rfl (Nat.le_of_ble_eq_true rfl) rfl ?_
  refine z_iload_n B dX12_get_2 rfl 2 rfl ?_
  refine z_istore (lv' := [(5, .int (nI q)), (3, .long 0), (0, .ref x), (1, .int (nI q)), (2, .int (nI n))]) B dX12_get_3 (Nat.le_of_ble_eq_true rfl) rfl ?_
  refine z_lv [0, 1, 2, 3, 4] rfl ?_
  refine z_loop (α := Nat × Int64) (fun (a9 : Nat × Int64) Φi => Im G x (rd, nw, cr, tp, tt, sI, sT, pt, ql, fl, pe, le, nx, il, qu, kn, ec, nu, va, st, ep, ti, ad, ob, ra, rt, ex, sa, us, tk, th, me, dr, se, sn) Φi ∧ Fr x (fun j9 => False) Φ Φi ∧ (a9.1 ≤ q + n) ∧ (q ≤ a9.1) ∧ (np (a9.1 - q) a9.2) ∧ True) (fun a9 => [(5, .int (nI (a9.1))), (3, .long a9.2), (0, .ref x), (1, .int (nI q)), (2, .int (nI n))]) (fun a9 => q + n - a9.1) ?_ (q, 0) ⟨hI, fun _ _ => rfl, (show q ≤ q + n by omega), (show q ≤ q by omega), ((show q - q = 0 by omega).symm ▸ np_0), trivial⟩
  rintro ⟨i_1, i_2⟩ Φl1 ⟨hI1, hF1, b_1, b_2, b_3, -⟩ ih1
  replace hI1 : Im G x (rd, nw, cr, tp, tt, sI, sT, pt, ql, fl, pe, le, nx, il, qu, kn, ec, nu, va, st, ep, ti, ad, ob, ra, rt, ex, sa, us, tk, th, me, dr, se, sn) Φl1 := hI1
  replace b_1 : i_1 ≤ q + n := b_1
  replace b_2 : q ≤ i_1 := b_2
  replace b_3 : np (i_1 - q) i_2 := b_3
  show Z p9 l e9 _ s9 m9 _ w9 t9 k9 _ G 6 5 [(5, .int (nI i_1)), (3, .long i_2), (0, .ref x), (1, .int (nI q)), (2, .int (nI n))] [] Φl1 _ _ _
  refine z_iload B dX12_get_5 0 rfl ?_
  refine z_iload_n B dX12_get_7 rfl 3 rfl ?_
  refine z_iload_n B dX12_get_8 rfl 4 rfl ?_
  refine z_iadd B dX12_get_9 ?_
  refine z_top (st1 := [.int (nI (q + n)), .int (nI i_1)]) (congrArg (fun w9 : Int32 => ([.int w9, .int (nI i_1)] : List Value)) (nI_add q n)) ?_
  refine z_icmp_ge (tgt := 33) B dX12_get_10 rfl (fun c_1 => ?_) (fun c_1 => ?_)
  · have e_1 : q + n ≤ i_1 := (nI_leI (a := q + n) (b := i_1) (by omega) (by omega)).mp c_1
    have hnp9 : np n i_2 := (show i_1 - q = n by omega) ▸ b_3
    refine z_lload_n B dX12_get_33 rfl 1 rfl ?_
    exact z_ret_l B dX12_get_34 ⟨⟨_, rfl, hnp9⟩, rfl, hI1, (fun b9 h9 => ((hF1 b9 (fun j9 h8 h7 => (show False from h7).elim)).trans rfl))⟩
  · have e_2 : ¬ (q + n ≤ i_1) := fun h9 => c_1 ((nI_leI (a := q + n) (b := i_1) (by omega) (by omega)).mpr h9)
    refine z_lload_n B dX12_get_13 rfl 1 rfl ?_
    refine z_bipush (v := 8) B dX12_get_14 rfl ?_
    refine z_lshl (v := i_2 <<< ((8 : Int32).toInt64 &&& 63)) B dX12_get_16 rfl ?_
    refine z_aload_n B dX12_get_17 rfl 2 rfl ?_
    obtain ⟨n_1, v_1, n_2, h_1, b_16, b_4, b_5, b_6, b_7, b_8, b_9, b_10, b_11, b_12, b_13, b_14, b_15⟩ := im0 hI1
    replace b_4 : 1 ≤ rt := b_4
    replace b_5 : rt ≤ 1024 := b_5
    replace b_6 : fl ≤ 12 := b_6
    replace b_7 : pe ≤ 24 := b_7
    replace b_8 : le ≤ 700 := b_8
    replace b_9 : qu ≤ 12 := b_9
    replace b_10 : n_1 ≤ 8 := b_10
    replace b_11 : n_2 ≤ 24 := b_11
    replace b_12 : tk ≤ 24 := b_12
    replace b_13 : il ≤ 700 := b_13
    replace b_14 : nx ≤ 701 := b_14
    replace b_15 : st ≤ 701 := b_15
    have h_2 : Φl1 x = some (o_ 14 [.int th, .ref (x + 1), .ref (x + 2), .int ti, .int ra, .int (nI rt), .int ex, .int ad, .ref (x + 3), .ref (x + 4), .int me, .long se, .ref (x + 5), .int (nI fl), .int dr, .long ob, .long sa, .long sn, .long us, .ref (x + 6), .ref (x + 7), .int (nI pe), .ref (x + 8), .int (nI le), .ref (x + 9), .ref (x + 10), .int (nI qu), .ref (x + 11), .ref (x + 12), .ref (x + 13), .ref (x + 14), .ref (x + 15), .ref (x + 16), .int (nI n_1), .long v_1, .ref (x + 17), .ref (x + 18), .ref (x + 19), .ref (x + 20), .ref (x + 21), .ref (x + 22), .int (nI n_2), .ref (x + 23), .ref (x + 24), .int (nI tk), .ref (x + 25), .int (nI il), .int (nI nx), .int ec, .int ep, .int kn, .int (nI st), .int nu, .long va]) := h_1
    refine z_get (ref := "FlowExporterModel") (C := RX12) (T := TX12) (N := 54) (ci := 14) (v := .ref (x + 8)) B hu_X12_get_X12 rfl 22 (Nat.le_of_ble_eq_true rfl) hv_X12_get_36 rfl h_2 rfl dX12_get_18 ?_
    refine z_iload B dX12_get_21 0 rfl ?_
    obtain ⟨f_1, h_3, r_1⟩ := imk (k := 8) hI1
    replace r_1 : Rw 255 f_1 := r_1
    have h_4 : Φl1 (x + 8) = some (ai_ G 700 f_1) := h_3
    refine z_iald B h_4 (vp_in_nI (by omega) (by omega)) dX12_get_23 ?_
    obtain ⟨n_3, b_17, e_3⟩ := r_1 ((nI i_1).toNatClampNeg)
    refine z_top (st1 := [.int (nI n_3), .long (i_2 <<< ((8 : Int32).toInt64 &&& 63))]) (congrArg (fun w9 : Int32 => ([.int w9, .long (i_2 <<< ((8 : Int32).toInt64 &&& 63))] : List Value)) (e_3)) ?_
    refine z_i2l (v := (nI n_3).toInt64) B dX12_get_24 rfl ?_
    refine z_lor B dX12_get_25 ?_
    refine z_lstore_n (lv' := [(3, .long ((i_2 <<< ((8 : Int32).toInt64 &&& 63)) ||| ((nI n_3).toInt64))), (5, .int (nI i_1)), (0, .ref x), (1, .int (nI q)), (2, .int (nI n))]) B dX12_get_26 rfl (Nat.le_of_ble_eq_true rfl) rfl ?_
    refine z_iinc (k := 1) (v := nI (i_1 + 1)) (lv' := [(5, .int (nI (i_1 + 1))), (3, .long ((i_2 <<< ((8 : Int32).toInt64 &&& 63)) ||| ((nI n_3).toInt64))), (0, .ref x), (1, .int (nI q)), (2, .int (nI n))]) B dX12_get_27 rfl (nI_add i_1 1) (Nat.le_of_ble_eq_true rfl) rfl ?_
    refine z_goto (tgt := 5) B dX12_get_30 rfl ?_
    refine z_lv [0, 1, 2, 3, 4] rfl ?_
    exact ih1 (i_1 + 1, (i_2 <<< ((8 : Int32).toInt64 &&& 63)) ||| ((nI n_3).toInt64)) Φl1 (show q + n - (i_1 + 1) < q + n - i_1 by omega) ⟨hI1, (fun b9 h9 => ((hF1 b9 (fun j9 h8 h7 => (show False from h7).elim)).trans rfl)), (show (i_1 + 1) ≤ q + n by omega), (show q ≤ (i_1 + 1) by omega), ((show i_1 + 1 - q = (i_1 - q) + 1 by omega) ▸ np_step b_3), trivial⟩

theorem hu_X12_isDouble_X12 : ∀ w ∈ u_ws RX12 TX12 54, w ∈ wsX12_isDouble := fun _ h => List.mem_cons_of_mem _ (List.mem_append_left _ (List.mem_append_right _ (h)))

theorem hv_X12_isDouble_326 : Cond.fieldLink RX12 326 "FlowExporterModel" (TX12 33).2.1 (TX12 33).2.2.1 ∈ wsX12_isDouble := List.mem_cons_of_mem _ (List.mem_append_left _ (List.mem_append_left _ (List.mem_of_getElem? (i := 0) rfl)))

theorem hv_X12_isDouble_57 : Cond.fieldLink RX12 57 "FlowExporterModel" (TX12 31).2.1 (TX12 31).2.2.1 ∈ wsX12_isDouble := List.mem_cons_of_mem _ (List.mem_append_left _ (List.mem_append_left _ (List.mem_of_getElem? (i := 1) rfl)))

theorem hv_X12_isDouble_60 : Cond.fieldLink RX12 60 "FlowExporterModel" (TX12 32).2.1 (TX12 32).2.2.1 ∈ wsX12_isDouble := List.mem_cons_of_mem _ (List.mem_append_left _ (List.mem_append_left _ (List.mem_of_getElem? (i := 2) rfl)))

set_option maxHeartbeats 4000000 in
set_option maxRecDepth 100000 in
theorem r_isDouble (G : EnvG) (l : Launch) (Φ : Hm) (sz x : Nat) (rd : (Nat → Int32) → Prop) (nw : (Nat → Int32) → Prop) (cr : (Nat → Int64) → Prop) (tp : (Nat → Int32) → Prop) (tt : (Nat → Int64) → Prop) (sI : (Nat → Int32) → Prop) (sT : (Nat → Int32) → Prop) (pt : (Nat → Int32) → Prop) (ql : (Nat → Int32) → Prop) (fl : Nat) (pe : Nat) (le : Nat) (nx : Nat) (il : Nat) (qu : Nat) (kn : Int32) (ec : Int32) (nu : Int32) (va : Int64) (st : Nat) (ep : Int32) (ti : Int32) (ad : Int32) (ob : Int64) (ra : Int32) (rt : Nat) (ex : Int32) (sa : Int64) (us : Int64) (tk : Nat) (th : Int32) (me : Int32) (dr : Int32) (se : Int64) (sn : Int64) (a : Int64) (b : Int64) (hx : G.2.2.2 ≤ x) (hI : Im G x (rd, nw, cr, tp, tt, sI, sT, pt, ql, fl, pe, le, nx, il, qu, kn, ec, nu, va, st, ep, ti, ad, ob, ra, rt, ex, sa, us, tk, th, me, dr, se, sn) Φ) (hnw : ∀ f9 : Nat → Int32, nw f9 → NN f9) : Ct G l yX12_isDouble wsX12_isDouble ({ frames := 0, cells := 0, slots := 0, locals := 0 }) 0 0 [.ref x, .long a, .long b] Φ sz (fun v Φ1 sz1 => (∃ r9 : Int32, v = some (.int r9) ∧ (r9 = 0 ∨ r9 = 1)) ∧ sz1 = sz ∧ (Im G x (rd, nw, cr, tp, tt, sI, sT, pt, ql, fl, pe, le, nx, il, qu, kn, ec, nu, va, st, ep, ti, ad, ob, ra, rt, ex, sa, us, tk, th, me, dr, se, sn) Φ1) ∧ Fr x (fun j9 => False) Φ Φ1) := by
  refine Ct.of (cc := cX12_isDouble) (maxL := 6) (ret := (some .boolean)) (by decide) rfl (Nat.le_of_ble_eq_true rfl) ?_
  intro p9 e9 s9 m9 w9 t9 k9 B
  show Z p9 l e9 _ s9 m9 _ w9 t9 k9 _ G 6 0 [(0, .ref x), (1, .long a), (3, .long b)] [] Φ sz 0 0
  refine z_iconst (v := 0) B dX12_isDouble_0 rfl ?_
  refine z_istore (lv' := [(5, .int 0), (0, .ref x), (1, .long a), (3, .long b)]) B dX12_isDouble_1 (Nat.le_of_ble_eq_true rfl) rfl ?_
  refine z_lv [0, 1, 2, 3] rfl ?_
  refine z_loop (α := Nat) (fun (a9 : Nat) Φi => Im G x (rd, nw, cr, tp, tt, sI, sT, pt, ql, fl, pe, le, nx, il, qu, kn, ec, nu, va, st, ep, ti, ad, ob, ra, rt, ex, sa, us, tk, th, me, dr, se, sn) Φi ∧ Fr x (fun j9 => False) Φ Φi ∧ (a9 ≤ 8) ∧ True) (fun a9 => [(5, .int (nI a9)), (0, .ref x), (1, .long a), (3, .long b)]) (fun a9 => 8 - a9) ?_ (0) ⟨hI, fun _ _ => rfl, (show 0 ≤ 8 by omega), trivial⟩
  rintro i_1 Φl1 ⟨hI1, hF1, b_1, -⟩ ih1
  replace hI1 : Im G x (rd, nw, cr, tp, tt, sI, sT, pt, ql, fl, pe, le, nx, il, qu, kn, ec, nu, va, st, ep, ti, ad, ob, ra, rt, ex, sa, us, tk, th, me, dr, se, sn) Φl1 := hI1
  replace b_1 : i_1 ≤ 8 := b_1
  show Z p9 l e9 _ s9 m9 _ w9 t9 k9 _ G 6 3 [(5, .int (nI i_1)), (0, .ref x), (1, .long a), (3, .long b)] [] Φl1 _ _ _
  refine z_iload B dX12_isDouble_3 0 rfl ?_
  refine z_aload_n B dX12_isDouble_5 rfl 1 rfl ?_
  obtain ⟨n_1, v_1, n_2, h_1, b_14, b_2, b_3, b_4, b_5, b_6, b_7, b_8, b_9, b_10, b_11, b_12, b_13⟩ := im0 hI1
  replace b_2 : 1 ≤ rt := b_2
  replace b_3 : rt ≤ 1024 := b_3
  replace b_4 : fl ≤ 12 := b_4
  replace b_5 : pe ≤ 24 := b_5
  replace b_6 : le ≤ 700 := b_6
  replace b_7 : qu ≤ 12 := b_7
  replace b_8 : n_1 ≤ 8 := b_8
  replace b_9 : n_2 ≤ 24 := b_9
  replace b_10 : tk ≤ 24 := b_10
  replace b_11 : il ≤ 700 := b_11
  replace b_12 : nx ≤ 701 := b_12
  replace b_13 : st ≤ 701 := b_13
  have h_2 : Φl1 x = some (o_ 14 [.int th, .ref (x + 1), .ref (x + 2), .int ti, .int ra, .int (nI rt), .int ex, .int ad, .ref (x + 3), .ref (x + 4), .int me, .long se, .ref (x + 5), .int (nI fl), .int dr, .long ob, .long sa, .long sn, .long us, .ref (x + 6), .ref (x + 7), .int (nI pe), .ref (x + 8), .int (nI le), .ref (x + 9), .ref (x + 10), .int (nI qu), .ref (x + 11), .ref (x + 12), .ref (x + 13), .ref (x + 14), .ref (x + 15), .ref (x + 16), .int (nI n_1), .long v_1, .ref (x + 17), .ref (x + 18), .ref (x + 19), .ref (x + 20), .ref (x + 21), .ref (x + 22), .int (nI n_2), .ref (x + 23), .ref (x + 24), .int (nI tk), .ref (x + 25), .int (nI il), .int (nI nx), .int ec, .int ep, .int kn, .int (nI st), .int nu, .long va]) := h_1
  refine z_get (ref := "FlowExporterModel") (C := RX12) (T := TX12) (N := 54) (ci := 14) (v := .int (nI n_1)) B hu_X12_isDouble_X12 rfl 33 (Nat.le_of_ble_eq_true rfl) hv_X12_isDouble_326 rfl h_2 rfl dX12_isDouble_6 ?_
  refine z_icmp_ge (tgt := 44) B dX12_isDouble_9 rfl (fun c_1 => ?_) (fun c_1 => ?_)
  · have e_1 : n_1 ≤ i_1 := (nI_leI (a := n_1) (b := i_1) (by omega) (by omega)).mp c_1
    refine z_iconst (v := 0) B dX12_isDouble_44 rfl ?_
    exact z_ret_z B dX12_isDouble_45 (by decide) ⟨⟨_, rfl, by decide⟩, rfl, hI1, (fun b9 h9 => ((hF1 b9 (fun j9 h8 h7 => (show False from h7).elim)).trans rfl))⟩
  · have e_2 : ¬ (n_1 ≤ i_1) := fun h9 => c_1 ((nI_leI (a := n_1) (b := i_1) (by omega) (by omega)).mpr h9)
    refine z_aload_n B dX12_isDouble_12 rfl 1 rfl ?_
    refine z_get (ref := "FlowExporterModel") (C := RX12) (T := TX12) (N := 54) (ci := 14) (v := .ref (x + 15)) B hu_X12_isDouble_X12 rfl 31 (Nat.le_of_ble_eq_true rfl) hv_X12_isDouble_57 rfl h_2 rfl dX12_isDouble_13 ?_
    refine z_iload B dX12_isDouble_16 0 rfl ?_
    obtain ⟨f_1, h_3⟩ := imk (k := 15) hI1
    have h_4 : Φl1 (x + 15) = some (al_ G 8 f_1) := h_3
    refine z_lald B h_4 (vp_in_nI (by omega) (by omega)) dX12_isDouble_18 ?_
    refine z_fl (fun v_2 => ?_)
    refine z_lload_n B dX12_isDouble_19 rfl 2 rfl ?_
    refine z_lcmp B dX12_isDouble_20 ?_
    refine z_fi (fun v_3 => ?_)
    refine z_if_ne (tgt := 38) B dX12_isDouble_21 rfl (fun c_2 => ?_) (fun c_2 => ?_)
    · refine z_iinc (k := 0) (v := nI (i_1 + 1)) (lv' := [(5, .int (nI (i_1 + 1))), (0, .ref x), (1, .long a), (3, .long b)]) B dX12_isDouble_38 rfl (nI_add i_1 1) (Nat.le_of_ble_eq_true rfl) rfl ?_
      refine z_goto (tgt := 3) B dX12_isDouble_41 rfl ?_
      refine z_lv [0, 1, 2, 3] rfl ?_
      exact ih1 (i_1 + 1) Φl1 (show 8 - (i_1 + 1) < 8 - i_1 by omega) ⟨hI1, (fun b9 h9 => ((hF1 b9 (fun j9 h8 h7 => (show False from h7).elim)).trans rfl)), (show (i_1 + 1) ≤ 8 by omega), trivial⟩
    · refine z_aload_n B dX12_isDouble_24 rfl 1 rfl ?_
      refine z_get (ref := "FlowExporterModel") (C := RX12) (T := TX12) (N := 54) (ci := 14) (v := .ref (x + 16)) B hu_X12_isDouble_X12 rfl 32 (Nat.le_of_ble_eq_true rfl) hv_X12_isDouble_60 rfl h_2 rfl dX12_isDouble_25 ?_
      refine z_iload B dX12_isDouble_28 0 rfl ?_
      obtain ⟨f_2, h_5⟩ := imk (k := 16) hI1
      have h_6 : Φl1 (x + 16) = some (al_ G 8 f_2) := h_5
      refine z_lald B h_6 (vp_in_nI (by omega) (by omega)) dX12_isDouble_30 ?_
      refine z_fl (fun v_4 => ?_)
      refine z_lload_n B dX12_isDouble_31 rfl 3 rfl ?_
      refine z_lcmp B dX12_isDouble_32 ?_
      refine z_fi (fun v_5 => ?_)
      refine z_if_ne (tgt := 38) B dX12_isDouble_33 rfl (fun c_3 => ?_) (fun c_3 => ?_)
      · refine z_iinc (k := 0) (v := nI (i_1 + 1)) (lv' := [(5, .int (nI (i_1 + 1))), (0, .ref x), (1, .long a), (3, .long b)]) B dX12_isDouble_38 rfl (nI_add i_1 1) (Nat.le_of_ble_eq_true rfl) rfl ?_
        refine z_goto (tgt := 3) B dX12_isDouble_41 rfl ?_
        refine z_lv [0, 1, 2, 3] rfl ?_
        exact ih1 (i_1 + 1) Φl1 (show 8 - (i_1 + 1) < 8 - i_1 by omega) ⟨hI1, (fun b9 h9 => ((hF1 b9 (fun j9 h8 h7 => (show False from h7).elim)).trans rfl)), (show (i_1 + 1) ≤ 8 by omega), trivial⟩
      · refine z_iconst (v := 1) B dX12_isDouble_36 rfl ?_
        exact z_ret_z B dX12_isDouble_37 (by decide) ⟨⟨_, rfl, by decide⟩, rfl, hI1, (fun b9 h9 => ((hF1 b9 (fun j9 h8 h7 => (show False from h7).elim)).trans rfl))⟩

theorem hu_X12_account_X12 : ∀ w ∈ u_ws RX12 TX12 54, w ∈ wsX12_account := fun _ h => List.mem_cons_of_mem _ (List.mem_append_left _ (List.mem_append_right _ (h)))

theorem hv_X12_account_326 : Cond.fieldLink RX12 326 "FlowExporterModel" (TX12 33).2.1 (TX12 33).2.2.1 ∈ wsX12_account := List.mem_cons_of_mem _ (List.mem_append_left _ (List.mem_append_left _ (List.mem_of_getElem? (i := 5) rfl)))

theorem hv_X12_account_57 : Cond.fieldLink RX12 57 "FlowExporterModel" (TX12 31).2.1 (TX12 31).2.2.1 ∈ wsX12_account := List.mem_cons_of_mem _ (List.mem_append_left _ (List.mem_append_left _ (List.mem_of_getElem? (i := 6) rfl)))

theorem hv_X12_account_60 : Cond.fieldLink RX12 60 "FlowExporterModel" (TX12 32).2.1 (TX12 32).2.2.1 ∈ wsX12_account := List.mem_cons_of_mem _ (List.mem_append_left _ (List.mem_append_left _ (List.mem_of_getElem? (i := 2) rfl)))

theorem hv_X12_account_331 : Cond.fieldLink RX12 331 "FlowExporterModel" (TX12 34).2.1 (TX12 34).2.2.1 ∈ wsX12_account := List.mem_cons_of_mem _ (List.mem_append_left _ (List.mem_append_left _ (List.mem_of_getElem? (i := 0) rfl)))

theorem hv_X12_account_45 : Cond.fieldLink RX12 45 "FlowExporterModel" (TX12 27).2.1 (TX12 27).2.2.1 ∈ wsX12_account := List.mem_cons_of_mem _ (List.mem_append_left _ (List.mem_append_left _ (List.mem_of_getElem? (i := 3) rfl)))

theorem dX12_startExporter_0 : decode cX12_startExporter 0 = .ok (.aload_n 0, 1) := by decide +kernel
theorem dX12_startExporter_1 : decode cX12_startExporter 1 = .ok (.iconst 0, 1) := by decide +kernel
theorem dX12_startExporter_2 : decode cX12_startExporter 2 = .ok (.putfield 133, 3) := by decide +kernel
theorem dX12_startExporter_5 : decode cX12_startExporter 5 = .ok (.aload_n 0, 1) := by decide +kernel
theorem dX12_startExporter_6 : decode cX12_startExporter 6 = .ok (.iconst 0, 1) := by decide +kernel
theorem dX12_startExporter_7 : decode cX12_startExporter 7 = .ok (.putfield 136, 3) := by decide +kernel
theorem dX12_startExporter_10 : decode cX12_startExporter 10 = .ok (.aload_n 0, 1) := by decide +kernel
theorem dX12_startExporter_11 : decode cX12_startExporter 11 = .ok (.lconst 0, 1) := by decide +kernel
theorem dX12_startExporter_12 : decode cX12_startExporter 12 = .ok (.putfield 201, 3) := by decide +kernel
theorem dX12_startExporter_15 : decode cX12_startExporter 15 = .ok (.iconst 0, 1) := by decide +kernel
theorem dX12_startExporter_16 : decode cX12_startExporter 16 = .ok (.istore_n 1, 1) := by decide +kernel
theorem dX12_startExporter_17 : decode cX12_startExporter 17 = .ok (.iload_n 1, 1) := by decide +kernel
theorem dX12_startExporter_18 : decode cX12_startExporter 18 = .ok (.iconst 4, 1) := by decide +kernel
theorem dX12_startExporter_19 : decode cX12_startExporter 19 = .ok (.if_icmp .ge 16, 3) := by decide +kernel
theorem dX12_startExporter_22 : decode cX12_startExporter 22 = .ok (.aload_n 0, 1) := by decide +kernel
theorem dX12_startExporter_23 : decode cX12_startExporter 23 = .ok (.getfield 20, 3) := by decide +kernel
theorem dX12_startExporter_26 : decode cX12_startExporter 26 = .ok (.iload_n 1, 1) := by decide +kernel
theorem dX12_startExporter_27 : decode cX12_startExporter 27 = .ok (.iconst (-1), 1) := by decide +kernel
theorem dX12_startExporter_28 : decode cX12_startExporter 28 = .ok (.iastore, 1) := by decide +kernel
theorem dX12_startExporter_29 : decode cX12_startExporter 29 = .ok (.iinc 1 1, 3) := by decide +kernel
theorem dX12_startExporter_32 : decode cX12_startExporter 32 = .ok (.goto (-15), 3) := by decide +kernel
theorem dX12_startExporter_35 : decode cX12_startExporter 35 = .ok (.return_, 1) := by decide +kernel
set_option maxRecDepth 20000 in
theorem ggX12_restartExporter_X12_startExporter : GoodIn wsX12_restartExporter wsX12_startExporter := goodIn_ca ((goodIn_ca (goodIn_r _ [7, 2, 8, 9, 10] rfl (by decide +kernel)) (goodIn_sub (fun _ h => List.mem_cons_of_mem _ (List.mem_append_left _ (List.mem_append_right _ h))) gw_wsX120))) (goodIn_sub (fun _ h => List.mem_cons_of_mem _ (List.mem_append_right _ h)) (all_fg _))
set_option maxRecDepth 20000 in
theorem gX12_restartExporter_X12_startExporter : GoodIn wsX12_restartExporter (wsV RX12 151 RX12 yX12_startExporter wsX12_startExporter) := goodIn_app (goodIn_m (mem_cA (List.mem_cons_of_mem _ (List.mem_append_left _ (List.mem_append_left _ (List.mem_of_getElem? (i := 2) rfl)))) (mem_cA (List.mem_cons_of_mem _ (List.mem_append_left _ (List.mem_append_left _ (List.mem_of_getElem? (i := 3) rfl)))) (mem_cA (List.mem_cons_of_mem _ (List.mem_append_left _ (List.mem_append_left _ (List.mem_of_getElem? (i := 4) rfl)))) (mem_cA (List.mem_cons_of_mem _ (List.mem_append_left _ (List.mem_append_left _ (List.mem_of_getElem? (i := 5) rfl)))) mem_cZ)))) (by decide +kernel)) ggX12_restartExporter_X12_startExporter
theorem dX12_restartExporter_0 : decode cX12_restartExporter 0 = .ok (.aload_n 0, 1) := by decide +kernel
theorem dX12_restartExporter_1 : decode cX12_restartExporter 1 = .ok (.iconst 0, 1) := by decide +kernel
theorem dX12_restartExporter_2 : decode cX12_restartExporter 2 = .ok (.putfield 1, 3) := by decide +kernel
theorem dX12_restartExporter_5 : decode cX12_restartExporter 5 = .ok (.aload_n 0, 1) := by decide +kernel
theorem dX12_restartExporter_6 : decode cX12_restartExporter 6 = .ok (.getfield 133, 3) := by decide +kernel
theorem dX12_restartExporter_9 : decode cX12_restartExporter 9 = .ok (.istore_n 1, 1) := by decide +kernel
theorem dX12_restartExporter_10 : decode cX12_restartExporter 10 = .ok (.aload_n 0, 1) := by decide +kernel
theorem dX12_restartExporter_11 : decode cX12_restartExporter 11 = .ok (.invokevirtual 151, 3) := by decide +kernel
theorem dX12_restartExporter_14 : decode cX12_restartExporter 14 = .ok (.iload_n 1, 1) := by decide +kernel
theorem dX12_restartExporter_15 : decode cX12_restartExporter 15 = .ok (.ireturn, 1) := by decide +kernel
theorem dX12_startCollector_0 : decode cX12_startCollector 0 = .ok (.iconst 0, 1) := by decide +kernel
theorem dX12_startCollector_1 : decode cX12_startCollector 1 = .ok (.istore_n 1, 1) := by decide +kernel
theorem dX12_startCollector_2 : decode cX12_startCollector 2 = .ok (.iload_n 1, 1) := by decide +kernel
theorem dX12_startCollector_3 : decode cX12_startCollector 3 = .ok (.iconst 4, 1) := by decide +kernel
theorem dX12_startCollector_4 : decode cX12_startCollector 4 = .ok (.if_icmp .ge 16, 3) := by decide +kernel
theorem dX12_startCollector_7 : decode cX12_startCollector 7 = .ok (.aload_n 0, 1) := by decide +kernel
theorem dX12_startCollector_8 : decode cX12_startCollector 8 = .ok (.getfield 48, 3) := by decide +kernel
theorem dX12_startCollector_11 : decode cX12_startCollector 11 = .ok (.iload_n 1, 1) := by decide +kernel
theorem dX12_startCollector_12 : decode cX12_startCollector 12 = .ok (.iconst 0, 1) := by decide +kernel
theorem dX12_startCollector_13 : decode cX12_startCollector 13 = .ok (.iastore, 1) := by decide +kernel
theorem dX12_startCollector_14 : decode cX12_startCollector 14 = .ok (.iinc 1 1, 3) := by decide +kernel
theorem dX12_startCollector_17 : decode cX12_startCollector 17 = .ok (.goto (-15), 3) := by decide +kernel
theorem dX12_startCollector_20 : decode cX12_startCollector 20 = .ok (.aload_n 0, 1) := by decide +kernel
theorem dX12_startCollector_21 : decode cX12_startCollector 21 = .ok (.iconst 0, 1) := by decide +kernel
theorem dX12_startCollector_22 : decode cX12_startCollector 22 = .ok (.putfield 326, 3) := by decide +kernel
theorem dX12_startCollector_25 : decode cX12_startCollector 25 = .ok (.aload_n 0, 1) := by decide +kernel
theorem dX12_startCollector_26 : decode cX12_startCollector 26 = .ok (.ldc2_w 329, 3) := by decide +kernel
theorem dX12_startCollector_29 : decode cX12_startCollector 29 = .ok (.putfield 331, 3) := by decide +kernel
theorem dX12_startCollector_32 : decode cX12_startCollector 32 = .ok (.return_, 1) := by decide +kernel
set_option maxHeartbeats 4000000 in
set_option maxRecDepth 100000 in
theorem r_startExporter (G : EnvG) (l : Launch) (Φ : Hm) (sz x : Nat) (rd : (Nat → Int32) → Prop) (nw : (Nat → Int32) → Prop) (cr : (Nat → Int64) → Prop) (tp : (Nat → Int32) → Prop) (tt : (Nat → Int64) → Prop) (sI : (Nat → Int32) → Prop) (sT : (Nat → Int32) → Prop) (pt : (Nat → Int32) → Prop) (ql : (Nat → Int32) → Prop) (fl : Nat) (pe : Nat) (le : Nat) (nx : Nat) (il : Nat) (qu : Nat) (kn : Int32) (ec : Int32) (nu : Int32) (va : Int64) (st : Nat) (ep : Int32) (ti : Int32) (ad : Int32) (ob : Int64) (ra : Int32) (rt : Nat) (ex : Int32) (sa : Int64) (us : Int64) (tk : Nat) (th : Int32) (me : Int32) (dr : Int32) (se : Int64) (sn : Int64)  (hx : G.2.2.2 ≤ x) (hI : Im G x (rd, nw, cr, tp, tt, sI, sT, pt, ql, fl, pe, le, nx, il, qu, kn, ec, nu, va, st, ep, ti, ad, ob, ra, rt, ex, sa, us, tk, th, me, dr, se, sn) Φ) (hnw : ∀ f9 : Nat → Int32, nw f9 → NN f9) : Ct G l yX12_startExporter wsX12_startExporter ({ frames := 0, cells := 0, slots := 0, locals := 0 }) 0 0 [.ref x] Φ sz (fun v Φ1 sz1 => (v = none) ∧ sz1 = sz ∧ (Im G x (rd, nw, cr, tp, tt, (SiQ (fun _ => 0)), sT, pt, ql, 0, 0, le, nx, il, qu, kn, ec, nu, va, st, ep, ti, ad, ob, ra, rt, ex, sa, us, tk, th, me, dr, 0, sn) Φ1) ∧ Fr x (fun j9 => j9 = 0 ∨ j9 = 3) Φ Φ1) := by
  refine Ct.of (cc := cX12_startExporter) (maxL := 2) (ret := none) (by decide) rfl (Nat.le_of_ble_eq_true rfl) ?_
  intro p9 e9 s9 m9 w9 t9 k9 B
  show Z p9 l e9 _ s9 m9 _ w9 t9 k9 _ G 2 0 [(0, .ref x)] [] Φ sz 0 0
  refine z_aload_n B dX12_startExporter_0 rfl 0 rfl ?_
  refine z_iconst (v := 0) B dX12_startExporter_1 rfl ?_
  obtain ⟨n_1, v_1, n_2, h_1, b_13, b_1, b_2, b_3, b_4, b_5, b_6, b_7, b_8, b_9, b_10, b_11, b_12⟩ := im0 hI
  replace b_1 : 1 ≤ rt := b_1
  replace b_2 : rt ≤ 1024 := b_2
  replace b_3 : fl ≤ 12 := b_3
  replace b_4 : pe ≤ 24 := b_4
  replace b_5 : le ≤ 700 := b_5
  replace b_6 : qu ≤ 12 := b_6
  replace b_7 : n_1 ≤ 8 := b_7
  replace b_8 : n_2 ≤ 24 := b_8
  replace b_9 : tk ≤ 24 := b_9
  replace b_10 : il ≤ 700 := b_10
  replace b_11 : nx ≤ 701 := b_11
  replace b_12 : st ≤ 701 := b_12
  have h_2 : Φ x = some (o_ 14 [.int th, .ref (x + 1), .ref (x + 2), .int ti, .int ra, .int (nI rt), .int ex, .int ad, .ref (x + 3), .ref (x + 4), .int me, .long se, .ref (x + 5), .int (nI fl), .int dr, .long ob, .long sa, .long sn, .long us, .ref (x + 6), .ref (x + 7), .int (nI pe), .ref (x + 8), .int (nI le), .ref (x + 9), .ref (x + 10), .int (nI qu), .ref (x + 11), .ref (x + 12), .ref (x + 13), .ref (x + 14), .ref (x + 15), .ref (x + 16), .int (nI n_1), .long v_1, .ref (x + 17), .ref (x + 18), .ref (x + 19), .ref (x + 20), .ref (x + 21), .ref (x + 22), .int (nI n_2), .ref (x + 23), .ref (x + 24), .int (nI tk), .ref (x + 25), .int (nI il), .int (nI nx), .int ec, .int ep, .int kn, .int (nI st), .int nu, .long va]) := h_1
  refine z_put (ref := "FlowExporterModel") (C := RX12) (T := TX12) (N := 54) (ci := 14) (v := .int 0) B hu_X12_startExporter_X12 tyX12 tyX12_ok nmX12 rfl 13 (Nat.le_of_ble_eq_true rfl) hv_X12_startExporter_133 rfl (Or.inl rfl) h_2 hx rfl rfl (Nat.le_of_ble_eq_true rfl) dX12_startExporter_2 (fun Φ1 hΦ1 => ?_)
  have h_3 : Φ1 x = some (o_ 14 [.int th, .ref (x + 1), .ref (x + 2), .int ti, .int ra, .int (nI rt), .int ex, .int ad, .ref (x + 3), .ref (x + 4), .int me, .long se, .ref (x + 5), .int 0, .int dr, .long ob, .long sa, .long sn, .long us, .ref (x + 6), .ref (x + 7), .int (nI pe), .ref (x + 8), .int (nI le), .ref (x + 9), .ref (x + 10), .int (nI qu), .ref (x + 11), .ref (x + 12), .ref (x + 13), .ref (x + 14), .ref (x + 15), .ref (x + 16), .int (nI n_1), .long v_1, .ref (x + 17), .ref (x + 18), .ref (x + 19), .ref (x + 20), .ref (x + 21), .ref (x + 22), .int (nI n_2), .ref (x + 23), .ref (x + 24), .int (nI tk), .ref (x + 25), .int (nI il), .int (nI nx), .int ec, .int ep, .int kn, .int (nI st), .int nu, .long va]) := fset_at hΦ1
  have hI1 : Im G x (rd, nw, cr, tp, tt, sI, sT, pt, ql, 0, pe, le, nx, il, qu, kn, ec, nu, va, st, ep, ti, ad, ob, ra, rt, ex, sa, us, tk, th, me, dr, se, sn) Φ1 := Im.put0 hI hΦ1 ⟨n_1, v_1, n_2, rfl, b_13, b_1, b_2, (show 0 ≤ 12 by omega), b_4, b_5, b_6, b_7, b_8, b_9, b_10, b_11, b_12⟩
  refine z_aload_n B dX12_startExporter_5 rfl 0 rfl ?_
  refine z_iconst (v := 0) B dX12_startExporter_6 rfl ?_
  refine z_put (ref := "FlowExporterModel") (C := RX12) (T := TX12) (N := 54) (ci := 14) (v := .int 0) B hu_X12_startExporter_X12 tyX12 tyX12_ok nmX12 rfl 21 (Nat.le_of_ble_eq_true rfl) hv_X12_startExporter_136 rfl (Or.inl rfl) h_3 hx rfl rfl (Nat.le_of_ble_eq_true rfl) dX12_startExporter_7 (fun Φ2 hΦ2 => ?_)
  have h_4 : Φ2 x = some (o_ 14 [.int th, .ref (x + 1), .ref (x + 2), .int ti, .int ra, .int (nI rt), .int ex, .int ad, .ref (x + 3), .ref (x + 4), .int me, .long se, .ref (x + 5), .int 0, .int dr, .long ob, .long sa, .long sn, .long us, .ref (x + 6), .ref (x + 7), .int 0, .ref (x + 8), .int (nI le), .ref (x + 9), .ref (x + 10), .int (nI qu), .ref (x + 11), .ref (x + 12), .ref (x + 13), .ref (x + 14), .ref (x + 15), .ref (x + 16), .int (nI n_1), .long v_1, .ref (x + 17), .ref (x + 18), .ref (x + 19), .ref (x + 20), .ref (x + 21), .ref (x + 22), .int (nI n_2), .ref (x + 23), .ref (x + 24), .int (nI tk), .ref (x + 25), .int (nI il), .int (nI nx), .int ec, .int ep, .int kn, .int (nI st), .int nu, .long va]) := fset_at hΦ2
  have hI2 : Im G x (rd, nw, cr, tp, tt, sI, sT, pt, ql, 0, 0, le, nx, il, qu, kn, ec, nu, va, st, ep, ti, ad, ob, ra, rt, ex, sa, us, tk, th, me, dr, se, sn) Φ2 := Im.put0 hI1 hΦ2 ⟨n_1, v_1, n_2, rfl, b_13, b_1, b_2, (show 0 ≤ 12 by omega), (show 0 ≤ 24 by omega), b_5, b_6, b_7, b_8, b_9, b_10, b_11, b_12⟩
  refine z_aload_n B dX12_startExporter_10 rfl 0 rfl ?_
  refine z_lconst (v := 0) B dX12_startExporter_11 rfl ?_
  refine z_put (ref := "FlowExporterModel") (C := RX12) (T := TX12) (N := 54) (ci := 14) (v := .long 0) B hu_X12_startExporter_X12 tyX12 tyX12_ok nmX12 rfl 11 (Nat.le_of_ble_eq_true rfl) hv_X12_startExporter_201 rfl (Or.inl rfl) h_4 hx rfl rfl (Nat.le_of_ble_eq_true rfl) dX12_startExporter_12 (fun Φ3 hΦ3 => ?_)
  have h_5 : Φ3 x = some (o_ 14 [.int th, .ref (x + 1), .ref (x + 2), .int ti, .int ra, .int (nI rt), .int ex, .int ad, .ref (x + 3), .ref (x + 4), .int me, .long 0, .ref (x + 5), .int 0, .int dr, .long ob, .long sa, .long sn, .long us, .ref (x + 6), .ref (x + 7), .int 0, .ref (x + 8), .int (nI le), .ref (x + 9), .ref (x + 10), .int (nI qu), .ref (x + 11), .ref (x + 12), .ref (x + 13), .ref (x + 14), .ref (x + 15), .ref (x + 16), .int (nI n_1), .long v_1, .ref (x + 17), .ref (x + 18), .ref (x + 19), .ref (x + 20), .ref (x + 21), .ref (x + 22), .int (nI n_2), .ref (x + 23), .ref (x + 24), .int (nI tk), .ref (x + 25), .int (nI il), .int (nI nx), .int ec, .int ep, .int kn, .int (nI st), .int nu, .long va]) := fset_at hΦ3
  have hI3 : Im G x (rd, nw, cr, tp, tt, sI, sT, pt, ql, 0, 0, le, nx, il, qu, kn, ec, nu, va, st, ep, ti, ad, ob, ra, rt, ex, sa, us, tk, th, me, dr, 0, sn) Φ3 := Im.put0 hI2 hΦ3 ⟨n_1, v_1, n_2, rfl, b_13, b_1, b_2, (show 0 ≤ 12 by omega), (show 0 ≤ 24 by omega), b_5, b_6, b_7, b_8, b_9, b_10, b_11, b_12⟩
  refine z_iconst (v := 0) B dX12_startExporter_15 rfl ?_
  refine z_istore_n (lv' := [(1, .int 0), (0, .ref x)]) B dX12_startExporter_16 rfl (Nat.le_of_ble_eq_true rfl) rfl ?_
  refine z_lv [0, 1] rfl ?_
  refine z_loop (α := Nat) (fun (a9 : Nat) Φi => Im G x (rd, nw, cr, tp, tt, (SiZ a9), sT, pt, ql, 0, 0, le, nx, il, qu, kn, ec, nu, va, st, ep, ti, ad, ob, ra, rt, ex, sa, us, tk, th, me, dr, 0, sn) Φi ∧ Fr x (fun j9 => j9 = 0 ∨ j9 = 3) Φ3 Φi ∧ (a9 ≤ 4) ∧ True) (fun a9 => [(1, .int (nI a9)), (0, .ref x)]) (fun a9 => 4 - a9) ?_ (0) ⟨(Im.weak5 hI3 (fun _ q9 => q9) (fun _ q9 => q9) (fun _ q9 => q9) (fun _ q9 => q9) (fun _ q9 => q9) (fun _ _ => SiZ.z) (fun _ q9 => q9) (fun _ q9 => q9) (fun _ q9 => q9)), fun _ _ => rfl, (show 0 ≤ 4 by omega), trivial⟩
  rintro i_1 Φl1 ⟨hI4, hF1, b_14, -⟩ ih1
  replace hI4 : Im G x (rd, nw, cr, tp, tt, (SiZ i_1), sT, pt, ql, 0, 0, le, nx, il, qu, kn, ec, nu, va, st, ep, ti, ad, ob, ra, rt, ex, sa, us, tk, th, me, dr, 0, sn) Φl1 := hI4
  replace b_14 : i_1 ≤ 4 := b_14
  show Z p9 l e9 _ s9 m9 _ w9 t9 k9 _ G 2 17 [(1, .int (nI i_1)), (0, .ref x)] [] Φl1 _ _ _
  refine z_iload_n B dX12_startExporter_17 rfl 0 rfl ?_
  refine z_iconst (v := 4) B dX12_startExporter_18 rfl ?_
  refine z_icmp_ge (tgt := 35) B dX12_startExporter_19 rfl (fun c_1 => ?_) (fun c_1 => ?_)
  · have e_1 : 4 ≤ i_1 := (nI_leI (a := 4) (b := i_1) (by omega) (by omega)).mp c_1
    have hI5 : Im G x (rd, nw, cr, tp, tt, (SiQ (fun _ => 0)), sT, pt, ql, 0, 0, le, nx, il, qu, kn, ec, nu, va, st, ep, ti, ad, ob, ra, rt, ex, sa, us, tk, th, me, dr, 0, sn) Φl1 := Im.weak5 hI4 (fun _ q9 => q9) (fun _ q9 => q9) (fun _ q9 => q9) (fun _ q9 => q9) (fun _ q9 => q9) (fun _ q9 => SiZ.f (show 4 ≤ i_1 by omega) q9) (fun _ q9 => q9) (fun _ q9 => q9) (fun _ q9 => q9)
    exact z_ret_v B dX12_startExporter_35 ⟨rfl, rfl, hI5, (fun b9 h9 => ((hF1 b9 h9).trans ((fset_fr hΦ3 (fun h8 => h9 (0) h8 (show 0 = 0 ∨ 0 = 3 by decide))).trans ((fset_fr hΦ2 (fun h8 => h9 (0) h8 (show 0 = 0 ∨ 0 = 3 by decide))).trans ((fset_fr hΦ1 (fun h8 => h9 (0) h8 (show 0 = 0 ∨ 0 = 3 by decide))).trans rfl)))))⟩
  · have e_2 : ¬ (4 ≤ i_1) := fun h9 => c_1 ((nI_leI (a := 4) (b := i_1) (by omega) (by omega)).mpr h9)
    refine z_aload_n B dX12_startExporter_22 rfl 1 rfl ?_
    obtain ⟨n_3, v_2, n_4, h_6, b_27, b_15, b_16, b_17, b_18, b_19, b_20, b_21, b_22, b_23, b_24, b_25, b_26⟩ := im0 hI4
    replace b_15 : 1 ≤ rt := b_15
    replace b_16 : rt ≤ 1024 := b_16
    replace b_17 : 0 ≤ 12 := b_17
    replace b_18 : 0 ≤ 24 := b_18
    replace b_19 : le ≤ 700 := b_19
    replace b_20 : qu ≤ 12 := b_20
    replace b_21 : n_3 ≤ 8 := b_21
    replace b_22 : n_4 ≤ 24 := b_22
    replace b_23 : tk ≤ 24 := b_23
    replace b_24 : il ≤ 700 := b_24
    replace b_25 : nx ≤ 701 := b_25
    replace b_26 : st ≤ 701 := b_26
    have h_7 : Φl1 x = some (o_ 14 [.int th, .ref (x + 1), .ref (x + 2), .int ti, .int ra, .int (nI rt), .int ex, .int ad, .ref (x + 3), .ref (x + 4), .int me, .long 0, .ref (x + 5), .int (nI 0), .int dr, .long ob, .long sa, .long sn, .long us, .ref (x + 6), .ref (x + 7), .int (nI 0), .ref (x + 8), .int (nI le), .ref (x + 9), .ref (x + 10), .int (nI qu), .ref (x + 11), .ref (x + 12), .ref (x + 13), .ref (x + 14), .ref (x + 15), .ref (x + 16), .int (nI n_3), .long v_2, .ref (x + 17), .ref (x + 18), .ref (x + 19), .ref (x + 20), .ref (x + 21), .ref (x + 22), .int (nI n_4), .ref (x + 23), .ref (x + 24), .int (nI tk), .ref (x + 25), .int (nI il), .int (nI nx), .int ec, .int ep, .int kn, .int (nI st), .int nu, .long va]) := h_6
    refine z_get (ref := "FlowExporterModel") (C := RX12) (T := TX12) (N := 54) (ci := 14) (v := .ref (x + 3)) B hu_X12_startExporter_X12 rfl 8 (Nat.le_of_ble_eq_true rfl) hv_X12_startExporter_20 rfl h_7 rfl dX12_startExporter_23 ?_
    refine z_iload_n B dX12_startExporter_26 rfl 0 rfl ?_
    refine z_iconst (v := (-1)) B dX12_startExporter_27 rfl ?_
    obtain ⟨f_1, h_8, r_1⟩ := imk (k := 3) hI4
    replace r_1 : (SiZ i_1) f_1 := r_1
    have h_9 : Φl1 (x + 3) = some (ai_ G 4 f_1) := h_8
    refine z_iast B h_9 (Nat.le_trans hx (Nat.le_add_right x 3)) (vp_in_nI (by omega) (by omega)) dX12_startExporter_28 (fun Φ4 hΦ4 => ?_)
    have h_10 : Φ4 (x + 3) = some (ai_ G 4 (upd f_1 (nI i_1).toNatClampNeg (-1))) := fset_at hΦ4
    have hI6 : Im G x (rd, nw, cr, tp, tt, (fun g9 => g9 = (upd f_1 (nI i_1).toNatClampNeg (-1))), sT, pt, ql, 0, 0, le, nx, il, qu, kn, ec, nu, va, st, ep, ti, ad, ob, ra, rt, ex, sa, us, tk, th, me, dr, 0, sn) Φ4 := Im.put3 (sI1 := (fun g9 => g9 = (upd f_1 (nI i_1).toNatClampNeg (-1)))) hI4 hΦ4 rfl
    refine z_iinc (k := 0) (v := nI (i_1 + 1)) (lv' := [(1, .int (nI (i_1 + 1))), (0, .ref x)]) B dX12_startExporter_29 rfl (nI_add i_1 1) (Nat.le_of_ble_eq_true rfl) rfl ?_
    refine z_goto (tgt := 17) B dX12_startExporter_32 rfl ?_
    refine z_lv [0, 1] rfl ?_
    exact ih1 (i_1 + 1) Φ4 (show 4 - (i_1 + 1) < 4 - i_1 by omega) ⟨(Im.weak5 hI6 (fun _ q9 => q9) (fun _ q9 => q9) (fun _ q9 => q9) (fun _ q9 => q9) (fun _ q9 => q9) (eqw (SiZ.s r_1 (nI_clamp (by omega)))) (fun _ q9 => q9) (fun _ q9 => q9) (fun _ q9 => q9)), (fun b9 h9 => ((fset_fr hΦ4 (fun h8 => h9 (3) h8 (show 3 = 0 ∨ 3 = 3 by decide))).trans ((hF1 b9 h9).trans rfl))), (show (i_1 + 1) ≤ 4 by omega), trivial⟩

theorem hu_X12_startCollector_X12 : ∀ w ∈ u_ws RX12 TX12 54, w ∈ wsX12_startCollector := fun _ h => List.mem_cons_of_mem _ (List.mem_append_left _ (List.mem_append_right _ (h)))

theorem hv_X12_startCollector_326 : Cond.fieldLink RX12 326 "FlowExporterModel" (TX12 33).2.1 (TX12 33).2.2.1 ∈ wsX12_startCollector := List.mem_cons_of_mem _ (List.mem_append_left _ (List.mem_append_left _ (List.mem_of_getElem? (i := 1) rfl)))

theorem hv_X12_startCollector_331 : Cond.fieldLink RX12 331 "FlowExporterModel" (TX12 34).2.1 (TX12 34).2.2.1 ∈ wsX12_startCollector := List.mem_cons_of_mem _ (List.mem_append_left _ (List.mem_append_left _ (List.mem_of_getElem? (i := 3) rfl)))

theorem hv_X12_startCollector_48 : Cond.fieldLink RX12 48 "FlowExporterModel" (TX12 28).2.1 (TX12 28).2.2.1 ∈ wsX12_startCollector := List.mem_cons_of_mem _ (List.mem_append_left _ (List.mem_append_left _ (List.mem_of_getElem? (i := 0) rfl)))

set_option maxHeartbeats 4000000 in
set_option maxRecDepth 100000 in
theorem r_startCollector (G : EnvG) (l : Launch) (Φ : Hm) (sz x : Nat) (rd : (Nat → Int32) → Prop) (nw : (Nat → Int32) → Prop) (cr : (Nat → Int64) → Prop) (tp : (Nat → Int32) → Prop) (tt : (Nat → Int64) → Prop) (sI : (Nat → Int32) → Prop) (sT : (Nat → Int32) → Prop) (pt : (Nat → Int32) → Prop) (ql : (Nat → Int32) → Prop) (fl : Nat) (pe : Nat) (le : Nat) (nx : Nat) (il : Nat) (qu : Nat) (kn : Int32) (ec : Int32) (nu : Int32) (va : Int64) (st : Nat) (ep : Int32) (ti : Int32) (ad : Int32) (ob : Int64) (ra : Int32) (rt : Nat) (ex : Int32) (sa : Int64) (us : Int64) (tk : Nat) (th : Int32) (me : Int32) (dr : Int32) (se : Int64) (sn : Int64)  (hx : G.2.2.2 ≤ x) (hI : Im G x (rd, nw, cr, tp, tt, sI, sT, pt, ql, fl, pe, le, nx, il, qu, kn, ec, nu, va, st, ep, ti, ad, ob, ra, rt, ex, sa, us, tk, th, me, dr, se, sn) Φ) (hnw : ∀ f9 : Nat → Int32, nw f9 → NN f9) : Ct G l yX12_startCollector wsX12_startCollector ({ frames := 0, cells := 0, slots := 0, locals := 0 }) 0 0 [.ref x] Φ sz (fun v Φ1 sz1 => (v = none) ∧ sz1 = sz ∧ (Im G x (rd, nw, cr, tp, tt, sI, sT, pt, ql, fl, pe, le, nx, il, qu, kn, ec, nu, va, st, ep, ti, ad, ob, ra, rt, ex, sa, us, tk, th, me, dr, se, sn) Φ1) ∧ Fr x (fun j9 => j9 = 0 ∨ j9 = 12) Φ Φ1) := by
  refine Ct.of (cc := cX12_startCollector) (maxL := 2) (ret := none) (by decide) rfl (Nat.le_of_ble_eq_true rfl) ?_
  intro p9 e9 s9 m9 w9 t9 k9 B
  show Z p9 l e9 _ s9 m9 _ w9 t9 k9 _ G 2 0 [(0, .ref x)] [] Φ sz 0 0
  refine z_iconst (v := 0) B dX12_startCollector_0 rfl ?_
  refine z_istore_n (lv' := [(1, .int 0), (0, .ref x)]) B dX12_startCollector_1 rfl (Nat.le_of_ble_eq_true rfl) rfl ?_
  refine z_lv [0, 1] rfl ?_
  refine z_loop (α := Nat) (fun (a9 : Nat) Φi => Im G x (rd, nw, cr, tp, tt, sI, sT, pt, ql, fl, pe, le, nx, il, qu, kn, ec, nu, va, st, ep, ti, ad, ob, ra, rt, ex, sa, us, tk, th, me, dr, se, sn) Φi ∧ Fr x (fun j9 => j9 = 0 ∨ j9 = 12) Φ Φi ∧ (a9 ≤ 4) ∧ True) (fun a9 => [(1, .int (nI a9)), (0, .ref x)]) (fun a9 => 4 - a9) ?_ (0) ⟨hI, fun _ _ => rfl, (show 0 ≤ 4 by omega), trivial⟩
  rintro i_1 Φl1 ⟨hI1, hF1, b_1, -⟩ ih1
  replace hI1 : Im G x (rd, nw, cr, tp, tt, sI, sT, pt, ql, fl, pe, le, nx, il, qu, kn, ec, nu, va, st, ep, ti, ad, ob, ra, rt, ex, sa, us, tk, th, me, dr, se, sn) Φl1 := hI1
  replace b_1 : i_1 ≤ 4 := b_1
  show Z p9 l e9 _ s9 m9 _ w9 t9 k9 _ G 2 2 [(1, .int (nI i_1)), (0, .ref x)] [] Φl1 _ _ _
  refine z_iload_n B dX12_startCollector_2 rfl 0 rfl ?_
  refine z_iconst (v := 4) B dX12_startCollector_3 rfl ?_
  refine z_icmp_ge (tgt := 20) B dX12_startCollector_4 rfl (fun c_1 => ?_) (fun c_1 => ?_)
  · have e_1 : 4 ≤ i_1 := (nI_leI (a := 4) (b := i_1) (by omega) (by omega)).mp c_1
    refine z_aload_n B dX12_startCollector_20 rfl 1 rfl ?_
    refine z_iconst (v := 0) B dX12_startCollector_21 rfl ?_
    obtain ⟨n_1, v_1, n_2, h_1, b_14, b_2, b_3, b_4, b_5, b_6, b_7, b_8, b_9, b_10, b_11, b_12, b_13⟩ := im0 hI1
    replace b_2 : 1 ≤ rt := b_2
    replace b_3 : rt ≤ 1024 := b_3
    replace b_4 : fl ≤ 12 := b_4
    replace b_5 : pe ≤ 24 := b_5
    replace b_6 : le ≤ 700 := b_6
    replace b_7 : qu ≤ 12 := b_7
    replace b_8 : n_1 ≤ 8 := b_8
    replace b_9 : n_2 ≤ 24 := b_9
    replace b_10 : tk ≤ 24 := b_10
    replace b_11 : il ≤ 700 := b_11
    replace b_12 : nx ≤ 701 := b_12
    replace b_13 : st ≤ 701 := b_13
    have h_2 : Φl1 x = some (o_ 14 [.int th, .ref (x + 1), .ref (x + 2), .int ti, .int ra, .int (nI rt), .int ex, .int ad, .ref (x + 3), .ref (x + 4), .int me, .long se, .ref (x + 5), .int (nI fl), .int dr, .long ob, .long sa, .long sn, .long us, .ref (x + 6), .ref (x + 7), .int (nI pe), .ref (x + 8), .int (nI le), .ref (x + 9), .ref (x + 10), .int (nI qu), .ref (x + 11), .ref (x + 12), .ref (x + 13), .ref (x + 14), .ref (x + 15), .ref (x + 16), .int (nI n_1), .long v_1, .ref (x + 17), .ref (x + 18), .ref (x + 19), .ref (x + 20), .ref (x + 21), .ref (x + 22), .int (nI n_2), .ref (x + 23), .ref (x + 24), .int (nI tk), .ref (x + 25), .int (nI il), .int (nI nx), .int ec, .int ep, .int kn, .int (nI st), .int nu, .long va]) := h_1
    refine z_put (ref := "FlowExporterModel") (C := RX12) (T := TX12) (N := 54) (ci := 14) (v := .int 0) B hu_X12_startCollector_X12 tyX12 tyX12_ok nmX12 rfl 33 (Nat.le_of_ble_eq_true rfl) hv_X12_startCollector_326 rfl (Or.inl rfl) h_2 hx rfl rfl (Nat.le_of_ble_eq_true rfl) dX12_startCollector_22 (fun Φ1 hΦ1 => ?_)
    have h_3 : Φ1 x = some (o_ 14 [.int th, .ref (x + 1), .ref (x + 2), .int ti, .int ra, .int (nI rt), .int ex, .int ad, .ref (x + 3), .ref (x + 4), .int me, .long se, .ref (x + 5), .int (nI fl), .int dr, .long ob, .long sa, .long sn, .long us, .ref (x + 6), .ref (x + 7), .int (nI pe), .ref (x + 8), .int (nI le), .ref (x + 9), .ref (x + 10), .int (nI qu), .ref (x + 11), .ref (x + 12), .ref (x + 13), .ref (x + 14), .ref (x + 15), .ref (x + 16), .int 0, .long v_1, .ref (x + 17), .ref (x + 18), .ref (x + 19), .ref (x + 20), .ref (x + 21), .ref (x + 22), .int (nI n_2), .ref (x + 23), .ref (x + 24), .int (nI tk), .ref (x + 25), .int (nI il), .int (nI nx), .int ec, .int ep, .int kn, .int (nI st), .int nu, .long va]) := fset_at hΦ1
    have hI2 : Im G x (rd, nw, cr, tp, tt, sI, sT, pt, ql, fl, pe, le, nx, il, qu, kn, ec, nu, va, st, ep, ti, ad, ob, ra, rt, ex, sa, us, tk, th, me, dr, se, sn) Φ1 := Im.put0 hI1 hΦ1 ⟨0, v_1, n_2, rfl, b_14, b_2, b_3, b_4, b_5, b_6, b_7, (show 0 ≤ 8 by omega), b_9, b_10, b_11, b_12, b_13⟩
    refine z_aload_n B dX12_startCollector_25 rfl 1 rfl ?_
    refine z_ldc2 (v := (-1)) B (by decide +kernel) dX12_startCollector_26 ?_
    refine z_put (ref := "FlowExporterModel") (C := RX12) (T := TX12) (N := 54) (ci := 14) (v := .long (-1)) B hu_X12_startCollector_X12 tyX12 tyX12_ok nmX12 rfl 34 (Nat.le_of_ble_eq_true rfl) hv_X12_startCollector_331 rfl (Or.inl rfl) h_3 hx rfl rfl (Nat.le_of_ble_eq_true rfl) dX12_startCollector_29 (fun Φ2 hΦ2 => ?_)
    have h_4 : Φ2 x = some (o_ 14 [.int th, .ref (x + 1), .ref (x + 2), .int ti, .int ra, .int (nI rt), .int ex, .int ad, .ref (x + 3), .ref (x + 4), .int me, .long se, .ref (x + 5), .int (nI fl), .int dr, .long ob, .long sa, .long sn, .long us, .ref (x + 6), .ref (x + 7), .int (nI pe), .ref (x + 8), .int (nI le), .ref (x + 9), .ref (x + 10), .int (nI qu), .ref (x + 11), .ref (x + 12), .ref (x + 13), .ref (x + 14), .ref (x + 15), .ref (x + 16), .int 0, .long (-1), .ref (x + 17), .ref (x + 18), .ref (x + 19), .ref (x + 20), .ref (x + 21), .ref (x + 22), .int (nI n_2), .ref (x + 23), .ref (x + 24), .int (nI tk), .ref (x + 25), .int (nI il), .int (nI nx), .int ec, .int ep, .int kn, .int (nI st), .int nu, .long va]) := fset_at hΦ2
    have hI3 : Im G x (rd, nw, cr, tp, tt, sI, sT, pt, ql, fl, pe, le, nx, il, qu, kn, ec, nu, va, st, ep, ti, ad, ob, ra, rt, ex, sa, us, tk, th, me, dr, se, sn) Φ2 := Im.put0 hI2 hΦ2 ⟨0, (-1), n_2, rfl, b_14, b_2, b_3, b_4, b_5, b_6, b_7, (show 0 ≤ 8 by omega), b_9, b_10, b_11, b_12, b_13⟩
    exact z_ret_v B dX12_startCollector_32 ⟨rfl, rfl, hI3, (fun b9 h9 => ((fset_fr hΦ2 (fun h8 => h9 (0) h8 (show 0 = 0 ∨ 0 = 12 by decide))).trans ((fset_fr hΦ1 (fun h8 => h9 (0) h8 (show 0 = 0 ∨ 0 = 12 by decide))).trans ((hF1 b9 h9).trans rfl))))⟩
  · have e_2 : ¬ (4 ≤ i_1) := fun h9 => c_1 ((nI_leI (a := 4) (b := i_1) (by omega) (by omega)).mpr h9)
    refine z_aload_n B dX12_startCollector_7 rfl 1 rfl ?_
    obtain ⟨n_3, v_2, n_4, h_5, b_27, b_15, b_16, b_17, b_18, b_19, b_20, b_21, b_22, b_23, b_24, b_25, b_26⟩ := im0 hI1
    replace b_15 : 1 ≤ rt := b_15
    replace b_16 : rt ≤ 1024 := b_16
    replace b_17 : fl ≤ 12 := b_17
    replace b_18 : pe ≤ 24 := b_18
    replace b_19 : le ≤ 700 := b_19
    replace b_20 : qu ≤ 12 := b_20
    replace b_21 : n_3 ≤ 8 := b_21
    replace b_22 : n_4 ≤ 24 := b_22
    replace b_23 : tk ≤ 24 := b_23
    replace b_24 : il ≤ 700 := b_24
    replace b_25 : nx ≤ 701 := b_25
    replace b_26 : st ≤ 701 := b_26
    have h_6 : Φl1 x = some (o_ 14 [.int th, .ref (x + 1), .ref (x + 2), .int ti, .int ra, .int (nI rt), .int ex, .int ad, .ref (x + 3), .ref (x + 4), .int me, .long se, .ref (x + 5), .int (nI fl), .int dr, .long ob, .long sa, .long sn, .long us, .ref (x + 6), .ref (x + 7), .int (nI pe), .ref (x + 8), .int (nI le), .ref (x + 9), .ref (x + 10), .int (nI qu), .ref (x + 11), .ref (x + 12), .ref (x + 13), .ref (x + 14), .ref (x + 15), .ref (x + 16), .int (nI n_3), .long v_2, .ref (x + 17), .ref (x + 18), .ref (x + 19), .ref (x + 20), .ref (x + 21), .ref (x + 22), .int (nI n_4), .ref (x + 23), .ref (x + 24), .int (nI tk), .ref (x + 25), .int (nI il), .int (nI nx), .int ec, .int ep, .int kn, .int (nI st), .int nu, .long va]) := h_5
    refine z_get (ref := "FlowExporterModel") (C := RX12) (T := TX12) (N := 54) (ci := 14) (v := .ref (x + 12)) B hu_X12_startCollector_X12 rfl 28 (Nat.le_of_ble_eq_true rfl) hv_X12_startCollector_48 rfl h_6 rfl dX12_startCollector_8 ?_
    refine z_iload_n B dX12_startCollector_11 rfl 0 rfl ?_
    refine z_iconst (v := 0) B dX12_startCollector_12 rfl ?_
    obtain ⟨f_1, h_7, r_1⟩ := imk (k := 12) hI1
    replace r_1 : Rw 9 f_1 := r_1
    have h_8 : Φl1 (x + 12) = some (ai_ G 4 f_1) := h_7
    refine z_iast B h_8 (Nat.le_trans hx (Nat.le_add_right x 12)) (vp_in_nI (by omega) (by omega)) dX12_startCollector_13 (fun Φ3 hΦ3 => ?_)
    have h_9 : Φ3 (x + 12) = some (ai_ G 4 (upd f_1 (nI i_1).toNatClampNeg 0)) := fset_at hΦ3
    have hI4 : Im G x (rd, nw, cr, tp, tt, sI, sT, pt, ql, fl, pe, le, nx, il, qu, kn, ec, nu, va, st, ep, ti, ad, ob, ra, rt, ex, sa, us, tk, th, me, dr, se, sn) Φ3 := Im.put (k := 12) hI1 hΦ3 ⟨_, rfl, Rw.up (n := 0) r_1 (show 0 ≤ 9 by omega)⟩
    refine z_iinc (k := 0) (v := nI (i_1 + 1)) (lv' := [(1, .int (nI (i_1 + 1))), (0, .ref x)]) B dX12_startCollector_14 rfl (nI_add i_1 1) (Nat.le_of_ble_eq_true rfl) rfl ?_
    refine z_goto (tgt := 2) B dX12_startCollector_17 rfl ?_
    refine z_lv [0, 1] rfl ?_
    exact ih1 (i_1 + 1) Φ3 (show 4 - (i_1 + 1) < 4 - i_1 by omega) ⟨hI4, (fun b9 h9 => ((fset_fr hΦ3 (fun h8 => h9 (12) h8 (show 12 = 0 ∨ 12 = 12 by decide))).trans ((hF1 b9 h9).trans rfl))), (show (i_1 + 1) ≤ 4 by omega), trivial⟩

theorem hu_X12_restartExporter_X12 : ∀ w ∈ u_ws RX12 TX12 54, w ∈ wsX12_restartExporter := fun _ h => List.mem_cons_of_mem _ (List.mem_append_left _ (List.mem_append_right _ (h)))

theorem hv_X12_restartExporter_1 : Cond.fieldLink RX12 1 "FlowExporterModel" (TX12 0).2.1 (TX12 0).2.2.1 ∈ wsX12_restartExporter := List.mem_cons_of_mem _ (List.mem_append_left _ (List.mem_append_left _ (List.mem_of_getElem? (i := 0) rfl)))

theorem hv_X12_restartExporter_133 : Cond.fieldLink RX12 133 "FlowExporterModel" (TX12 13).2.1 (TX12 13).2.2.1 ∈ wsX12_restartExporter := List.mem_cons_of_mem _ (List.mem_append_left _ (List.mem_append_left _ (List.mem_of_getElem? (i := 1) rfl)))

set_option maxHeartbeats 4000000 in
set_option maxRecDepth 100000 in
theorem r_restartExporter (G : EnvG) (l : Launch) (Φ : Hm) (sz x : Nat) (rd : (Nat → Int32) → Prop) (nw : (Nat → Int32) → Prop) (cr : (Nat → Int64) → Prop) (tp : (Nat → Int32) → Prop) (tt : (Nat → Int64) → Prop) (sI : (Nat → Int32) → Prop) (sT : (Nat → Int32) → Prop) (pt : (Nat → Int32) → Prop) (ql : (Nat → Int32) → Prop) (fl : Nat) (pe : Nat) (le : Nat) (nx : Nat) (il : Nat) (qu : Nat) (kn : Int32) (ec : Int32) (nu : Int32) (va : Int64) (st : Nat) (ep : Int32) (ti : Int32) (ad : Int32) (ob : Int64) (ra : Int32) (rt : Nat) (ex : Int32) (sa : Int64) (us : Int64) (tk : Nat) (th : Int32) (me : Int32) (dr : Int32) (se : Int64) (sn : Int64)  (hx : G.2.2.2 ≤ x) (hI : Im G x (rd, nw, cr, tp, tt, sI, sT, pt, ql, fl, pe, le, nx, il, qu, kn, ec, nu, va, st, ep, ti, ad, ob, ra, rt, ex, sa, us, tk, th, me, dr, se, sn) Φ) (hnw : ∀ f9 : Nat → Int32, nw f9 → NN f9) : Ct G l yX12_restartExporter wsX12_restartExporter ({ frames := 1, cells := 0, slots := 0, locals := 21 }) 0 0 [.ref x] Φ sz (fun v Φ1 sz1 => (∃ r9 : Int32, v = some (.int r9)) ∧ sz1 = sz ∧ (∃ (th1 : Int32), Im G x (rd, nw, cr, tp, tt, (SiQ (fun _ => 0)), sT, pt, ql, 0, 0, le, nx, il, qu, kn, ec, nu, va, st, ep, ti, ad, ob, ra, rt, ex, sa, us, tk, th1, me, dr, 0, sn) Φ1) ∧ Fr x (fun j9 => j9 = 0 ∨ j9 = 3) Φ Φ1) := by
  refine Ct.of (cc := cX12_restartExporter) (maxL := 2) (ret := (some .int)) (by decide) rfl (Nat.le_of_ble_eq_true rfl) ?_
  intro p9 e9 s9 m9 w9 t9 k9 B
  show Z p9 l e9 _ s9 m9 _ w9 t9 k9 _ G 2 0 [(0, .ref x)] [] Φ sz 0 0
  refine z_aload_n B dX12_restartExporter_0 rfl 0 rfl ?_
  refine z_iconst (v := 0) B dX12_restartExporter_1 rfl ?_
  obtain ⟨n_1, v_1, n_2, h_1, b_13, b_1, b_2, b_3, b_4, b_5, b_6, b_7, b_8, b_9, b_10, b_11, b_12⟩ := im0 hI
  replace b_1 : 1 ≤ rt := b_1
  replace b_2 : rt ≤ 1024 := b_2
  replace b_3 : fl ≤ 12 := b_3
  replace b_4 : pe ≤ 24 := b_4
  replace b_5 : le ≤ 700 := b_5
  replace b_6 : qu ≤ 12 := b_6
  replace b_7 : n_1 ≤ 8 := b_7
  replace b_8 : n_2 ≤ 24 := b_8
  replace b_9 : tk ≤ 24 := b_9
  replace b_10 : il ≤ 700 := b_10
  replace b_11 : nx ≤ 701 := b_11
  replace b_12 : st ≤ 701 := b_12
  have h_2 : Φ x = some (o_ 14 [.int th, .ref (x + 1), .ref (x + 2), .int ti, .int ra, .int (nI rt), .int ex, .int ad, .ref (x + 3), .ref (x + 4), .int me, .long se, .ref (x + 5), .int (nI fl), .int dr, .long ob, .long sa, .long sn, .long us, .ref (x + 6), .ref (x + 7), .int (nI pe), .ref (x + 8), .int (nI le), .ref (x + 9), .ref (x + 10), .int (nI qu), .ref (x + 11), .ref (x + 12), .ref (x + 13), .ref (x + 14), .ref (x + 15), .ref (x + 16), .int (nI n_1), .long v_1, .ref (x + 17), .ref (x + 18), .ref (x + 19), .ref (x + 20), .ref (x + 21), .ref (x + 22), .int (nI n_2), .ref (x + 23), .ref (x + 24), .int (nI tk), .ref (x + 25), .int (nI il), .int (nI nx), .int ec, .int ep, .int kn, .int (nI st), .int nu, .long va]) := h_1
  refine z_put (ref := "FlowExporterModel") (C := RX12) (T := TX12) (N := 54) (ci := 14) (v := .int 0) B hu_X12_restartExporter_X12 tyX12 tyX12_ok nmX12 rfl 0 (Nat.le_of_ble_eq_true rfl) hv_X12_restartExporter_1 rfl (Or.inl rfl) h_2 hx rfl rfl (Nat.le_of_ble_eq_true rfl) dX12_restartExporter_2 (fun Φ1 hΦ1 => ?_)
  have h_3 : Φ1 x = some (o_ 14 [.int 0, .ref (x + 1), .ref (x + 2), .int ti, .int ra, .int (nI rt), .int ex, .int ad, .ref (x + 3), .ref (x + 4), .int me, .long se, .ref (x + 5), .int (nI fl), .int dr, .long ob, .long sa, .long sn, .long us, .ref (x + 6), .ref (x + 7), .int (nI pe), .ref (x + 8), .int (nI le), .ref (x + 9), .ref (x + 10), .int (nI qu), .ref (x + 11), .ref (x + 12), .ref (x + 13), .ref (x + 14), .ref (x + 15), .ref (x + 16), .int (nI n_1), .long v_1, .ref (x + 17), .ref (x + 18), .ref (x + 19), .ref (x + 20), .ref (x + 21), .ref (x + 22), .int (nI n_2), .ref (x + 23), .ref (x + 24), .int (nI tk), .ref (x + 25), .int (nI il), .int (nI nx), .int ec, .int ep, .int kn, .int (nI st), .int nu, .long va]) := fset_at hΦ1
  have hI1 : Im G x (rd, nw, cr, tp, tt, sI, sT, pt, ql, fl, pe, le, nx, il, qu, kn, ec, nu, va, st, ep, ti, ad, ob, ra, rt, ex, sa, us, tk, 0, me, dr, se, sn) Φ1 := Im.put0 hI hΦ1 ⟨n_1, v_1, n_2, rfl, b_13, b_1, b_2, b_3, b_4, b_5, b_6, b_7, b_8, b_9, b_10, b_11, b_12⟩
  refine z_aload_n B dX12_restartExporter_5 rfl 0 rfl ?_
  refine z_get (ref := "FlowExporterModel") (C := RX12) (T := TX12) (N := 54) (ci := 14) (v := .int (nI fl)) B hu_X12_restartExporter_X12 rfl 13 (Nat.le_of_ble_eq_true rfl) hv_X12_restartExporter_133 rfl h_3 rfl dX12_restartExporter_6 ?_
  refine z_istore_n (lv' := [(1, .int (nI fl)), (0, .ref x)]) B dX12_restartExporter_9 rfl (Nat.le_of_ble_eq_true rfl) rfl ?_
  refine z_aload_n B dX12_restartExporter_10 rfl 1 rfl ?_
  refine z_callV (As := []) (rest := []) B (r_startExporter G l Φ1 sz x rd nw cr tp tt sI sT pt ql fl pe le nx il qu kn ec nu va st ep ti ad ob ra rt ex sa us tk 0 me dr se sn  hx hI1 hnw) (cwV 0 B.1.2.2.2.2 gX12_restartExporter_X12_startExporter rfl rfl rfl (by decide +kernel) ⟨Nat.le_of_ble_eq_true rfl, Nat.le_of_ble_eq_true rfl⟩) h_3 rfl rfl rfl rfl (Nat.le_of_ble_eq_true rfl) dX12_restartExporter_11 ⟨Nat.le_of_ble_eq_true rfl, Nat.le_of_ble_eq_true rfl⟩ (fun r_1 Φ2 sz1 st1 hp1 hs1 => ?_)
  obtain ⟨rfl, hq1, hI2, hF1⟩ := hp1
  subst sz1
  replace hs1 : st1 = [] := hs1
  subst st1
  replace hI2 : Im G x (rd, nw, cr, tp, tt, SiQ (fun _ => 0), sT, pt, ql, 0, 0, le, nx, il, qu, kn, ec, nu, va, st, ep, ti, ad, ob, ra, rt, ex, sa, us, tk, 0, me, dr, 0, sn) Φ2 := hI2
  refine z_iload_n B dX12_restartExporter_14 rfl 0 rfl ?_
  exact z_ret_i B dX12_restartExporter_15 ⟨⟨_, rfl⟩, rfl, ⟨0, hI2⟩, (fun b9 h9 => ((hF1 b9 h9).trans ((fset_fr hΦ1 (fun h8 => h9 (0) h8 (show 0 = 0 ∨ 0 = 3 by decide))).trans rfl)))⟩

/-! PX=3: what the reference's row now answers -/
theorem sz_q {c : Cf} {f : Nat → Int32} {t : Nat} (h : NNq c f) (ht : t < 4) : szC c t ≤ 9 ∧ f (11 + t) = nI (szC c t) := by
  obtain ⟨n, hn, e⟩ := h.1.1 (11 + t) (by omega) (by omega)
  have e2 : szC c t = n := by
    unfold szC
    rw [← h.2 (11 + t) (by omega), e, nI_clamp (by omega)]
  rw [e2]
  exact ⟨hn, e⟩
theorem fl_q {c : Cf} {f : Nat → Int32} {t q : Nat} (h : NNq c f) (ht : t < 4) (hq : q < 9) : ∃ n, n ≤ 8 ∧ rwC c t q = nI n ∧ f (15 + 9 * t + q) = nI n := by
  obtain ⟨n, hn, e⟩ := h.1.2.1 (15 + 9 * t + q) (by omega) (by omega)
  exact ⟨n, hn, (h.2 _ (by omega)).symm.trans e, e⟩
theorem fS_st {f : Nat → Int32} {a : Int32} {j n : Nat} (h : a = fS f 511 j) (e : f j = nI n) (hn : n ≤ 8) : a ||| ((1 : Int32) <<< (nI n &&& 31)) = fS f 511 (j + 1) := by
  rw [fS_y (bit_511 ⟨n, hn, e⟩), h, e]
/-- the bytes of the fields below k of a set -/
noncomputable def lenR (v : Int32) : Nat → Nat
  | 0 => 0
  | k + 1 => @ite Nat (bitI (nI k) v) (Classical.propDecidable _) (lenR v k + lnN k) (lenR v k)
theorem lenR_y {v : Int32} {k : Nat} (h : bitI (nI k) v) : lenR v (k + 1) = lenR v k + lnN k := if_pos h
theorem lenR_n {v : Int32} {k : Nat} (h : ¬ bitI (nI k) v) : lenR v (k + 1) = lenR v k := if_neg h
theorem su_row {c : Cf} {f : Nat → Int32} {a b v : Int32} (h : NNq c f) (hv : ¬ suV c a = b) (e : v = f 9 ^^^ ((1 : Int32) <<< (a &&& 31))) : NNq (suC c a b) (upd f 9 v) := by
  have e2 : suC c a b = upd c 9 (c 9 ^^^ ((1 : Int32) <<< (a &&& 31))) := if_neg hv
  rw [e2, e]
  refine ⟨NN.free h.1 (by decide), fun j hj => ?_⟩
  by_cases hj2 : j = 9
  · subst hj2
    rw [upd_at, upd_at, h.2 9 (by decide)]
  · rw [upd_ne hj2, upd_ne hj2]
    exact h.2 j hj
theorem su_id {c : Cf} {a b : Int32} (hv : suV c a = b) : c = suC c a b := (if_pos hv).symm
theorem InT_q {c : Cf} {f : Nat → Int32} {n : Nat} {a : Int32} (h : NNq c f) (e : f 10 = nI n) (hn : n ≤ 4) : InT c a ↔ ∃ u : Nat, u < n ∧ a = nI u := by
  have e1 : (c 10).toInt = (n : Nat) := by
    rw [← h.2 10 (by decide), e]
    exact nI_toInt (by omega)
  unfold InT
  rw [e1]
  constructor
  · rintro ⟨h1, h2⟩
    refine ⟨a.toInt.toNat, by omega, ?_⟩
    apply Int32.toInt_inj.mp
    rw [nI_toInt (by omega)]
    omega
  · rintro ⟨u, hu, rfl⟩
    rw [nI_toInt (by omega)]
    omega
theorem faF_y {c : Cf} {u p n : Nat} (hp : p < szC c u) (hs : szC c u ≤ 9) (e : rwC c u p = nI n) : faF c u (nI p) = nI n := by
  have h : faF c u (nI p) = rwC c u (nI p).toNatClampNeg := if_pos (by rw [nI_toInt (by omega)]; omega)
  rw [h, nI_clamp (by omega), e]
theorem faF_n {c : Cf} {u : Nat} {b : Int32} (hs : szC c u ≤ 9) (h : ¬ inP b.toInt64 0 (nI (szC c u) - 1).toInt64) : faF c u b = -1 := if_neg (fun h9 => h ((inP_i (L := 0) (by decide) (predL (by omega))).mpr ⟨h9.1, by omega⟩))
theorem lenK_R {a : Nat} (ha : a < 512) : ∀ k, k ≤ 9 → lenK a k = nI (lenR (nI a) k) := by
  intro k
  induction k with
  | zero => intro _; rfl
  | succ k ih =>
    intro hk
    have e := ih (by omega)
    have hb := bit_k a ha k (by omega)
    have hf : ∀ j, j < 9 → fbT j = nI (lnN j) := by decide
    by_cases h : a / 2 ^ k % 2 = 1
    · rw [lenR_y (hb.mpr h), show lenK a (k + 1) = lenK a k + fbT k from if_pos h, e, hf k (by omega)]
      exact nI_add _ _
    · rw [lenR_n (fun q => h (hb.mp q)), show lenK a (k + 1) = lenK a k from if_neg h, e]
/-- the class's words for the effective set and the length are the reference's -/
theorem CfA.ef {G : EnvG} {x t s u : Nat} {c : Cf} {Φ : Hm} (h : CfA G x t s c Φ) (hu : u < t) : efF c u = tfF c u &&& c 9 ∧ rlF c u = nI (lenR (tfF c u &&& c 9) 9) := by
  have h4 := h.1.2.1
  obtain ⟨m, f, h1, h2, h3, hd, -, -⟩ := h.1.wt (u := u) (by omega) (by omega)
  obtain ⟨hs, e9⟩ := h.2.1
  obtain ⟨e3, -⟩ := wt_fS (s := 511) h1 hu h3
  obtain ⟨e4, e5⟩ := wt_fS (s := nI s) h1 hu h3
  obtain ⟨a, ha, g1, g2⟩ := fS_and hs m hd
  have g3 : nI a &&& nI s = nI (a &&& s) := and_k a ha s hs
  have hl : a &&& s < 512 := Nat.lt_of_le_of_lt Nat.and_le_left ha
  have g4 := fB_len hs m hd (a &&& s) hl g2
  have k1 : tfF c u = nI a := by
    unfold tfF
    rw [← e3]
    exact g1
  have k2 : efF c u = nI (a &&& s) := by
    unfold efF
    rw [e9, ← e4]
    exact g2
  have k3 : rlF c u = lenK (a &&& s) 9 := by
    unfold rlF
    rw [e9, ← e5]
    exact g4
  rw [k1, e9, g3]
  refine ⟨k2, ?_⟩
  rw [k3]
  exact lenK_R hl 9 (by omega)
theorem CfA.ef2 {G : EnvG} {x t s : Nat} {c : Cf} {a : Int32} {Φ : Hm} (h : CfA G x t s c Φ) (hi : InT c a) : efF c a.toNatClampNeg = tfF c a.toNatClampNeg &&& c 9 ∧ rlF c a.toNatClampNeg = nI (lenR (tfF c a.toNatClampNeg &&& c 9) 9) := by
  have h4 := h.1.2.1
  obtain ⟨u, hu, rfl⟩ := h.inT.mp hi
  rw [nI_clamp (by omega)]
  exact h.ef hu

/-! PX=5, the reference: the words of the rows sentIn, sentAt, pendingTemplate, queueLength -/
noncomputable def SiQ (a : Nat → Int32) (g : Nat → Int32) : Prop := ∀ j, j < 4 → g j = a j - 1
noncomputable def AtQ (b : Nat → Int32) (g : Nat → Int32) : Prop := ∀ j, j < 4 → g j = b j
noncomputable def PtQ (n : Nat) (P : Nat → Nat) (g : Nat → Int32) : Prop := ∀ j, j < n → g j = nI (P j) ∧ P j < 4
noncomputable def QlQ (n : Nat) (L : Nat → Nat) (g : Nat → Int32) : Prop := ∀ j, j < n → g j = nI (L j) ∧ L j ≤ 600
theorem eqw {α : Type} {p : α → Prop} {X : α} (h : p X) : ∀ g, g = X → p g := by
  intro g e
  rw [e]
  exact h
noncomputable def SiZ (k : Nat) (g : Nat → Int32) : Prop := ∀ j, j < k → g j = -1
theorem SiZ.z {g : Nat → Int32} : SiZ 0 g := fun j hj => absurd hj (Nat.not_lt_zero j)
theorem SiZ.s {g : Nat → Int32} {k i : Nat} (h : SiZ k g) (hi : i = k) : SiZ (k + 1) (upd g i (-1)) := by
  subst hi
  intro j hj
  by_cases e : j = i
  · rw [e]
    exact upd_at
  · rw [upd_ne e]
    exact h j (by omega)
theorem SiZ.f {g : Nat → Int32} {k : Nat} (hk : 4 ≤ k) (h : SiZ k g) : SiQ (fun _ => 0) g := by
  intro j hj
  rw [h j (by omega)]
  decide
theorem PtQ.z {P : Nat → Nat} {g : Nat → Int32} : PtQ 0 P g := fun j hj => absurd hj (Nat.not_lt_zero j)
theorem QlQ.z {L : Nat → Nat} {g : Nat → Int32} : QlQ 0 L g := fun j hj => absurd hj (Nat.not_lt_zero j)
theorem QlQ.less {n m : Nat} {L : Nat → Nat} {g : Nat → Int32} (h : QlQ n L g) (hm : m ≤ n) : QlQ m L g := fun j hj => h j (Nat.lt_of_lt_of_le hj hm)
theorem SiQ.s {a g : Nat → Int32} {t i : Nat} {v : Int32} (h : SiQ a g) (hi : i = t) : SiQ (upd a t (v + 1)) (upd g i v) := by
  subst hi
  intro j hj
  by_cases e : j = i
  · subst e
    rw [upd_at, upd_at, Int32.add_sub_cancel]
  · rw [upd_ne e, upd_ne e]
    exact h j hj
theorem AtQ.s {b g : Nat → Int32} {t i : Nat} {v : Int32} (h : AtQ b g) (hi : i = t) : AtQ (upd b t v) (upd g i v) := by
  subst hi
  intro j hj
  by_cases e : j = i
  · subst e
    rw [upd_at, upd_at]
  · rw [upd_ne e, upd_ne e]
    exact h j hj
theorem PtQ.s {n t i : Nat} {P : Nat → Nat} {g : Nat → Int32} (h : PtQ n P g) (ht : t < 4) (hi : i = n) : PtQ (n + 1) (fun j => if j = n then t else P j) (upd g i (nI t)) := by
  subst hi
  intro j hj
  by_cases e : j = i
  · subst e
    rw [upd_at]
    show _ = nI (if j = j then t else P j) ∧ (if j = j then t else P j) < 4
    rw [if_pos rfl]
    exact ⟨rfl, ht⟩
  · rw [upd_ne e]
    show _ = nI (if j = i then t else P j) ∧ (if j = i then t else P j) < 4
    rw [if_neg e]
    exact h j (by omega)
theorem QlQ.s {n l i : Nat} {L : Nat → Nat} {g : Nat → Int32} (h : QlQ n L g) (hl : l ≤ 600) (hi : i = n) : QlQ (n + 1) (fun j => if j = n then l else L j) (upd g i (nI l)) := by
  subst hi
  intro j hj
  by_cases e : j = i
  · subst e
    rw [upd_at]
    show _ = nI (if j = j then l else L j) ∧ (if j = j then l else L j) ≤ 600
    rw [if_pos rfl]
    exact ⟨rfl, hl⟩
  · rw [upd_ne e]
    show _ = nI (if j = i then l else L j) ∧ (if j = i then l else L j) ≤ 600
    rw [if_neg e]
    exact h j (by omega)
theorem sub_p1 (a b : Int32) : a - (b - 1) - 1 = a - b := by
  apply Int32.toBitVec_inj.mp
  simp only [Int32.toBitVec_sub]
  generalize a.toBitVec = x
  generalize b.toBitVec = y
  rw [BitVec.sub_eq_add_neg, BitVec.sub_eq_add_neg, BitVec.sub_eq_add_neg, BitVec.sub_eq_add_neg]
  apply BitVec.eq_of_toNat_eq
  simp only [BitVec.toNat_add, BitVec.toNat_neg, Int32.toBitVec_one, BitVec.toNat_ofNat]
  omega
theorem m1_0 {a : Int32} : a - 1 = -1 ↔ a = 0 := by
  constructor
  · intro h
    have h1 : a - 1 + 1 = -1 + 1 := congrArg (fun w : Int32 => w + 1) h
    rw [Int32.sub_add_cancel] at h1
    rw [h1]
    decide
  · intro h
    rw [h]
    decide
noncomputable def duV (c : Cf) (now : Int32) (s : SN) (u : Nat) : Int32 := @ite Int32 (dueP c now s u) (Classical.propDecidable _) 1 0
theorem duV_y {c : Cf} {now : Int32} {s : SN} {u : Nat} (h : dueP c now s u) : duV c now s u = 1 := if_pos h
theorem duV_n {c : Cf} {now : Int32} {s : SN} {u : Nat} (h : ¬ dueP c now s u) : duV c now s u = 0 := if_neg h
theorem bitI_0 {a : Int32} : ¬ bitI a 0 := by
  unfold bitI
  intro h
  have e : (0 : Int32) >>> (a &&& 31) = 0 := by
    apply Int32.toBitVec_inj.mp
    rw [Int32.toBitVec_shiftRight]
    simp
  rw [e] at h
  exact absurd h (by decide)
noncomputable def FgZ (c : Cf) (a : Int32) (f : Nat → Int32) (k : Nat) (g : Nat → Int32) : Prop := (∀ j, j < k → g j = fgW c a f j - 1) ∧ ∀ j, k ≤ j → j < 4 → g j = f j - 1
theorem FgZ.z {c : Cf} {a : Int32} {f g : Nat → Int32} (h : SiQ f g) : FgZ c a f 0 g := ⟨fun j hj => absurd hj (Nat.not_lt_zero j), fun j _ hj => h j hj⟩
theorem FgZ.y {c : Cf} {a : Int32} {f g : Nat → Int32} {k i : Nat} (h : FgZ c a f k g) (hb : bitI a (tfF c k)) (hi : i = k) : FgZ c a f (k + 1) (upd g i (-1)) := by
  subst hi
  refine ⟨fun j hj => ?_, fun j h1 h2 => (upd_ne (by omega)).trans (h.2 j (by omega) h2)⟩
  by_cases e : j = i
  · subst e
    have e2 : fgW c a f j = 0 := if_pos hb
    rw [upd_at, e2]
    decide
  · exact (upd_ne e).trans (h.1 j (by omega))
theorem FgZ.n {c : Cf} {a : Int32} {f g : Nat → Int32} {k : Nat} (h : FgZ c a f k g) (hb : ¬ bitI a (tfF c k)) (hk : k < 4) : FgZ c a f (k + 1) g := by
  refine ⟨fun j hj => ?_, fun j h1 h2 => h.2 j (by omega) h2⟩
  by_cases e : j = k
  · subst e
    have e2 : fgW c a f j = f j := if_neg hb
    rw [e2]
    exact h.2 j (Nat.le_refl j) hk
  · exact h.1 j (by omega)
theorem tfF_0 {c : Cf} {n j : Nat} (hg : CfG c) (e : c 10 = nI n) (hn : n ≤ j) (hj : j < 4) : szC c j = 0 ∧ tfF c j = 0 ∧ esN c j = 0 := by
  have e1 : szC c j = 0 := by
    unfold szC
    rw [hg.2.1 j n hj e hn]
    decide
  refine ⟨e1, ?_, ?_⟩
  · unfold tfF
    rw [e1]
    rfl
  · unfold esN
    rw [e1]
    rfl
theorem FgZ.f {c : Cf} {a : Int32} {f g : Nat → Int32} {k n : Nat} (hg : CfG c) (e : c 10 = nI n) (hk : n ≤ k) (h : FgZ c a f k g) : SiQ (fgW c a f) g := by
  intro j hj
  by_cases q : j < k
  · exact h.1 j q
  · have e2 : fgW c a f j = f j := by
      refine if_neg ?_
      rw [(tfF_0 hg e (by omega) hj).2.1]
      exact bitI_0
    rw [e2]
    exact h.2 j (by omega) hj
noncomputable def suS (c : Cf) (a b : Int32) (f : Nat → Int32) : Nat → Int32 := @ite (Nat → Int32) (suV c a = b) (Classical.propDecidable _) f (fgW c a f)
theorem suS_e {c : Cf} {a b : Int32} {f : Nat → Int32} (h : suV c a = b) : suS c a b f = f := if_pos h
theorem su_S {c : Cf} {a b : Int32} {f g : Nat → Int32} (hne : ¬ suV c a = b) (h : SiQ (fgW (suC c a b) a f) g) : SiQ (suS c a b f) g := by
  have e : suC c a b = upd c 9 (c 9 ^^^ ((1 : Int32) <<< (a &&& 31))) := if_neg hne
  have e2 : suS c a b f = fgW c a f := if_neg hne
  rw [e] at h
  intro j hj
  rw [h j hj, e2, fgW_9]
theorem CfW.e {c : Cf} {u : Nat} (h : CfW c) (hu : u < 4) : esN c u = 0 ↔ tfF c u &&& c 9 = 0 := (h u hu).2.2.1
theorem suV_b {c : Cf} {a : Int32} (h : ¬ suV c a = 0) : bitI a (c 9) := Classical.byContradiction (fun q => h (suV_0 q))
theorem suV_nb {c : Cf} {a : Int32} (h : suV c a = 0) : ¬ bitI a (c 9) := fun q => by
  have e := (suV_1 q).symm.trans h
  exact absurd e (by decide)
theorem ptI_t {c : Cf} {now : Int32} {s : SN} {n : Nat} (hg : CfG c) (e : c 10 = nI n) : ∀ k i, n ≤ i → i + k = 4 → ptI c now s 4 = ptI c now s i := by
  intro k
  induction k with
  | zero =>
    intro i _ h2
    have e2 : i = 4 := by omega
    rw [e2]
  | succ k ih =>
    intro i h1 h2
    rw [ih (i + 1) (by omega) (by omega)]
    exact if_neg (fun q => q.1 (tfF_0 hg e h1 (by omega)).2.2)
theorem ptI_z {c : Cf} {now m : Int32} {a b : Nat → Int32} {rs : Int64} {sq : Int32} : ∀ u, ptI c now (a, b, m, rs, sq) u = ((ptI c now (a, b, m, 0, 0) u).1, (ptI c now (a, b, m, 0, 0) u).2.1, (ptI c now (a, b, m, 0, 0) u).2.2.1, m, rs, sq) := by
  intro u
  induction u with
  | zero => rfl
  | succ u ih =>
    have hr : (ptI c now (a, b, m, 0, 0) u).2.2.2 = (m, 0, 0) := ptI_r u
    rcases hq : ptI c now (a, b, m, 0, 0) u with ⟨l, a1, b1, r1⟩
    rw [hq] at ih hr
    have hr2 : r1 = (m, 0, 0) := hr
    subst hr2
    by_cases hd : dueP c now (a1, b1, m, 0, 0) u
    · rw [ptI_y hq hd]
      exact ptI_y ih hd
    · rw [ptI_n hq hd]
      exact ptI_n ih hd
theorem bg_z {c : Cf} {now m : Int32} {a b a1 b1 : Nat → Int32} {l : Nat} (h : ptI c now (a, b, m, 0, 0) 4 = (l, a1, b1, m, 0, 0)) : ∀ (rs9 : Int64) (sq9 : Int32), bgS c now (a, b, m, rs9, sq9) = (l, a1, b1, m, rs9, sq9) := by
  intro rs sq
  show ptI c now (a, b, m, rs, sq) 4 = _
  rw [ptI_z 4, h]
theorem pt_16 {c : Cf} {now : Int32} {s : SN} {l : Nat} {s1 : SN} (hw : CfW c) (h : ptI c now s 4 = (l, s1)) : 16 ≤ l ∧ l ≤ 180 := by
  have h1 := ptI_le (c := c) (now := now) (s := s) (fun u hu => (hw u hu).1) 4 (Nat.le_refl 4)
  rw [h] at h1
  have h2 : 16 ≤ l ∧ l ≤ 20 + 40 * 4 := ⟨h1.1, h1.2.1⟩
  omega
theorem lenR_le (v : Int32) : ∀ k, lenR v k ≤ 8 * k := by
  intro k
  induction k with
  | zero => exact Nat.le_refl 0
  | succ k ih =>
    by_cases h : bitI (nI k) v
    · rw [lenR_y h]
      have := lnN_le k
      omega
    · rw [lenR_n h]
      omega
theorem lenR_0 : ∀ k, lenR 0 k = 0 := by
  intro k
  induction k with
  | zero => rfl
  | succ k ih => rw [lenR_n bitI_0, ih]
/-- the bytes of a record, as the reference counts them -/
noncomputable def CfR (c : Cf) : Prop := ∀ u, u < 4 → rlN c u = lenR (tfF c u &&& c 9) 9
theorem CfA.R {G : EnvG} {x t s : Nat} {c : Cf} {Φ : Hm} (h : CfA G x t s c Φ) (hg : CfG c) : CfR c := by
  intro u hu
  by_cases ht : u < t
  · have e := (h.ef ht).2
    unfold rlN
    rw [e, nI_clamp (by have := lenR_le (tfF c u &&& c 9) 9; omega)]
  · obtain ⟨e1, e2, -⟩ := tfF_0 hg h.1.1 (n := t) (j := u) (by omega) hu
    have e3 : rlF c u = 0 := by
      unfold rlF
      rw [e1]
      rfl
    unfold rlN
    rw [e3, e2, Int32.zero_and, lenR_0]
    decide
/-! records from the q-th one on, message by message -/
noncomputable def rcF (c : Cf) (now : Int32) (P : Nat → Nat) (q : Nat) (g : LN) : Nat → LN
  | 0 => g
  | k + 1 => rcN c now (P (q + k)) (rcF c now P q g k)
theorem rcF_0 {c : Cf} {now : Int32} {P : Nat → Nat} {g : LN} : ∀ k, rcF c now P 0 g k = rcI c now P g k := by
  intro k
  induction k with
  | zero => rfl
  | succ k ih =>
    show rcN c now (P (0 + k)) (rcF c now P 0 g k) = rcN c now (P k) (rcI c now P g k)
    rw [ih, Nat.zero_add]
theorem rcF_s {c : Cf} {now : Int32} {P : Nat → Nat} {q j k k2 l l2 rc rc2 : Nat} {t : Int32} {g : LN} {z : SN × QN} (h : rcF c now P q g k = (l, t, rc, z)) (ho : ¬ (c 7).toInt < ((l + moN c (P j) t : Nat) : Int)) (hj : j = q + k) (hl : l2 = l + moN c (P j) t) (hk : k2 = k + 1) (hr : rc2 = rc + 1) : rcF c now P q g k2 = (l2, nI (P j), rc2, z) := by
  subst hk
  subst hr
  subst hl
  show rcN c now (P (q + k)) (rcF c now P q g k) = _
  rw [h, ← hj]
  exact if_neg ho
noncomputable def spF (c : Cf) (now : Int32) (P : Nat → Nat) (n q : Nat) (s : SN) (Q : QN) : SN × QN := if q = n then (s, Q) else (enS (rcF c now P q (g0N c now s Q) (n - q)).2.2.1 (rcF c now P q (g0N c now s Q) (n - q)).2.2.2.1, enQ (rcF c now P q (g0N c now s Q) (n - q)).1 (rcF c now P q (g0N c now s Q) (n - q)).2.2.2.2)
theorem spF_n {c : Cf} {now : Int32} {P : Nat → Nat} {n q : Nat} {s : SN} {Q : QN} (h : q = n) : spF c now P n q s Q = (s, Q) := if_pos h
theorem spF_y {c : Cf} {now : Int32} {P : Nat → Nat} {n q k l rc : Nat} {t : Int32} {s s1 : SN} {Q Q1 : QN} (h : ¬ q = n) (hk : n - q = k) (hr : rcF c now P q (g0N c now s Q) k = (l, t, rc, s1, Q1)) : spF c now P n q s Q = (enS rc s1, enQ l Q1) := by
  have e : spF c now P n q s Q = _ := if_neg h
  rw [e, hk, hr]
theorem spF_0 {c : Cf} {now : Int32} {P : Nat → Nat} {n : Nat} {s : SN} {Q : QN} : spS c now P n s Q = spF c now P n 0 s Q := by
  by_cases h : n = 0
  · rw [spS_0 h, spF_n h.symm]
  · rcases hr : rcI c now P (g0N c now s Q) n with ⟨l, t, k, s1, Q1⟩
    rw [spS_n h hr]
    exact (spF_y (fun e => h e.symm) (Nat.sub_zero n) ((rcF_0 n).trans hr)).symm
theorem rcF_m {c : Cf} {now : Int32} {P : Nat → Nat} {q k l : Nat} {t : Int32} {g g2 : LN} {s1 : SN} {Q : QN} (h : rcF c now P q g k = (l, t, k, s1, Q)) (ho : (c 7).toInt < ((l + moN c (P (q + k)) t : Nat) : Int)) (hg : g2 = g0N c now (enS k s1) (enQ l Q)) (hf : ¬ ovN c (P (q + k)) g2) : ∀ j, rcF c now P q g (k + 1 + j) = rcF c now P (q + k) g2 (1 + j) := by
  intro j
  induction j with
  | zero =>
    show rcN c now (P (q + k)) (rcF c now P q g k) = rcN c now (P (q + k + 0)) g2
    rw [h, Nat.add_zero]
    have e1 : rcN c now (P (q + k)) (l, t, k, s1, Q) = adN c (P (q + k)) (nxN c now (l, t, k, s1, Q)) := if_pos ho
    have e2 : rcN c now (P (q + k)) g2 = adN c (P (q + k)) g2 := if_neg hf
    rw [e1, e2, hg]
    rfl
  | succ j ih =>
    show rcN c now (P (q + (k + 1 + j))) (rcF c now P q g (k + 1 + j)) = rcN c now (P (q + k + (1 + j))) (rcF c now P (q + k) g2 (1 + j))
    rw [ih, show q + (k + 1 + j) = q + k + (1 + j) by omega]
theorem spF_s {c : Cf} {now : Int32} {P : Nat → Nat} {n q k r l l0 : Nat} {t : Int32} {s s1 : SN} {Q : QN} (hw : CfW c) (hg : CfG c) (hP : ∀ j, j < n → P j < 4) (hq : q < n) (hr : r = q + k) (hrn : r ≤ n) (hk : 1 ≤ k) (hb : bgS c now s = (l0, s1)) (h : rcF c now P q (l0, -1, 0, s1, Q) k = (l, t, k, s1, Q)) (ho : r = n ∨ (c 7).toInt < ((l + moN c (P r) t : Nat) : Int)) : spF c now P n q s Q = spF c now P n r (enS k s1) (enQ l Q) := by
  subst hr
  have h0 : rcF c now P q (g0N c now s Q) k = (l, t, k, s1, Q) := by
    rw [g0_eq hb]
    exact h
  by_cases e : q + k = n
  · rw [spF_n e]
    exact spF_y (by omega) (by omega) h0
  · have ho2 := ho.resolve_left e
    rcases hb2 : bgS c now (enS k s1) with ⟨l2, s2⟩
    have hl2 := pt_16 (now := now) (s := enS k s1) hw hb2
    obtain ⟨r7, q1, q2, q3⟩ := hg.2.2.2
    have hP4 := hP (q + k) (by omega)
    have hrl := (hw (P (q + k)) hP4).2.1
    have hm : moN c (P (q + k)) (-1) = rlN c (P (q + k)) + 4 := moN_n (fun e => by
      have e1 := congrArg Int32.toInt e
      rw [nI_toInt (by omega), show (-1 : Int32).toInt = -1 from by decide] at e1
      omega)
    have hf : ¬ ovN c (P (q + k)) (l2, -1, 0, s2, enQ l Q) := by
      unfold ovN
      show ¬ (c 7).toInt < ((l2 + moN c (P (q + k)) (-1) : Nat) : Int)
      rw [hm, q3, nI_toInt (by omega)]
      omega
    have hm2 := rcF_m h0 ho2 (g0_eq hb2).symm hf (n - q - k - 1)
    rcases hr3 : rcF c now P (q + k) (l2, -1, 0, s2, enQ l Q) (1 + (n - q - k - 1)) with ⟨l3, t3, k3, s3, Q3⟩
    rw [hr3] at hm2
    rw [spF_y (k := k + 1 + (n - q - k - 1)) (by omega) (by omega) hm2]
    refine (spF_y (k := 1 + (n - q - k - 1)) e (by omega) ?_).symm
    rw [g0_eq hb2]
    exact hr3
theorem seq_k {a : Int32} {i k : Nat} (h : i ≤ k) (hk : k ≤ 1000) : (a.toInt64 &&& 4294967295) + (nI k).toInt64 - (nI i).toInt64 &&& 4294967295 = (a + nI (k - i)).toInt64 &&& 4294967295 := by
  have m : ∀ w : BitVec 64, w &&& 4294967295#64 = (w.setWidth 32).setWidth 64 := by
    intro w
    apply BitVec.eq_of_toNat_eq
    rw [BitVec.toNat_and, BitVec.toNat_setWidth, BitVec.toNat_setWidth, show (4294967295#64).toNat = 2 ^ 32 - 1 from by decide, Nat.and_two_pow_sub_one_eq_mod]
    omega
  apply Int64.toBitVec_inj.mp
  rw [Int64.toBitVec_and, Int64.toBitVec_and, Int64.toBitVec_sub, Int64.toBitVec_add, Int64.toBitVec_and, show (4294967295 : Int64).toBitVec = 4294967295#64 from rfl, m, m, m]
  refine congrArg (fun w : BitVec 32 => w.setWidth 64) ?_
  have e1 : ∀ b : Int32, (b.toInt64.toBitVec).setWidth 32 = b.toBitVec := by
    intro b
    show (b.toBitVec.signExtend 64).setWidth 32 = b.toBitVec
    exact BitVec.setWidth_signExtend_of_le (by decide)
  have e2 : nI (k - i) = nI k - nI i := (nI_sub h).symm
  rw [e1, e2, Int32.toBitVec_add, Int32.toBitVec_sub]
  rw [← e1 a, ← e1 (nI k), ← e1 (nI i)]
  generalize a.toInt64.toBitVec = x
  generalize (nI k).toInt64.toBitVec = y
  generalize (nI i).toInt64.toBitVec = z
  apply BitVec.eq_of_toNat_eq
  simp only [BitVec.toNat_setWidth, BitVec.toNat_sub, BitVec.toNat_add]
  omega
/-! the queue of the reference -/
noncomputable def CpW (w : (Nat → Int32) → Prop) (f t : Nat) (g : Nat → Int32) : Prop := ∃ h, w h ∧ g = upd h t (h f)
theorem CpW.i {w : (Nat → Int32) → Prop} {f t i j : Nat} {h : Nat → Int32} {v : Int32} (hw : w h) (hi : i = t) (hj : j = f) (e : h j = v) : CpW w f t (upd h i v) := by
  subst hi
  subst hj
  subst e
  exact ⟨h, hw, rfl⟩
noncomputable def RlQ (n : Nat) (L : Nat → Nat) (a i : Nat) (g : Nat → Int32) : Prop := (∀ j, j < n → g j = nI (L (if a ≤ j ∧ j < i then j + 1 else j))) ∧ ∀ j, j < n → L j ≤ 600
theorem RlQ.z {n a : Nat} {L : Nat → Nat} {g : Nat → Int32} (h : QlQ n L g) : RlQ n L a a g := by
  refine ⟨fun j hj => ?_, fun j hj => (h j hj).2⟩
  rw [if_neg (by omega)]
  exact (h j hj).1
theorem RlQ.s {n a i : Nat} {L : Nat → Nat} {g : Nat → Int32} (hi : i + 1 < n) (ha : a ≤ i) (h : CpW (RlQ n L a i) (i + 1) i g) : RlQ n L a (i + 1) g := by
  obtain ⟨f, hf, rfl⟩ := h
  refine ⟨fun j hj => ?_, hf.2⟩
  by_cases e : j = i
  · subst e
    rw [upd_at, hf.1 (j + 1) hi, if_neg (by omega), if_pos (by omega)]
  · rw [upd_ne e, hf.1 j hj]
    by_cases q : a ≤ j ∧ j < i
    · rw [if_pos q, if_pos (by omega)]
    · rw [if_neg q, if_neg (by omega)]
theorem RlQ.e {n a i : Nat} {L : Nat → Nat} {g : Nat → Int32} (hi : n ≤ i + 1) (h : RlQ n L a i g) : QlQ (n - 1) (rmL L a) g := by
  intro j hj
  have h1 := h.1 j (by omega)
  unfold rmL
  by_cases q : j < a
  · rw [if_pos q]
    rw [if_neg (by omega)] at h1
    exact ⟨h1, h.2 j (by omega)⟩
  · rw [if_neg q]
    rw [if_pos (by omega)] at h1
    exact ⟨h1, h.2 (j + 1) (by omega)⟩
theorem InQ_n {n : Nat} {a : Int32} (h : InQ n a) : ∃ u : Nat, u < n ∧ a = nI u := by
  obtain ⟨h1, h2⟩ := h
  have h3 := Int32.toInt_lt a
  refine ⟨a.toInt.toNat, by omega, ?_⟩
  apply Int32.toInt_inj.mp
  rw [nI_toInt (by omega)]
  omega
theorem InQ_i {n u : Nat} (h : u < n) (hn : n ≤ 12) : InQ n (nI u) := by
  constructor
  · rw [nI_toInt (by omega)]
    omega
  · rw [nI_toInt (by omega)]
    omega
noncomputable def duQ (n : Nat) (L : Nat → Nat) (u : Nat) : Nat × (Nat → Nat) := if n = 12 then (n, L) else (n + 1, fun j => if j = n then L u else L j)
noncomputable def duB (n : Nat) : Int32 := if n = 12 then 0 else 1
theorem duQ_y {n u : Nat} {L : Nat → Nat} (h : n = 12) : (n, L) = duQ n L u ∧ duB n = 0 := ⟨(if_pos h).symm, if_pos h⟩
theorem duQ_n {n u : Nat} {L : Nat → Nat} (h : ¬ n = 12) : (n + 1, fun j => if j = n then L u else L j) = duQ n L u ∧ duB n = 1 := ⟨(if_neg h).symm, if_neg h⟩
theorem QlQ.cp {n u : Nat} {L : Nat → Nat} {g : Nat → Int32} (hu : u < n) (h : CpW (QlQ n L) u n g) : QlQ (n + 1) (fun j => if j = n then L u else L j) g := by
  obtain ⟨f, hf, rfl⟩ := h
  rw [(hf u hu).1]
  exact QlQ.s hf (hf u hu).2 rfl
noncomputable def exQ (n : Nat) (L : Nat → Nat) (a b : Nat) : Nat → Nat := if a = b then L else swN L a b
theorem QlQ.sw {n a b i j : Nat} {L : Nat → Nat} {g : Nat → Int32} (h : QlQ n L g) (ha : a < n) (hb : b < n) (hi : i = a) (hj : j = b) : QlQ n (swN L a b) (upd (upd g i (nI (L b))) j (nI (L a))) := by
  subst hi
  subst hj
  intro k hk
  unfold swN
  by_cases q1 : k = j
  · rw [if_pos q1, q1, upd_at]
    exact ⟨rfl, (h i ha).2⟩
  · rw [if_neg q1, upd_ne q1]
    by_cases q2 : k = i
    · rw [if_pos q2, q2, upd_at]
      exact ⟨rfl, (h j hb).2⟩
    · rw [if_neg q2, upd_ne q2]
      exact h k hk

set_option maxHeartbeats 4000000 in
set_option maxRecDepth 100000 in
theorem r_templateCountC (G : EnvG) (l : Launch) (Φ : Hm) (sz x : Nat) (rd : (Nat → Int32) → Prop) (cr : (Nat → Int64) → Prop) (tp : (Nat → Int32) → Prop) (tt : (Nat → Int64) → Prop) (sI : (Nat → Int32) → Prop) (sT : (Nat → Int32) → Prop) (pt : (Nat → Int32) → Prop) (ql : (Nat → Int32) → Prop) (fl : Nat) (pe : Nat) (le : Nat) (nx : Nat) (il : Nat) (qu : Nat) (kn : Int32) (ec : Int32) (nu : Int32) (va : Int64) (st : Nat) (ep : Int32) (ti : Int32) (ad : Int32) (ob : Int64) (ra : Int32) (rt : Nat) (ex : Int32) (sa : Int64) (us : Int64) (tk : Nat) (th : Int32) (me : Int32) (dr : Int32) (se : Int64) (sn : Int64) (c : Cf) (hx : G.2.2.2 ≤ x) (hI : Im G x (rd, (NNq c), cr, tp, tt, sI, sT, pt, ql, fl, pe, le, nx, il, qu, kn, ec, nu, va, st, ep, ti, ad, ob, ra, rt, ex, sa, us, tk, th, me, dr, se, sn) Φ)  : Ct G l yX12_templateCount wsX12_templateCount ({ frames := 0, cells := 0, slots := 0, locals := 0 }) 0 0 [.ref x] Φ sz (fun v Φ1 sz1 => (v = some (.int (c 10))) ∧ sz1 = sz ∧ (∃ (th1 : Int32), Im G x (rd, (NNq c), cr, tp, tt, sI, sT, pt, ql, fl, pe, le, nx, il, qu, kn, ec, nu, va, st, ep, ti, ad, ob, ra, rt, ex, sa, us, tk, th1, me, dr, se, sn) Φ1) ∧ Fr x (fun j9 => j9 = 0) Φ Φ1) := by
  refine Ct.of (cc := cX12_templateCount) (maxL := 1) (ret := (some .int)) (by decide) rfl (Nat.le_of_ble_eq_true rfl) ?_
  intro p9 e9 s9 m9 w9 t9 k9 B
  show Z p9 l e9 _ s9 m9 _ w9 t9 k9 _ G 1 0 [(0, .ref x)] [] Φ sz 0 0
  refine z_aload_n B dX12_templateCount_0 rfl 0 rfl ?_
  refine z_iconst (v := 0) B dX12_templateCount_1 rfl ?_
  obtain ⟨n_1, v_1, n_2, h_1, b_13, b_1, b_2, b_3, b_4, b_5, b_6, b_7, b_8, b_9, b_10, b_11, b_12⟩ := im0 hI
  replace b_1 : 1 ≤ rt := b_1
  replace b_2 : rt ≤ 1024 := b_2
  replace b_3 : fl ≤ 12 := b_3
  replace b_4 : pe ≤ 24 := b_4
  replace b_5 : le ≤ 700 := b_5
  replace b_6 : qu ≤ 12 := b_6
  replace b_7 : n_1 ≤ 8 := b_7
  replace b_8 : n_2 ≤ 24 := b_8
  replace b_9 : tk ≤ 24 := b_9
  replace b_10 : il ≤ 700 := b_10
  replace b_11 : nx ≤ 701 := b_11
  replace b_12 : st ≤ 701 := b_12
  have h_2 : Φ x = some (o_ 14 [.int th, .ref (x + 1), .ref (x + 2), .int ti, .int ra, .int (nI rt), .int ex, .int ad, .ref (x + 3), .ref (x + 4), .int me, .long se, .ref (x + 5), .int (nI fl), .int dr, .long ob, .long sa, .long sn, .long us, .ref (x + 6), .ref (x + 7), .int (nI pe), .ref (x + 8), .int (nI le), .ref (x + 9), .ref (x + 10), .int (nI qu), .ref (x + 11), .ref (x + 12), .ref (x + 13), .ref (x + 14), .ref (x + 15), .ref (x + 16), .int (nI n_1), .long v_1, .ref (x + 17), .ref (x + 18), .ref (x + 19), .ref (x + 20), .ref (x + 21), .ref (x + 22), .int (nI n_2), .ref (x + 23), .ref (x + 24), .int (nI tk), .ref (x + 25), .int (nI il), .int (nI nx), .int ec, .int ep, .int kn, .int (nI st), .int nu, .long va]) := h_1
  refine z_put (ref := "FlowExporterModel") (C := RX12) (T := TX12) (N := 54) (ci := 14) (v := .int 0) B hu_X12_templateCount_X12 tyX12 tyX12_ok nmX12 rfl 0 (Nat.le_of_ble_eq_true rfl) hv_X12_templateCount_1 rfl (Or.inl rfl) h_2 hx rfl rfl (Nat.le_of_ble_eq_true rfl) dX12_templateCount_2 (fun Φ1 hΦ1 => ?_)
  have h_3 : Φ1 x = some (o_ 14 [.int 0, .ref (x + 1), .ref (x + 2), .int ti, .int ra, .int (nI rt), .int ex, .int ad, .ref (x + 3), .ref (x + 4), .int me, .long se, .ref (x + 5), .int (nI fl), .int dr, .long ob, .long sa, .long sn, .long us, .ref (x + 6), .ref (x + 7), .int (nI pe), .ref (x + 8), .int (nI le), .ref (x + 9), .ref (x + 10), .int (nI qu), .ref (x + 11), .ref (x + 12), .ref (x + 13), .ref (x + 14), .ref (x + 15), .ref (x + 16), .int (nI n_1), .long v_1, .ref (x + 17), .ref (x + 18), .ref (x + 19), .ref (x + 20), .ref (x + 21), .ref (x + 22), .int (nI n_2), .ref (x + 23), .ref (x + 24), .int (nI tk), .ref (x + 25), .int (nI il), .int (nI nx), .int ec, .int ep, .int kn, .int (nI st), .int nu, .long va]) := fset_at hΦ1
  have hI1 : Im G x (rd, (NNq c), cr, tp, tt, sI, sT, pt, ql, fl, pe, le, nx, il, qu, kn, ec, nu, va, st, ep, ti, ad, ob, ra, rt, ex, sa, us, tk, 0, me, dr, se, sn) Φ1 := Im.put0 hI hΦ1 ⟨n_1, v_1, n_2, rfl, b_13, b_1, b_2, b_3, b_4, b_5, b_6, b_7, b_8, b_9, b_10, b_11, b_12⟩
  refine z_aload_n B dX12_templateCount_5 rfl 0 rfl ?_
  refine z_get (ref := "FlowExporterModel") (C := RX12) (T := TX12) (N := 54) (ci := 14) (v := .ref (x + 2)) B hu_X12_templateCount_X12 rfl 2 (Nat.le_of_ble_eq_true rfl) hv_X12_templateCount_17 rfl h_3 rfl dX12_templateCount_6 ?_
  refine z_bipush (v := 10) B dX12_templateCount_9 rfl ?_
  obtain ⟨f_1, h_4, r_1⟩ := imk (k := 2) hI1
  replace r_1 : (NNq c) f_1 := r_1
  have r_2 : NN f_1 := r_1.1
  have h_5 : Φ1 (x + 2) = some (ai_ G 307 f_1) := h_4
  refine z_iald B h_5 (vin rfl) dX12_templateCount_11 ?_
  exact z_ret_i B dX12_templateCount_12 ⟨(congrArg (fun w9 : Int32 => some (Value.int w9)) ((congrArg f_1 (show (10 : Int32).toNatClampNeg = 10 by decide)).trans (r_1.2 10 (by decide)))), rfl, ⟨0, hI1⟩, (fun b9 h9 => ((fset_fr hΦ1 (fun h8 => h9 (0) h8 (show 0 = 0 by decide))).trans rfl))⟩

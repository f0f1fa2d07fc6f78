theorem dX12_startExporter_0 : decode cX12_startExporter 0 = .ok (.aload_n 0, 1) := by decide +kernel
theorem dX12_startExporter_1 : decode cX12_startExporter 1 = .ok (.iconst 0, 1) := by decide +kernel
theorem dX12_startExporter_2 : decode cX12_startExporter 2 = .ok (.putfield 133, 3) := by decide +kernel
theorem dX12_startExporter_5 : decode cX12_startExporter 5 = .ok (.aload_n 0, 1) := by decide +kernel
theorem dX12_startExporter_6 : decode cX12_startExporter 6 = .ok (.iconst 0, 1) := by decide +kernel
theorem dX12_startExporter_7 : decode cX12_startExporter 7 = .ok (.putfield 136, 3) := by decide +kernel
theorem dX12_startExporter_10 : decode cX12_startExporter 10 = .ok (.aload_n 0, 1) := by decide +kernel
theorem dX12_startExporter_11 : decode cX12_startExporter 11 = .ok (.lconst 0, 1) := by decide +kernel
theorem dX12_startExporter_12 : decode cX12_startExporter 12 = .ok (.putfield 201, 3) := by decide +kernel
theorem dX12_startExporter_15 : decode cX12_startExporter 15 = .ok (.iconst 0, 1) := by decide +kernel
theorem dX12_startExporter_16 : decode cX12_startExporter 16 = .ok (.istore_n 1, 1) := by decide +kernel
theorem dX12_startExporter_17 : decode cX12_startExporter 17 = .ok (.iload_n 1, 1) := by decide +kernel
theorem dX12_startExporter_18 : decode cX12_startExporter 18 = .ok (.iconst 4, 1) := by decide +kernel
theorem dX12_startExporter_19 : decode cX12_startExporter 19 = .ok (.if_icmp .ge 16, 3) := by decide +kernel
theorem dX12_startExporter_22 : decode cX12_startExporter 22 = .ok (.aload_n 0, 1) := by decide +kernel
theorem dX12_startExporter_23 : decode cX12_startExporter 23 = .ok (.getfield 20, 3) := by decide +kernel
theorem dX12_startExporter_26 : decode cX12_startExporter 26 = .ok (.iload_n 1, 1) := by decide +kernel
theorem dX12_startExporter_27 : decode cX12_startExporter 27 = .ok (.iconst (-1), 1) := by decide +kernel
theorem dX12_startExporter_28 : decode cX12_startExporter 28 = .ok (.iastore, 1) := by decide +kernel
theorem dX12_startExporter_29 : decode cX12_startExporter 29 = .ok (.iinc 1 1, 3) := by decide +kernel
theorem dX12_startExporter_32 : decode cX12_startExporter 32 = .ok (.goto (-15), 3) := by decide +kernel
theorem dX12_startExporter_35 : decode cX12_startExporter 35 = .ok (.return_, 1) := by decide +kernel
theorem dX12_requestTemplates_0 : decode cX12_requestTemplates 0 = .ok (.aload_n 0, 1) := by decide +kernel
theorem dX12_requestTemplates_1 : decode cX12_requestTemplates 1 = .ok (.iconst 0, 1) := by decide +kernel
theorem dX12_requestTemplates_2 : decode cX12_requestTemplates 2 = .ok (.putfield 1, 3) := by decide +kernel
theorem dX12_requestTemplates_5 : decode cX12_requestTemplates 5 = .ok (.iconst 0, 1) := by decide +kernel
theorem dX12_requestTemplates_6 : decode cX12_requestTemplates 6 = .ok (.istore_n 1, 1) := by decide +kernel
theorem dX12_requestTemplates_7 : decode cX12_requestTemplates 7 = .ok (.iload_n 1, 1) := by decide +kernel
theorem dX12_requestTemplates_8 : decode cX12_requestTemplates 8 = .ok (.iconst 4, 1) := by decide +kernel
theorem dX12_requestTemplates_9 : decode cX12_requestTemplates 9 = .ok (.if_icmp .ge 16, 3) := by decide +kernel
theorem dX12_requestTemplates_12 : decode cX12_requestTemplates 12 = .ok (.aload_n 0, 1) := by decide +kernel
theorem dX12_requestTemplates_13 : decode cX12_requestTemplates 13 = .ok (.getfield 20, 3) := by decide +kernel
theorem dX12_requestTemplates_16 : decode cX12_requestTemplates 16 = .ok (.iload_n 1, 1) := by decide +kernel
theorem dX12_requestTemplates_17 : decode cX12_requestTemplates 17 = .ok (.iconst (-1), 1) := by decide +kernel
theorem dX12_requestTemplates_18 : decode cX12_requestTemplates 18 = .ok (.iastore, 1) := by decide +kernel
theorem dX12_requestTemplates_19 : decode cX12_requestTemplates 19 = .ok (.iinc 1 1, 3) := by decide +kernel
theorem dX12_requestTemplates_22 : decode cX12_requestTemplates 22 = .ok (.goto (-15), 3) := by decide +kernel
theorem dX12_requestTemplates_25 : decode cX12_requestTemplates 25 = .ok (.return_, 1) := by decide +kernel
set_option maxRecDepth 20000 in
theorem ggX12_restartExporter_X12_startExporter : GoodIn wsX12_restartExporter wsX12_startExporter := goodIn_ca ((goodIn_ca (goodIn_r _ [7, 2, 8, 9, 10] rfl (by decide +kernel)) (goodIn_sub (fun _ h => List.mem_cons_of_mem _ (List.mem_append_left _ (List.mem_append_right _ h))) gw_wsX120))) (goodIn_sub (fun _ h => List.mem_cons_of_mem _ (List.mem_append_right _ h)) (all_fg _))
set_option maxRecDepth 20000 in
theorem gX12_restartExporter_X12_startExporter : GoodIn wsX12_restartExporter (wsV RX12 151 RX12 yX12_startExporter wsX12_startExporter) := goodIn_app (goodIn_m (mem_cA (List.mem_cons_of_mem _ (List.mem_append_left _ (List.mem_append_left _ (List.mem_of_getElem? (i := 2) rfl)))) (mem_cA (List.mem_cons_of_mem _ (List.mem_append_left _ (List.mem_append_left _ (List.mem_of_getElem? (i := 3) rfl)))) (mem_cA (List.mem_cons_of_mem _ (List.mem_append_left _ (List.mem_append_left _ (List.mem_of_getElem? (i := 4) rfl)))) (mem_cA (List.mem_cons_of_mem _ (List.mem_append_left _ (List.mem_append_left _ (List.mem_of_getElem? (i := 5) rfl)))) mem_cZ)))) (by decide +kernel)) ggX12_restartExporter_X12_startExporter
theorem dX12_restartExporter_0 : decode cX12_restartExporter 0 = .ok (.aload_n 0, 1) := by decide +kernel
theorem dX12_restartExporter_1 : decode cX12_restartExporter 1 = .ok (.iconst 0, 1) := by decide +kernel
theorem dX12_restartExporter_2 : decode cX12_restartExporter 2 = .ok (.putfield 1, 3) := by decide +kernel
theorem dX12_restartExporter_5 : decode cX12_restartExporter 5 = .ok (.aload_n 0, 1) := by decide +kernel
theorem dX12_restartExporter_6 : decode cX12_restartExporter 6 = .ok (.getfield 133, 3) := by decide +kernel
theorem dX12_restartExporter_9 : decode cX12_restartExporter 9 = .ok (.istore_n 1, 1) := by decide +kernel
theorem dX12_restartExporter_10 : decode cX12_restartExporter 10 = .ok (.aload_n 0, 1) := by decide +kernel
theorem dX12_restartExporter_11 : decode cX12_restartExporter 11 = .ok (.invokevirtual 151, 3) := by decide +kernel
theorem dX12_restartExporter_14 : decode cX12_restartExporter 14 = .ok (.iload_n 1, 1) := by decide +kernel
theorem dX12_restartExporter_15 : decode cX12_restartExporter 15 = .ok (.ireturn, 1) := by decide +kernel
theorem dX12_startCollector_0 : decode cX12_startCollector 0 = .ok (.iconst 0, 1) := by decide +kernel
theorem dX12_startCollector_1 : decode cX12_startCollector 1 = .ok (.istore_n 1, 1) := by decide +kernel
theorem dX12_startCollector_2 : decode cX12_startCollector 2 = .ok (.iload_n 1, 1) := by decide +kernel
theorem dX12_startCollector_3 : decode cX12_startCollector 3 = .ok (.iconst 4, 1) := by decide +kernel
theorem dX12_startCollector_4 : decode cX12_startCollector 4 = .ok (.if_icmp .ge 16, 3) := by decide +kernel
theorem dX12_startCollector_7 : decode cX12_startCollector 7 = .ok (.aload_n 0, 1) := by decide +kernel
theorem dX12_startCollector_8 : decode cX12_startCollector 8 = .ok (.getfield 48, 3) := by decide +kernel
theorem dX12_startCollector_11 : decode cX12_startCollector 11 = .ok (.iload_n 1, 1) := by decide +kernel
theorem dX12_startCollector_12 : decode cX12_startCollector 12 = .ok (.iconst 0, 1) := by decide +kernel
theorem dX12_startCollector_13 : decode cX12_startCollector 13 = .ok (.iastore, 1) := by decide +kernel
theorem dX12_startCollector_14 : decode cX12_startCollector 14 = .ok (.iinc 1 1, 3) := by decide +kernel
theorem dX12_startCollector_17 : decode cX12_startCollector 17 = .ok (.goto (-15), 3) := by decide +kernel
theorem dX12_startCollector_20 : decode cX12_startCollector 20 = .ok (.aload_n 0, 1) := by decide +kernel
theorem dX12_startCollector_21 : decode cX12_startCollector 21 = .ok (.iconst 0, 1) := by decide +kernel
theorem dX12_startCollector_22 : decode cX12_startCollector 22 = .ok (.putfield 326, 3) := by decide +kernel
theorem dX12_startCollector_25 : decode cX12_startCollector 25 = .ok (.aload_n 0, 1) := by decide +kernel
theorem dX12_startCollector_26 : decode cX12_startCollector 26 = .ok (.ldc2_w 329, 3) := by decide +kernel
theorem dX12_startCollector_29 : decode cX12_startCollector 29 = .ok (.putfield 331, 3) := by decide +kernel
theorem dX12_startCollector_32 : decode cX12_startCollector 32 = .ok (.return_, 1) := by decide +kernel
set_option maxHeartbeats 4000000 in
set_option maxRecDepth 100000 in
theorem r_requestTemplates (G : EnvG) (l : Launch) (Φ : Hm) (sz x : Nat) (rd : (Nat → Int32) → Prop) (nw : (Nat → Int32) → Prop) (cr : (Nat → Int64) → Prop) (tp : (Nat → Int32) → Prop) (tt : (Nat → Int64) → Prop) (fl : Nat) (pe : Nat) (le : Nat) (nx : Nat) (il : Nat) (qu : Nat) (kn : Int32) (ec : Int32) (nu : Int32) (va : Int64) (st : Nat) (ep : Int32) (ti : Int32) (ad : Int32) (ob : Int64) (ra : Int32) (rt : Nat) (ex : Int32) (sa : Int64) (us : Int64) (tk : Nat) (th : Int32)  (hx : G.2.2.2 ≤ x) (hI : Im G x (rd, nw, cr, tp, tt, fl, pe, le, nx, il, qu, kn, ec, nu, va, st, ep, ti, ad, ob, ra, rt, ex, sa, us, tk, th) Φ) (hnw : ∀ f9 : Nat → Int32, nw f9 → NN f9) : Ct G l yX12_requestTemplates wsX12_requestTemplates ({ frames := 0, cells := 0, slots := 0, locals := 0 }) 0 0 [.ref x] Φ sz (fun v Φ1 sz1 => (v = none) ∧ sz1 = sz ∧ (∃ (th1 : Int32), Im G x (rd, nw, cr, tp, tt, fl, pe, le, nx, il, qu, kn, ec, nu, va, st, ep, ti, ad, ob, ra, rt, ex, sa, us, tk, th1) Φ1) ∧ Fr x (fun j9 => j9 = 0 ∨ j9 = 3) Φ Φ1) := by
  refine Ct.of (cc := cX12_requestTemplates) (maxL := 2) (ret := none) (by decide) rfl (Nat.le_of_ble_eq_true rfl) ?_
  intro p9 e9 s9 m9 w9 t9 k9 B
  show Z p9 l e9 _ s9 m9 _ w9 t9 k9 _ G 2 0 [(0, .ref x)] [] Φ sz 0 0
  refine z_aload_n B dX12_requestTemplates_0 rfl 0 rfl ?_
  refine z_iconst (v := 0) B dX12_requestTemplates_1 rfl ?_
  obtain ⟨v_1, v_2, v_3, v_4, n_1, v_5, n_2, h_1, b_13, b_1, b_2, b_3, b_4, b_5, b_6, b_7, b_8, b_9, b_10, b_11, b_12⟩ := im0 hI
  replace b_1 : 1 ≤ rt := b_1
  replace b_2 : rt ≤ 1024 := b_2
  replace b_3 : fl ≤ 12 := b_3
  replace b_4 : pe ≤ 24 := b_4
  replace b_5 : le ≤ 700 := b_5
  replace b_6 : qu ≤ 12 := b_6
  replace b_7 : n_1 ≤ 8 := b_7
  replace b_8 : n_2 ≤ 24 := b_8
  replace b_9 : tk ≤ 24 := b_9
  replace b_10 : il ≤ 700 := b_10
  replace b_11 : nx ≤ 701 := b_11
  replace b_12 : st ≤ 701 := b_12
  have h_2 : Φ x = some (o_ 14 [.int th, .ref (x + 1), .ref (x + 2), .int ti, .int ra, .int (nI rt), .int ex, .int ad, .ref (x + 3), .ref (x + 4), .int v_1, .long v_2, .ref (x + 5), .int (nI fl), .int v_3, .long ob, .long sa, .long v_4, .long us, .ref (x + 6), .ref (x + 7), .int (nI pe), .ref (x + 8), .int (nI le), .ref (x + 9), .ref (x + 10), .int (nI qu), .ref (x + 11), .ref (x + 12), .ref (x + 13), .ref (x + 14), .ref (x + 15), .ref (x + 16), .int (nI n_1), .long v_5, .ref (x + 17), .ref (x + 18), .ref (x + 19), .ref (x + 20), .ref (x + 21), .ref (x + 22), .int (nI n_2), .ref (x + 23), .ref (x + 24), .int (nI tk), .ref (x + 25), .int (nI il), .int (nI nx), .int ec, .int ep, .int kn, .int (nI st), .int nu, .long va]) := h_1
  refine z_put (ref := "FlowExporterModel") (C := RX12) (T := TX12) (N := 54) (ci := 14) (v := .int 0) B hu_X12_requestTemplates_X12 tyX12 tyX12_ok nmX12 rfl 0 (Nat.le_of_ble_eq_true rfl) hv_X12_requestTemplates_1 rfl (Or.inl rfl) h_2 hx rfl rfl (Nat.le_of_ble_eq_true rfl) dX12_requestTemplates_2 (fun Φ1 hΦ1 => ?_)
  have h_3 : Φ1 x = some (o_ 14 [.int 0, .ref (x + 1), .ref (x + 2), .int ti, .int ra, .int (nI rt), .int ex, .int ad, .ref (x + 3), .ref (x + 4), .int v_1, .long v_2, .ref (x + 5), .int (nI fl), .int v_3, .long ob, .long sa, .long v_4, .long us, .ref (x + 6), .ref (x + 7), .int (nI pe), .ref (x + 8), .int (nI le), .ref (x + 9), .ref (x + 10), .int (nI qu), .ref (x + 11), .ref (x + 12), .ref (x + 13), .ref (x + 14), .ref (x + 15), .ref (x + 16), .int (nI n_1), .long v_5, .ref (x + 17), .ref (x + 18), .ref (x + 19), .ref (x + 20), .ref (x + 21), .ref (x + 22), .int (nI n_2), .ref (x + 23), .ref (x + 24), .int (nI tk), .ref (x + 25), .int (nI il), .int (nI nx), .int ec, .int ep, .int kn, .int (nI st), .int nu, .long va]) := fset_at hΦ1
  have hI1 : Im G x (rd, nw, cr, tp, tt, fl, pe, le, nx, il, qu, kn, ec, nu, va, st, ep, ti, ad, ob, ra, rt, ex, sa, us, tk, 0) Φ1 := Im.put0 hI hΦ1 ⟨v_1, v_2, v_3, v_4, n_1, v_5, n_2, rfl, b_13, b_1, b_2, b_3, b_4, b_5, b_6, b_7, b_8, b_9, b_10, b_11, b_12⟩
  refine z_iconst (v := 0) B dX12_requestTemplates_5 rfl ?_
  refine z_istore_n (lv' := [(1, .int 0), (0, .ref x)]) B dX12_requestTemplates_6 rfl (Nat.le_of_ble_eq_true rfl) rfl ?_
  refine z_lv [0, 1] rfl ?_
  refine z_loop (α := Nat) (fun (a9 : Nat) Φi => Im G x (rd, nw, cr, tp, tt, fl, pe, le, nx, il, qu, kn, ec, nu, va, st, ep, ti, ad, ob, ra, rt, ex, sa, us, tk, 0) Φi ∧ Fr x (fun j9 => j9 = 0 ∨ j9 = 3) Φ1 Φi ∧ (a9 ≤ 4) ∧ True) (fun a9 => [(1, .int (nI a9)), (0, .ref x)]) (fun a9 => 4 - a9) ?_ (0) ⟨hI1, fun _ _ => rfl, (show 0 ≤ 4 by omega), trivial⟩
  rintro i_1 Φl1 ⟨hI2, hF1, b_14, -⟩ ih1
  replace hI2 : Im G x (rd, nw, cr, tp, tt, fl, pe, le, nx, il, qu, kn, ec, nu, va, st, ep, ti, ad, ob, ra, rt, ex, sa, us, tk, 0) Φl1 := hI2
  replace b_14 : i_1 ≤ 4 := b_14
  show Z p9 l e9 _ s9 m9 _ w9 t9 k9 _ G 2 7 [(1, .int (nI i_1)), (0, .ref x)] [] Φl1 _ _ _
  refine z_iload_n B dX12_requestTemplates_7 rfl 0 rfl ?_
  refine z_iconst (v := 4) B dX12_requestTemplates_8 rfl ?_
  refine z_icmp_ge (tgt := 25) B dX12_requestTemplates_9 rfl (fun c_1 => ?_) (fun c_1 => ?_)
  · have e_1 : 4 ≤ i_1 := (nI_leI (a := 4) (b := i_1) (by omega) (by omega)).mp c_1
    exact z_ret_v B dX12_requestTemplates_25 ⟨rfl, rfl, ⟨0, hI2⟩, (fun b9 h9 => ((hF1 b9 h9).trans ((fset_fr hΦ1 (fun h8 => h9 (0) h8 (show 0 = 0 ∨ 0 = 3 by decide))).trans rfl)))⟩
  · have e_2 : ¬ (4 ≤ i_1) := fun h9 => c_1 ((nI_leI (a := 4) (b := i_1) (by omega) (by omega)).mpr h9)
    refine z_aload_n B dX12_requestTemplates_12 rfl 1 rfl ?_
    obtain ⟨v_6, v_7, v_8, v_9, n_3, v_10, n_4, h_4, b_27, b_15, b_16, b_17, b_18, b_19, b_20, b_21, b_22, b_23, b_24, b_25, b_26⟩ := im0 hI2
    replace b_15 : 1 ≤ rt := b_15
    replace b_16 : rt ≤ 1024 := b_16
    replace b_17 : fl ≤ 12 := b_17
    replace b_18 : pe ≤ 24 := b_18
    replace b_19 : le ≤ 700 := b_19
    replace b_20 : qu ≤ 12 := b_20
    replace b_21 : n_3 ≤ 8 := b_21
    replace b_22 : n_4 ≤ 24 := b_22
    replace b_23 : tk ≤ 24 := b_23
    replace b_24 : il ≤ 700 := b_24
    replace b_25 : nx ≤ 701 := b_25
    replace b_26 : st ≤ 701 := b_26
    have h_5 : Φl1 x = some (o_ 14 [.int 0, .ref (x + 1), .ref (x + 2), .int ti, .int ra, .int (nI rt), .int ex, .int ad, .ref (x + 3), .ref (x + 4), .int v_6, .long v_7, .ref (x + 5), .int (nI fl), .int v_8, .long ob, .long sa, .long v_9, .long us, .ref (x + 6), .ref (x + 7), .int (nI pe), .ref (x + 8), .int (nI le), .ref (x + 9), .ref (x + 10), .int (nI qu), .ref (x + 11), .ref (x + 12), .ref (x + 13), .ref (x + 14), .ref (x + 15), .ref (x + 16), .int (nI n_3), .long v_10, .ref (x + 17), .ref (x + 18), .ref (x + 19), .ref (x + 20), .ref (x + 21), .ref (x + 22), .int (nI n_4), .ref (x + 23), .ref (x + 24), .int (nI tk), .ref (x + 25), .int (nI il), .int (nI nx), .int ec, .int ep, .int kn, .int (nI st), .int nu, .long va]) := h_4
    refine z_get (ref := "FlowExporterModel") (C := RX12) (T := TX12) (N := 54) (ci := 14) (v := .ref (x + 3)) B hu_X12_requestTemplates_X12 rfl 8 (Nat.le_of_ble_eq_true rfl) hv_X12_requestTemplates_20 rfl h_5 rfl dX12_requestTemplates_13 ?_
    refine z_iload_n B dX12_requestTemplates_16 rfl 0 rfl ?_
    refine z_iconst (v := (-1)) B dX12_requestTemplates_17 rfl ?_
    obtain ⟨f_1, h_6⟩ := imk (k := 3) hI2
    have h_7 : Φl1 (x + 3) = some (ai_ G 4 f_1) := h_6
    refine z_iast B h_7 (Nat.le_trans hx (Nat.le_add_right x 3)) (vp_in_nI (by omega) (by omega)) dX12_requestTemplates_18 (fun Φ2 hΦ2 => ?_)
    have h_8 : Φ2 (x + 3) = some (ai_ G 4 (upd f_1 (nI i_1).toNatClampNeg (-1))) := fset_at hΦ2
    have hI3 : Im G x (rd, nw, cr, tp, tt, fl, pe, le, nx, il, qu, kn, ec, nu, va, st, ep, ti, ad, ob, ra, rt, ex, sa, us, tk, 0) Φ2 := Im.put (k := 3) hI2 hΦ2 ⟨_, rfl⟩
    refine z_iinc (k := 0) (v := nI (i_1 + 1)) (lv' := [(1, .int (nI (i_1 + 1))), (0, .ref x)]) B dX12_requestTemplates_19 rfl (nI_add i_1 1) (Nat.le_of_ble_eq_true rfl) rfl ?_
    refine z_goto (tgt := 7) B dX12_requestTemplates_22 rfl ?_
    refine z_lv [0, 1] rfl ?_
    exact ih1 (i_1 + 1) Φ2 (show 4 - (i_1 + 1) < 4 - i_1 by omega) ⟨hI3, (fun b9 h9 => ((fset_fr hΦ2 (fun h8 => h9 (3) h8 (show 3 = 0 ∨ 3 = 3 by decide))).trans ((hF1 b9 h9).trans rfl))), (show (i_1 + 1) ≤ 4 by omega), trivial⟩

theorem hu_X12_startExporter_X12 : ∀ w ∈ u_ws RX12 TX12 54, w ∈ wsX12_startExporter := fun _ h => List.mem_cons_of_mem _ (List.mem_append_left _ (List.mem_append_right _ (h)))

theorem hv_X12_startExporter_133 : Cond.fieldLink RX12 133 "FlowExporterModel" (TX12 13).2.1 (TX12 13).2.2.1 ∈ wsX12_startExporter := List.mem_cons_of_mem _ (List.mem_append_left _ (List.mem_append_left _ (List.mem_of_getElem? (i := 0) rfl)))

theorem hv_X12_startExporter_136 : Cond.fieldLink RX12 136 "FlowExporterModel" (TX12 21).2.1 (TX12 21).2.2.1 ∈ wsX12_startExporter := List.mem_cons_of_mem _ (List.mem_append_left _ (List.mem_append_left _ (List.mem_of_getElem? (i := 1) rfl)))

theorem hv_X12_startExporter_201 : Cond.fieldLink RX12 201 "FlowExporterModel" (TX12 11).2.1 (TX12 11).2.2.1 ∈ wsX12_startExporter := List.mem_cons_of_mem _ (List.mem_append_left _ (List.mem_append_left _ (List.mem_of_getElem? (i := 2) rfl)))

theorem hv_X12_startExporter_20 : Cond.fieldLink RX12 20 "FlowExporterModel" (TX12 8).2.1 (TX12 8).2.2.1 ∈ wsX12_startExporter := List.mem_cons_of_mem _ (List.mem_append_left _ (List.mem_append_left _ (List.mem_of_getElem? (i := 3) rfl)))

set_option maxHeartbeats 4000000 in
set_option maxRecDepth 100000 in
theorem r_startExporter (G : EnvG) (l : Launch) (Φ : Hm) (sz x : Nat) (rd : (Nat → Int32) → Prop) (nw : (Nat → Int32) → Prop) (cr : (Nat → Int64) → Prop) (tp : (Nat → Int32) → Prop) (tt : (Nat → Int64) → Prop) (fl : Nat) (pe : Nat) (le : Nat) (nx : Nat) (il : Nat) (qu : Nat) (kn : Int32) (ec : Int32) (nu : Int32) (va : Int64) (st : Nat) (ep : Int32) (ti : Int32) (ad : Int32) (ob : Int64) (ra : Int32) (rt : Nat) (ex : Int32) (sa : Int64) (us : Int64) (tk : Nat) (th : Int32)  (hx : G.2.2.2 ≤ x) (hI : Im G x (rd, nw, cr, tp, tt, fl, pe, le, nx, il, qu, kn, ec, nu, va, st, ep, ti, ad, ob, ra, rt, ex, sa, us, tk, th) Φ) (hnw : ∀ f9 : Nat → Int32, nw f9 → NN f9) : Ct G l yX12_startExporter wsX12_startExporter ({ frames := 0, cells := 0, slots := 0, locals := 0 }) 0 0 [.ref x] Φ sz (fun v Φ1 sz1 => (v = none) ∧ sz1 = sz ∧ (Im G x (rd, nw, cr, tp, tt, 0, 0, le, nx, il, qu, kn, ec, nu, va, st, ep, ti, ad, ob, ra, rt, ex, sa, us, tk, th) Φ1) ∧ Fr x (fun j9 => j9 = 0 ∨ j9 = 3) Φ Φ1) := by
  refine Ct.of (cc := cX12_startExporter) (maxL := 2) (ret := none) (by decide) rfl (Nat.le_of_ble_eq_true rfl) ?_
  intro p9 e9 s9 m9 w9 t9 k9 B
  show Z p9 l e9 _ s9 m9 _ w9 t9 k9 _ G 2 0 [(0, .ref x)] [] Φ sz 0 0
  refine z_aload_n B dX12_startExporter_0 rfl 0 rfl ?_
  refine z_iconst (v := 0) B dX12_startExporter_1 rfl ?_
  obtain ⟨v_1, v_2, v_3, v_4, n_1, v_5, n_2, h_1, b_13, b_1, b_2, b_3, b_4, b_5, b_6, b_7, b_8, b_9, b_10, b_11, b_12⟩ := im0 hI
  replace b_1 : 1 ≤ rt := b_1
  replace b_2 : rt ≤ 1024 := b_2
  replace b_3 : fl ≤ 12 := b_3
  replace b_4 : pe ≤ 24 := b_4
  replace b_5 : le ≤ 700 := b_5
  replace b_6 : qu ≤ 12 := b_6
  replace b_7 : n_1 ≤ 8 := b_7
  replace b_8 : n_2 ≤ 24 := b_8
  replace b_9 : tk ≤ 24 := b_9
  replace b_10 : il ≤ 700 := b_10
  replace b_11 : nx ≤ 701 := b_11
  replace b_12 : st ≤ 701 := b_12
  have h_2 : Φ x = some (o_ 14 [.int th, .ref (x + 1), .ref (x + 2), .int ti, .int ra, .int (nI rt), .int ex, .int ad, .ref (x + 3), .ref (x + 4), .int v_1, .long v_2, .ref (x + 5), .int (nI fl), .int v_3, .long ob, .long sa, .long v_4, .long us, .ref (x + 6), .ref (x + 7), .int (nI pe), .ref (x + 8), .int (nI le), .ref (x + 9), .ref (x + 10), .int (nI qu), .ref (x + 11), .ref (x + 12), .ref (x + 13), .ref (x + 14), .ref (x + 15), .ref (x + 16), .int (nI n_1), .long v_5, .ref (x + 17), .ref (x + 18), .ref (x + 19), .ref (x + 20), .ref (x + 21), .ref (x + 22), .int (nI n_2), .ref (x + 23), .ref (x + 24), .int (nI tk), .ref (x + 25), .int (nI il), .int (nI nx), .int ec, .int ep, .int kn, .int (nI st), .int nu, .long va]) := h_1
  refine z_put (ref := "FlowExporterModel") (C := RX12) (T := TX12) (N := 54) (ci := 14) (v := .int 0) B hu_X12_startExporter_X12 tyX12 tyX12_ok nmX12 rfl 13 (Nat.le_of_ble_eq_true rfl) hv_X12_startExporter_133 rfl (Or.inl rfl) h_2 hx rfl rfl (Nat.le_of_ble_eq_true rfl) dX12_startExporter_2 (fun Φ1 hΦ1 => ?_)
  have h_3 : Φ1 x = some (o_ 14 [.int th, .ref (x + 1), .ref (x + 2), .int ti, .int ra, .int (nI rt), .int ex, .int ad, .ref (x + 3), .ref (x + 4), .int v_1, .long v_2, .ref (x + 5), .int 0, .int v_3, .long ob, .long sa, .long v_4, .long us, .ref (x + 6), .ref (x + 7), .int (nI pe), .ref (x + 8), .int (nI le), .ref (x + 9), .ref (x + 10), .int (nI qu), .ref (x + 11), .ref (x + 12), .ref (x + 13), .ref (x + 14), .ref (x + 15), .ref (x + 16), .int (nI n_1), .long v_5, .ref (x + 17), .ref (x + 18), .ref (x + 19), .ref (x + 20), .ref (x + 21), .ref (x + 22), .int (nI n_2), .ref (x + 23), .ref (x + 24), .int (nI tk), .ref (x + 25), .int (nI il), .int (nI nx), .int ec, .int ep, .int kn, .int (nI st), .int nu, .long va]) := fset_at hΦ1
  have hI1 : Im G x (rd, nw, cr, tp, tt, 0, pe, le, nx, il, qu, kn, ec, nu, va, st, ep, ti, ad, ob, ra, rt, ex, sa, us, tk, th) Φ1 := Im.put0 hI hΦ1 ⟨v_1, v_2, v_3, v_4, n_1, v_5, n_2, rfl, b_13, b_1, b_2, (show 0 ≤ 12 by omega), b_4, b_5, b_6, b_7, b_8, b_9, b_10, b_11, b_12⟩
  refine z_aload_n B dX12_startExporter_5 rfl 0 rfl ?_
  refine z_iconst (v := 0) B dX12_startExporter_6 rfl ?_
  refine z_put (ref := "FlowExporterModel") (C := RX12) (T := TX12) (N := 54) (ci := 14) (v := .int 0) B hu_X12_startExporter_X12 tyX12 tyX12_ok nmX12 rfl 21 (Nat.le_of_ble_eq_true rfl) hv_X12_startExporter_136 rfl (Or.inl rfl) h_3 hx rfl rfl (Nat.le_of_ble_eq_true rfl) dX12_startExporter_7 (fun Φ2 hΦ2 => ?_)
  have h_4 : Φ2 x = some (o_ 14 [.int th, .ref (x + 1), .ref (x + 2), .int ti, .int ra, .int (nI rt), .int ex, .int ad, .ref (x + 3), .ref (x + 4), .int v_1, .long v_2, .ref (x + 5), .int 0, .int v_3, .long ob, .long sa, .long v_4, .long us, .ref (x + 6), .ref (x + 7), .int 0, .ref (x + 8), .int (nI le), .ref (x + 9), .ref (x + 10), .int (nI qu), .ref (x + 11), .ref (x + 12), .ref (x + 13), .ref (x + 14), .ref (x + 15), .ref (x + 16), .int (nI n_1), .long v_5, .ref (x + 17), .ref (x + 18), .ref (x + 19), .ref (x + 20), .ref (x + 21), .ref (x + 22), .int (nI n_2), .ref (x + 23), .ref (x + 24), .int (nI tk), .ref (x + 25), .int (nI il), .int (nI nx), .int ec, .int ep, .int kn, .int (nI st), .int nu, .long va]) := fset_at hΦ2
  have hI2 : Im G x (rd, nw, cr, tp, tt, 0, 0, le, nx, il, qu, kn, ec, nu, va, st, ep, ti, ad, ob, ra, rt, ex, sa, us, tk, th) Φ2 := Im.put0 hI1 hΦ2 ⟨v_1, v_2, v_3, v_4, n_1, v_5, n_2, rfl, b_13, b_1, b_2, (show 0 ≤ 12 by omega), (show 0 ≤ 24 by omega), b_5, b_6, b_7, b_8, b_9, b_10, b_11, b_12⟩
  refine z_aload_n B dX12_startExporter_10 rfl 0 rfl ?_
  refine z_lconst (v := 0) B dX12_startExporter_11 rfl ?_
  refine z_put (ref := "FlowExporterModel") (C := RX12) (T := TX12) (N := 54) (ci := 14) (v := .long 0) B hu_X12_startExporter_X12 tyX12 tyX12_ok nmX12 rfl 11 (Nat.le_of_ble_eq_true rfl) hv_X12_startExporter_201 rfl (Or.inl rfl) h_4 hx rfl rfl (Nat.le_of_ble_eq_true rfl) dX12_startExporter_12 (fun Φ3 hΦ3 => ?_)
  have h_5 : Φ3 x = some (o_ 14 [.int th, .ref (x + 1), .ref (x + 2), .int ti, .int ra, .int (nI rt), .int ex, .int ad, .ref (x + 3), .ref (x + 4), .int v_1, .long 0, .ref (x + 5), .int 0, .int v_3, .long ob, .long sa, .long v_4, .long us, .ref (x + 6), .ref (x + 7), .int 0, .ref (x + 8), .int (nI le), .ref (x + 9), .ref (x + 10), .int (nI qu), .ref (x + 11), .ref (x + 12), .ref (x + 13), .ref (x + 14), .ref (x + 15), .ref (x + 16), .int (nI n_1), .long v_5, .ref (x + 17), .ref (x + 18), .ref (x + 19), .ref (x + 20), .ref (x + 21), .ref (x + 22), .int (nI n_2), .ref (x + 23), .ref (x + 24), .int (nI tk), .ref (x + 25), .int (nI il), .int (nI nx), .int ec, .int ep, .int kn, .int (nI st), .int nu, .long va]) := fset_at hΦ3
  have hI3 : Im G x (rd, nw, cr, tp, tt, 0, 0, le, nx, il, qu, kn, ec, nu, va, st, ep, ti, ad, ob, ra, rt, ex, sa, us, tk, th) Φ3 := Im.put0 hI2 hΦ3 ⟨v_1, 0, v_3, v_4, n_1, v_5, n_2, rfl, b_13, b_1, b_2, (show 0 ≤ 12 by omega), (show 0 ≤ 24 by omega), b_5, b_6, b_7, b_8, b_9, b_10, b_11, b_12⟩
  refine z_iconst (v := 0) B dX12_startExporter_15 rfl ?_
  refine z_istore_n (lv' := [(1, .int 0), (0, .ref x)]) B dX12_startExporter_16 rfl (Nat.le_of_ble_eq_true rfl) rfl ?_
  refine z_lv [0, 1] rfl ?_
  refine z_loop (α := Nat) (fun (a9 : Nat) Φi => Im G x (rd, nw, cr, tp, tt, 0, 0, le, nx, il, qu, kn, ec, nu, va, st, ep, ti, ad, ob, ra, rt, ex, sa, us, tk, th) Φi ∧ Fr x (fun j9 => j9 = 0 ∨ j9 = 3) Φ3 Φi ∧ (a9 ≤ 4) ∧ True) (fun a9 => [(1, .int (nI a9)), (0, .ref x)]) (fun a9 => 4 - a9) ?_ (0) ⟨hI3, fun _ _ => rfl, (show 0 ≤ 4 by omega), trivial⟩
  rintro i_1 Φl1 ⟨hI4, hF1, b_14, -⟩ ih1
  replace hI4 : Im G x (rd, nw, cr, tp, tt, 0, 0, le, nx, il, qu, kn, ec, nu, va, st, ep, ti, ad, ob, ra, rt, ex, sa, us, tk, th) Φl1 := hI4
  replace b_14 : i_1 ≤ 4 := b_14
  show Z p9 l e9 _ s9 m9 _ w9 t9 k9 _ G 2 17 [(1, .int (nI i_1)), (0, .ref x)] [] Φl1 _ _ _
  refine z_iload_n B dX12_startExporter_17 rfl 0 rfl ?_
  refine z_iconst (v := 4) B dX12_startExporter_18 rfl ?_
  refine z_icmp_ge (tgt := 35) B dX12_startExporter_19 rfl (fun c_1 => ?_) (fun c_1 => ?_)
  · have e_1 : 4 ≤ i_1 := (nI_leI (a := 4) (b := i_1) (by omega) (by omega)).mp c_1
    exact z_ret_v B dX12_startExporter_35 ⟨rfl, rfl, hI4, (fun b9 h9 => ((hF1 b9 h9).trans ((fset_fr hΦ3 (fun h8 => h9 (0) h8 (show 0 = 0 ∨ 0 = 3 by decide))).trans ((fset_fr hΦ2 (fun h8 => h9 (0) h8 (show 0 = 0 ∨ 0 = 3 by decide))).trans ((fset_fr hΦ1 (fun h8 => h9 (0) h8 (show 0 = 0 ∨ 0 = 3 by decide))).trans rfl)))))⟩
  · have e_2 : ¬ (4 ≤ i_1) := fun h9 => c_1 ((nI_leI (a := 4) (b := i_1) (by omega) (by omega)).mpr h9)
    refine z_aload_n B dX12_startExporter_22 rfl 1 rfl ?_
    obtain ⟨v_6, v_7, v_8, v_9, n_3, v_10, n_4, h_6, b_27, b_15, b_16, b_17, b_18, b_19, b_20, b_21, b_22, b_23, b_24, b_25, b_26⟩ := im0 hI4
    replace b_15 : 1 ≤ rt := b_15
    replace b_16 : rt ≤ 1024 := b_16
    replace b_17 : 0 ≤ 12 := b_17
    replace b_18 : 0 ≤ 24 := b_18
    replace b_19 : le ≤ 700 := b_19
    replace b_20 : qu ≤ 12 := b_20
    replace b_21 : n_3 ≤ 8 := b_21
    replace b_22 : n_4 ≤ 24 := b_22
    replace b_23 : tk ≤ 24 := b_23
    replace b_24 : il ≤ 700 := b_24
    replace b_25 : nx ≤ 701 := b_25
    replace b_26 : st ≤ 701 := b_26
    have h_7 : Φl1 x = some (o_ 14 [.int th, .ref (x + 1), .ref (x + 2), .int ti, .int ra, .int (nI rt), .int ex, .int ad, .ref (x + 3), .ref (x + 4), .int v_6, .long v_7, .ref (x + 5), .int (nI 0), .int v_8, .long ob, .long sa, .long v_9, .long us, .ref (x + 6), .ref (x + 7), .int (nI 0), .ref (x + 8), .int (nI le), .ref (x + 9), .ref (x + 10), .int (nI qu), .ref (x + 11), .ref (x + 12), .ref (x + 13), .ref (x + 14), .ref (x + 15), .ref (x + 16), .int (nI n_3), .long v_10, .ref (x + 17), .ref (x + 18), .ref (x + 19), .ref (x + 20), .ref (x + 21), .ref (x + 22), .int (nI n_4), .ref (x + 23), .ref (x + 24), .int (nI tk), .ref (x + 25), .int (nI il), .int (nI nx), .int ec, .int ep, .int kn, .int (nI st), .int nu, .long va]) := h_6
    refine z_get (ref := "FlowExporterModel") (C := RX12) (T := TX12) (N := 54) (ci := 14) (v := .ref (x + 3)) B hu_X12_startExporter_X12 rfl 8 (Nat.le_of_ble_eq_true rfl) hv_X12_startExporter_20 rfl h_7 rfl dX12_startExporter_23 ?_
    refine z_iload_n B dX12_startExporter_26 rfl 0 rfl ?_
    refine z_iconst (v := (-1)) B dX12_startExporter_27 rfl ?_
    obtain ⟨f_1, h_8⟩ := imk (k := 3) hI4
    have h_9 : Φl1 (x + 3) = some (ai_ G 4 f_1) := h_8
    refine z_iast B h_9 (Nat.le_trans hx (Nat.le_add_right x 3)) (vp_in_nI (by omega) (by omega)) dX12_startExporter_28 (fun Φ4 hΦ4 => ?_)
    have h_10 : Φ4 (x + 3) = some (ai_ G 4 (upd f_1 (nI i_1).toNatClampNeg (-1))) := fset_at hΦ4
    have hI5 : Im G x (rd, nw, cr, tp, tt, 0, 0, le, nx, il, qu, kn, ec, nu, va, st, ep, ti, ad, ob, ra, rt, ex, sa, us, tk, th) Φ4 := Im.put (k := 3) hI4 hΦ4 ⟨_, rfl⟩
    refine z_iinc (k := 0) (v := nI (i_1 + 1)) (lv' := [(1, .int (nI (i_1 + 1))), (0, .ref x)]) B dX12_startExporter_29 rfl (nI_add i_1 1) (Nat.le_of_ble_eq_true rfl) rfl ?_
    refine z_goto (tgt := 17) B dX12_startExporter_32 rfl ?_
    refine z_lv [0, 1] rfl ?_
    exact ih1 (i_1 + 1) Φ4 (show 4 - (i_1 + 1) < 4 - i_1 by omega) ⟨hI5, (fun b9 h9 => ((fset_fr hΦ4 (fun h8 => h9 (3) h8 (show 3 = 0 ∨ 3 = 3 by decide))).trans ((hF1 b9 h9).trans rfl))), (show (i_1 + 1) ≤ 4 by omega), trivial⟩

theorem hu_X12_startCollector_X12 : ∀ w ∈ u_ws RX12 TX12 54, w ∈ wsX12_startCollector := fun _ h => List.mem_cons_of_mem _ (List.mem_append_left _ (List.mem_append_right _ (h)))

theorem hv_X12_startCollector_326 : Cond.fieldLink RX12 326 "FlowExporterModel" (TX12 33).2.1 (TX12 33).2.2.1 ∈ wsX12_startCollector := List.mem_cons_of_mem _ (List.mem_append_left _ (List.mem_append_left _ (List.mem_of_getElem? (i := 1) rfl)))

theorem hv_X12_startCollector_331 : Cond.fieldLink RX12 331 "FlowExporterModel" (TX12 34).2.1 (TX12 34).2.2.1 ∈ wsX12_startCollector := List.mem_cons_of_mem _ (List.mem_append_left _ (List.mem_append_left _ (List.mem_of_getElem? (i := 3) rfl)))

theorem hv_X12_startCollector_48 : Cond.fieldLink RX12 48 "FlowExporterModel" (TX12 28).2.1 (TX12 28).2.2.1 ∈ wsX12_startCollector := List.mem_cons_of_mem _ (List.mem_append_left _ (List.mem_append_left _ (List.mem_of_getElem? (i := 0) rfl)))

set_option maxHeartbeats 4000000 in
set_option maxRecDepth 100000 in
theorem r_startCollector (G : EnvG) (l : Launch) (Φ : Hm) (sz x : Nat) (rd : (Nat → Int32) → Prop) (nw : (Nat → Int32) → Prop) (cr : (Nat → Int64) → Prop) (tp : (Nat → Int32) → Prop) (tt : (Nat → Int64) → Prop) (fl : Nat) (pe : Nat) (le : Nat) (nx : Nat) (il : Nat) (qu : Nat) (kn : Int32) (ec : Int32) (nu : Int32) (va : Int64) (st : Nat) (ep : Int32) (ti : Int32) (ad : Int32) (ob : Int64) (ra : Int32) (rt : Nat) (ex : Int32) (sa : Int64) (us : Int64) (tk : Nat) (th : Int32)  (hx : G.2.2.2 ≤ x) (hI : Im G x (rd, nw, cr, tp, tt, fl, pe, le, nx, il, qu, kn, ec, nu, va, st, ep, ti, ad, ob, ra, rt, ex, sa, us, tk, th) Φ) (hnw : ∀ f9 : Nat → Int32, nw f9 → NN f9) : Ct G l yX12_startCollector wsX12_startCollector ({ frames := 0, cells := 0, slots := 0, locals := 0 }) 0 0 [.ref x] Φ sz (fun v Φ1 sz1 => (v = none) ∧ sz1 = sz ∧ (Im G x (rd, nw, cr, tp, tt, fl, pe, le, nx, il, qu, kn, ec, nu, va, st, ep, ti, ad, ob, ra, rt, ex, sa, us, tk, th) Φ1) ∧ Fr x (fun j9 => j9 = 0 ∨ j9 = 12) Φ Φ1) := by
  refine Ct.of (cc := cX12_startCollector) (maxL := 2) (ret := none) (by decide) rfl (Nat.le_of_ble_eq_true rfl) ?_
  intro p9 e9 s9 m9 w9 t9 k9 B
  show Z p9 l e9 _ s9 m9 _ w9 t9 k9 _ G 2 0 [(0, .ref x)] [] Φ sz 0 0
  refine z_iconst (v := 0) B dX12_startCollector_0 rfl ?_
  refine z_istore_n (lv' := [(1, .int 0), (0, .ref x)]) B dX12_startCollector_1 rfl (Nat.le_of_ble_eq_true rfl) rfl ?_
  refine z_lv [0, 1] rfl ?_
  refine z_loop (α := Nat) (fun (a9 : Nat) Φi => Im G x (rd, nw, cr, tp, tt, fl, pe, le, nx, il, qu, kn, ec, nu, va, st, ep, ti, ad, ob, ra, rt, ex, sa, us, tk, th) Φi ∧ Fr x (fun j9 => j9 = 0 ∨ j9 = 12) Φ Φi ∧ (a9 ≤ 4) ∧ True) (fun a9 => [(1, .int (nI a9)), (0, .ref x)]) (fun a9 => 4 - a9) ?_ (0) ⟨hI, fun _ _ => rfl, (show 0 ≤ 4 by omega), trivial⟩
  rintro i_1 Φl1 ⟨hI1, hF1, b_1, -⟩ ih1
  replace hI1 : Im G x (rd, nw, cr, tp, tt, fl, pe, le, nx, il, qu, kn, ec, nu, va, st, ep, ti, ad, ob, ra, rt, ex, sa, us, tk, th) Φl1 := hI1
  replace b_1 : i_1 ≤ 4 := b_1
  show Z p9 l e9 _ s9 m9 _ w9 t9 k9 _ G 2 2 [(1, .int (nI i_1)), (0, .ref x)] [] Φl1 _ _ _
  refine z_iload_n B dX12_startCollector_2 rfl 0 rfl ?_
  refine z_iconst (v := 4) B dX12_startCollector_3 rfl ?_
  refine z_icmp_ge (tgt := 20) B dX12_startCollector_4 rfl (fun c_1 => ?_) (fun c_1 => ?_)
  · have e_1 : 4 ≤ i_1 := (nI_leI (a := 4) (b := i_1) (by omega) (by omega)).mp c_1
    refine z_aload_n B dX12_startCollector_20 rfl 1 rfl ?_
    refine z_iconst (v := 0) B dX12_startCollector_21 rfl ?_
    obtain ⟨v_1, v_2, v_3, v_4, n_1, v_5, n_2, h_1, b_14, b_2, b_3, b_4, b_5, b_6, b_7, b_8, b_9, b_10, b_11, b_12, b_13⟩ := im0 hI1
    replace b_2 : 1 ≤ rt := b_2
    replace b_3 : rt ≤ 1024 := b_3
    replace b_4 : fl ≤ 12 := b_4
    replace b_5 : pe ≤ 24 := b_5
    replace b_6 : le ≤ 700 := b_6
    replace b_7 : qu ≤ 12 := b_7
    replace b_8 : n_1 ≤ 8 := b_8
    replace b_9 : n_2 ≤ 24 := b_9
    replace b_10 : tk ≤ 24 := b_10
    replace b_11 : il ≤ 700 := b_11
    replace b_12 : nx ≤ 701 := b_12
    replace b_13 : st ≤ 701 := b_13
    have h_2 : Φl1 x = some (o_ 14 [.int th, .ref (x + 1), .ref (x + 2), .int ti, .int ra, .int (nI rt), .int ex, .int ad, .ref (x + 3), .ref (x + 4), .int v_1, .long v_2, .ref (x + 5), .int (nI fl), .int v_3, .long ob, .long sa, .long v_4, .long us, .ref (x + 6), .ref (x + 7), .int (nI pe), .ref (x + 8), .int (nI le), .ref (x + 9), .ref (x + 10), .int (nI qu), .ref (x + 11), .ref (x + 12), .ref (x + 13), .ref (x + 14), .ref (x + 15), .ref (x + 16), .int (nI n_1), .long v_5, .ref (x + 17), .ref (x + 18), .ref (x + 19), .ref (x + 20), .ref (x + 21), .ref (x + 22), .int (nI n_2), .ref (x + 23), .ref (x + 24), .int (nI tk), .ref (x + 25), .int (nI il), .int (nI nx), .int ec, .int ep, .int kn, .int (nI st), .int nu, .long va]) := h_1
    refine z_put (ref := "FlowExporterModel") (C := RX12) (T := TX12) (N := 54) (ci := 14) (v := .int 0) B hu_X12_startCollector_X12 tyX12 tyX12_ok nmX12 rfl 33 (Nat.le_of_ble_eq_true rfl) hv_X12_startCollector_326 rfl (Or.inl rfl) h_2 hx rfl rfl (Nat.le_of_ble_eq_true rfl) dX12_startCollector_22 (fun Φ1 hΦ1 => ?_)
    have h_3 : Φ1 x = some (o_ 14 [.int th, .ref (x + 1), .ref (x + 2), .int ti, .int ra, .int (nI rt), .int ex, .int ad, .ref (x + 3), .ref (x + 4), .int v_1, .long v_2, .ref (x + 5), .int (nI fl), .int v_3, .long ob, .long sa, .long v_4, .long us, .ref (x + 6), .ref (x + 7), .int (nI pe), .ref (x + 8), .int (nI le), .ref (x + 9), .ref (x + 10), .int (nI qu), .ref (x + 11), .ref (x + 12), .ref (x + 13), .ref (x + 14), .ref (x + 15), .ref (x + 16), .int 0, .long v_5, .ref (x + 17), .ref (x + 18), .ref (x + 19), .ref (x + 20), .ref (x + 21), .ref (x + 22), .int (nI n_2), .ref (x + 23), .ref (x + 24), .int (nI tk), .ref (x + 25), .int (nI il), .int (nI nx), .int ec, .int ep, .int kn, .int (nI st), .int nu, .long va]) := fset_at hΦ1
    have hI2 : Im G x (rd, nw, cr, tp, tt, fl, pe, le, nx, il, qu, kn, ec, nu, va, st, ep, ti, ad, ob, ra, rt, ex, sa, us, tk, th) Φ1 := Im.put0 hI1 hΦ1 ⟨v_1, v_2, v_3, v_4, 0, v_5, n_2, rfl, b_14, b_2, b_3, b_4, b_5, b_6, b_7, (show 0 ≤ 8 by omega), b_9, b_10, b_11, b_12, b_13⟩
    refine z_aload_n B dX12_startCollector_25 rfl 1 rfl ?_
    refine z_ldc2 (v := (-1)) B (by decide +kernel) dX12_startCollector_26 ?_
    refine z_put (ref := "FlowExporterModel") (C := RX12) (T := TX12) (N := 54) (ci := 14) (v := .long (-1)) B hu_X12_startCollector_X12 tyX12 tyX12_ok nmX12 rfl 34 (Nat.le_of_ble_eq_true rfl) hv_X12_startCollector_331 rfl (Or.inl rfl) h_3 hx rfl rfl (Nat.le_of_ble_eq_true rfl) dX12_startCollector_29 (fun Φ2 hΦ2 => ?_)
    have h_4 : Φ2 x = some (o_ 14 [.int th, .ref (x + 1), .ref (x + 2), .int ti, .int ra, .int (nI rt), .int ex, .int ad, .ref (x + 3), .ref (x + 4), .int v_1, .long v_2, .ref (x + 5), .int (nI fl), .int v_3, .long ob, .long sa, .long v_4, .long us, .ref (x + 6), .ref (x + 7), .int (nI pe), .ref (x + 8), .int (nI le), .ref (x + 9), .ref (x + 10), .int (nI qu), .ref (x + 11), .ref (x + 12), .ref (x + 13), .ref (x + 14), .ref (x + 15), .ref (x + 16), .int 0, .long (-1), .ref (x + 17), .ref (x + 18), .ref (x + 19), .ref (x + 20), .ref (x + 21), .ref (x + 22), .int (nI n_2), .ref (x + 23), .ref (x + 24), .int (nI tk), .ref (x + 25), .int (nI il), .int (nI nx), .int ec, .int ep, .int kn, .int (nI st), .int nu, .long va]) := fset_at hΦ2
    have hI3 : Im G x (rd, nw, cr, tp, tt, fl, pe, le, nx, il, qu, kn, ec, nu, va, st, ep, ti, ad, ob, ra, rt, ex, sa, us, tk, th) Φ2 := Im.put0 hI2 hΦ2 ⟨v_1, v_2, v_3, v_4, 0, (-1), n_2, rfl, b_14, b_2, b_3, b_4, b_5, b_6, b_7, (show 0 ≤ 8 by omega), b_9, b_10, b_11, b_12, b_13⟩
    exact z_ret_v B dX12_startCollector_32 ⟨rfl, rfl, hI3, (fun b9 h9 => ((fset_fr hΦ2 (fun h8 => h9 (0) h8 (show 0 = 0 ∨ 0 = 12 by decide))).trans ((fset_fr hΦ1 (fun h8 => h9 (0) h8 (show 0 = 0 ∨ 0 = 12 by decide))).trans ((hF1 b9 h9).trans rfl))))⟩
  · have e_2 : ¬ (4 ≤ i_1) := fun h9 => c_1 ((nI_leI (a := 4) (b := i_1) (by omega) (by omega)).mpr h9)
    refine z_aload_n B dX12_startCollector_7 rfl 1 rfl ?_
    obtain ⟨v_6, v_7, v_8, v_9, n_3, v_10, n_4, h_5, b_27, b_15, b_16, b_17, b_18, b_19, b_20, b_21, b_22, b_23, b_24, b_25, b_26⟩ := im0 hI1
    replace b_15 : 1 ≤ rt := b_15
    replace b_16 : rt ≤ 1024 := b_16
    replace b_17 : fl ≤ 12 := b_17
    replace b_18 : pe ≤ 24 := b_18
    replace b_19 : le ≤ 700 := b_19
    replace b_20 : qu ≤ 12 := b_20
    replace b_21 : n_3 ≤ 8 := b_21
    replace b_22 : n_4 ≤ 24 := b_22
    replace b_23 : tk ≤ 24 := b_23
    replace b_24 : il ≤ 700 := b_24
    replace b_25 : nx ≤ 701 := b_25
    replace b_26 : st ≤ 701 := b_26
    have h_6 : Φl1 x = some (o_ 14 [.int th, .ref (x + 1), .ref (x + 2), .int ti, .int ra, .int (nI rt), .int ex, .int ad, .ref (x + 3), .ref (x + 4), .int v_6, .long v_7, .ref (x + 5), .int (nI fl), .int v_8, .long ob, .long sa, .long v_9, .long us, .ref (x + 6), .ref (x + 7), .int (nI pe), .ref (x + 8), .int (nI le), .ref (x + 9), .ref (x + 10), .int (nI qu), .ref (x + 11), .ref (x + 12), .ref (x + 13), .ref (x + 14), .ref (x + 15), .ref (x + 16), .int (nI n_3), .long v_10, .ref (x + 17), .ref (x + 18), .ref (x + 19), .ref (x + 20), .ref (x + 21), .ref (x + 22), .int (nI n_4), .ref (x + 23), .ref (x + 24), .int (nI tk), .ref (x + 25), .int (nI il), .int (nI nx), .int ec, .int ep, .int kn, .int (nI st), .int nu, .long va]) := h_5
    refine z_get (ref := "FlowExporterModel") (C := RX12) (T := TX12) (N := 54) (ci := 14) (v := .ref (x + 12)) B hu_X12_startCollector_X12 rfl 28 (Nat.le_of_ble_eq_true rfl) hv_X12_startCollector_48 rfl h_6 rfl dX12_startCollector_8 ?_
    refine z_iload_n B dX12_startCollector_11 rfl 0 rfl ?_
    refine z_iconst (v := 0) B dX12_startCollector_12 rfl ?_
    obtain ⟨f_1, h_7, r_1⟩ := imk (k := 12) hI1
    replace r_1 : Rw 9 f_1 := r_1
    have h_8 : Φl1 (x + 12) = some (ai_ G 4 f_1) := h_7
    refine z_iast B h_8 (Nat.le_trans hx (Nat.le_add_right x 12)) (vp_in_nI (by omega) (by omega)) dX12_startCollector_13 (fun Φ3 hΦ3 => ?_)
    have h_9 : Φ3 (x + 12) = some (ai_ G 4 (upd f_1 (nI i_1).toNatClampNeg 0)) := fset_at hΦ3
    have hI4 : Im G x (rd, nw, cr, tp, tt, fl, pe, le, nx, il, qu, kn, ec, nu, va, st, ep, ti, ad, ob, ra, rt, ex, sa, us, tk, th) Φ3 := Im.put (k := 12) hI1 hΦ3 ⟨_, rfl, Rw.up (n := 0) r_1 (show 0 ≤ 9 by omega)⟩
    refine z_iinc (k := 0) (v := nI (i_1 + 1)) (lv' := [(1, .int (nI (i_1 + 1))), (0, .ref x)]) B dX12_startCollector_14 rfl (nI_add i_1 1) (Nat.le_of_ble_eq_true rfl) rfl ?_
    refine z_goto (tgt := 2) B dX12_startCollector_17 rfl ?_
    refine z_lv [0, 1] rfl ?_
    exact ih1 (i_1 + 1) Φ3 (show 4 - (i_1 + 1) < 4 - i_1 by omega) ⟨hI4, (fun b9 h9 => ((fset_fr hΦ3 (fun h8 => h9 (12) h8 (show 12 = 0 ∨ 12 = 12 by decide))).trans ((hF1 b9 h9).trans rfl))), (show (i_1 + 1) ≤ 4 by omega), trivial⟩

theorem hu_X12_restartExporter_X12 : ∀ w ∈ u_ws RX12 TX12 54, w ∈ wsX12_restartExporter := fun _ h => List.mem_cons_of_mem _ (List.mem_append_left _ (List.mem_append_right _ (h)))

theorem hv_X12_restartExporter_1 : Cond.fieldLink RX12 1 "FlowExporterModel" (TX12 0).2.1 (TX12 0).2.2.1 ∈ wsX12_restartExporter := List.mem_cons_of_mem _ (List.mem_append_left _ (List.mem_append_left _ (List.mem_of_getElem? (i := 0) rfl)))

theorem hv_X12_restartExporter_133 : Cond.fieldLink RX12 133 "FlowExporterModel" (TX12 13).2.1 (TX12 13).2.2.1 ∈ wsX12_restartExporter := List.mem_cons_of_mem _ (List.mem_append_left _ (List.mem_append_left _ (List.mem_of_getElem? (i := 1) rfl)))

set_option maxHeartbeats 4000000 in
set_option maxRecDepth 100000 in
theorem r_restartExporter (G : EnvG) (l : Launch) (Φ : Hm) (sz x : Nat) (rd : (Nat → Int32) → Prop) (nw : (Nat → Int32) → Prop) (cr : (Nat → Int64) → Prop) (tp : (Nat → Int32) → Prop) (tt : (Nat → Int64) → Prop) (fl : Nat) (pe : Nat) (le : Nat) (nx : Nat) (il : Nat) (qu : Nat) (kn : Int32) (ec : Int32) (nu : Int32) (va : Int64) (st : Nat) (ep : Int32) (ti : Int32) (ad : Int32) (ob : Int64) (ra : Int32) (rt : Nat) (ex : Int32) (sa : Int64) (us : Int64) (tk : Nat) (th : Int32)  (hx : G.2.2.2 ≤ x) (hI : Im G x (rd, nw, cr, tp, tt, fl, pe, le, nx, il, qu, kn, ec, nu, va, st, ep, ti, ad, ob, ra, rt, ex, sa, us, tk, th) Φ) (hnw : ∀ f9 : Nat → Int32, nw f9 → NN f9) : Ct G l yX12_restartExporter wsX12_restartExporter ({ frames := 1, cells := 0, slots := 0, locals := 21 }) 0 0 [.ref x] Φ sz (fun v Φ1 sz1 => (∃ r9 : Int32, v = some (.int r9)) ∧ sz1 = sz ∧ (∃ (th1 : Int32), Im G x (rd, nw, cr, tp, tt, 0, 0, le, nx, il, qu, kn, ec, nu, va, st, ep, ti, ad, ob, ra, rt, ex, sa, us, tk, th1) Φ1) ∧ Fr x (fun j9 => j9 = 0 ∨ j9 = 3) Φ Φ1) := by
  refine Ct.of (cc := cX12_restartExporter) (maxL := 2) (ret := (some .int)) (by decide) rfl (Nat.le_of_ble_eq_true rfl) ?_
  intro p9 e9 s9 m9 w9 t9 k9 B
  show Z p9 l e9 _ s9 m9 _ w9 t9 k9 _ G 2 0 [(0, .ref x)] [] Φ sz 0 0
  refine z_aload_n B dX12_restartExporter_0 rfl 0 rfl ?_
  refine z_iconst (v := 0) B dX12_restartExporter_1 rfl ?_
  obtain ⟨v_1, v_2, v_3, v_4, n_1, v_5, n_2, h_1, b_13, b_1, b_2, b_3, b_4, b_5, b_6, b_7, b_8, b_9, b_10, b_11, b_12⟩ := im0 hI
  replace b_1 : 1 ≤ rt := b_1
  replace b_2 : rt ≤ 1024 := b_2
  replace b_3 : fl ≤ 12 := b_3
  replace b_4 : pe ≤ 24 := b_4
  replace b_5 : le ≤ 700 := b_5
  replace b_6 : qu ≤ 12 := b_6
  replace b_7 : n_1 ≤ 8 := b_7
  replace b_8 : n_2 ≤ 24 := b_8
  replace b_9 : tk ≤ 24 := b_9
  replace b_10 : il ≤ 700 := b_10
  replace b_11 : nx ≤ 701 := b_11
  replace b_12 : st ≤ 701 := b_12
  have h_2 : Φ x = some (o_ 14 [.int th, .ref (x + 1), .ref (x + 2), .int ti, .int ra, .int (nI rt), .int ex, .int ad, .ref (x + 3), .ref (x + 4), .int v_1, .long v_2, .ref (x + 5), .int (nI fl), .int v_3, .long ob, .long sa, .long v_4, .long us, .ref (x + 6), .ref (x + 7), .int (nI pe), .ref (x + 8), .int (nI le), .ref (x + 9), .ref (x + 10), .int (nI qu), .ref (x + 11), .ref (x + 12), .ref (x + 13), .ref (x + 14), .ref (x + 15), .ref (x + 16), .int (nI n_1), .long v_5, .ref (x + 17), .ref (x + 18), .ref (x + 19), .ref (x + 20), .ref (x + 21), .ref (x + 22), .int (nI n_2), .ref (x + 23), .ref (x + 24), .int (nI tk), .ref (x + 25), .int (nI il), .int (nI nx), .int ec, .int ep, .int kn, .int (nI st), .int nu, .long va]) := h_1
  refine z_put (ref := "FlowExporterModel") (C := RX12) (T := TX12) (N := 54) (ci := 14) (v := .int 0) B hu_X12_restartExporter_X12 tyX12 tyX12_ok nmX12 rfl 0 (Nat.le_of_ble_eq_true rfl) hv_X12_restartExporter_1 rfl (Or.inl rfl) h_2 hx rfl rfl (Nat.le_of_ble_eq_true rfl) dX12_restartExporter_2 (fun Φ1 hΦ1 => ?_)
  have h_3 : Φ1 x = some (o_ 14 [.int 0, .ref (x + 1), .ref (x + 2), .int ti, .int ra, .int (nI rt), .int ex, .int ad, .ref (x + 3), .ref (x + 4), .int v_1, .long v_2, .ref (x + 5), .int (nI fl), .int v_3, .long ob, .long sa, .long v_4, .long us, .ref (x + 6), .ref (x + 7), .int (nI pe), .ref (x + 8), .int (nI le), .ref (x + 9), .ref (x + 10), .int (nI qu), .ref (x + 11), .ref (x + 12), .ref (x + 13), .ref (x + 14), .ref (x + 15), .ref (x + 16), .int (nI n_1), .long v_5, .ref (x + 17), .ref (x + 18), .ref (x + 19), .ref (x + 20), .ref (x + 21), .ref (x + 22), .int (nI n_2), .ref (x + 23), .ref (x + 24), .int (nI tk), .ref (x + 25), .int (nI il), .int (nI nx), .int ec, .int ep, .int kn, .int (nI st), .int nu, .long va]) := fset_at hΦ1
  have hI1 : Im G x (rd, nw, cr, tp, tt, fl, pe, le, nx, il, qu, kn, ec, nu, va, st, ep, ti, ad, ob, ra, rt, ex, sa, us, tk, 0) Φ1 := Im.put0 hI hΦ1 ⟨v_1, v_2, v_3, v_4, n_1, v_5, n_2, rfl, b_13, b_1, b_2, b_3, b_4, b_5, b_6, b_7, b_8, b_9, b_10, b_11, b_12⟩
  refine z_aload_n B dX12_restartExporter_5 rfl 0 rfl ?_
  refine z_get (ref := "FlowExporterModel") (C := RX12) (T := TX12) (N := 54) (ci := 14) (v := .int (nI fl)) B hu_X12_restartExporter_X12 rfl 13 (Nat.le_of_ble_eq_true rfl) hv_X12_restartExporter_133 rfl h_3 rfl dX12_restartExporter_6 ?_
  refine z_istore_n (lv' := [(1, .int (nI fl)), (0, .ref x)]) B dX12_restartExporter_9 rfl (Nat.le_of_ble_eq_true rfl) rfl ?_
  refine z_aload_n B dX12_restartExporter_10 rfl 1 rfl ?_
  refine z_callV (As := []) (rest := []) B (r_startExporter G l Φ1 sz x rd nw cr tp tt fl pe le nx il qu kn ec nu va st ep ti ad ob ra rt ex sa us tk 0  hx hI1 hnw) (cwV 0 B.1.2.2.2.2 gX12_restartExporter_X12_startExporter rfl rfl rfl (by decide +kernel) ⟨Nat.le_of_ble_eq_true rfl, Nat.le_of_ble_eq_true rfl⟩) h_3 rfl rfl rfl rfl (Nat.le_of_ble_eq_true rfl) dX12_restartExporter_11 ⟨Nat.le_of_ble_eq_true rfl, Nat.le_of_ble_eq_true rfl⟩ (fun r_1 Φ2 sz1 st1 hp1 hs1 => ?_)
  obtain ⟨rfl, hq1, hI2, hF1⟩ := hp1
  subst sz1
  replace hs1 : st1 = [] := hs1
  subst st1
  replace hI2 : Im G x (rd, nw, cr, tp, tt, 0, 0, le, nx, il, qu, kn, ec, nu, va, st, ep, ti, ad, ob, ra, rt, ex, sa, us, tk, 0) Φ2 := hI2
  refine z_iload_n B dX12_restartExporter_14 rfl 0 rfl ?_
  exact z_ret_i B dX12_restartExporter_15 ⟨⟨_, rfl⟩, rfl, ⟨0, hI2⟩, (fun b9 h9 => ((hF1 b9 h9).trans ((fset_fr hΦ1 (fun h8 => h9 (0) h8 (show 0 = 0 ∨ 0 = 3 by decide))).trans rfl)))⟩

/-! PX=3: what the reference's row now answers -/
theorem sz_q {c : Cf} {f : Nat → Int32} {t : Nat} (h : NNq c f) (ht : t < 4) : szC c t ≤ 9 ∧ f (11 + t) = nI (szC c t) := by
  obtain ⟨n, hn, e⟩ := h.1.1 (11 + t) (by omega) (by omega)
  have e2 : szC c t = n := by
    unfold szC
    rw [← h.2 (11 + t) (by omega), e, nI_clamp (by omega)]
  rw [e2]
  exact ⟨hn, e⟩
theorem fl_q {c : Cf} {f : Nat → Int32} {t q : Nat} (h : NNq c f) (ht : t < 4) (hq : q < 9) : ∃ n, n ≤ 8 ∧ rwC c t q = nI n ∧ f (15 + 9 * t + q) = nI n := by
  obtain ⟨n, hn, e⟩ := h.1.2.1 (15 + 9 * t + q) (by omega) (by omega)
  exact ⟨n, hn, (h.2 _ (by omega)).symm.trans e, e⟩
theorem fS_st {f : Nat → Int32} {a : Int32} {j n : Nat} (h : a = fS f 511 j) (e : f j = nI n) (hn : n ≤ 8) : a ||| ((1 : Int32) <<< (nI n &&& 31)) = fS f 511 (j + 1) := by
  rw [fS_y (bit_511 ⟨n, hn, e⟩), h, e]
/-- the bytes of the fields below k of a set -/
noncomputable def lenR (v : Int32) : Nat → Nat
  | 0 => 0
  | k + 1 => @ite Nat (bitI (nI k) v) (Classical.propDecidable _) (lenR v k + lnN k) (lenR v k)
theorem lenR_y {v : Int32} {k : Nat} (h : bitI (nI k) v) : lenR v (k + 1) = lenR v k + lnN k := if_pos h
theorem lenR_n {v : Int32} {k : Nat} (h : ¬ bitI (nI k) v) : lenR v (k + 1) = lenR v k := if_neg h
theorem su_row {c : Cf} {f : Nat → Int32} {a b v : Int32} (h : NNq c f) (hv : ¬ suV c a = b) (e : v = f 9 ^^^ ((1 : Int32) <<< (a &&& 31))) : NNq (suC c a b) (upd f 9 v) := by
  have e2 : suC c a b = upd c 9 (c 9 ^^^ ((1 : Int32) <<< (a &&& 31))) := if_neg hv
  rw [e2, e]
  refine ⟨NN.free h.1 (by decide), fun j hj => ?_⟩
  by_cases hj2 : j = 9
  · subst hj2
    rw [upd_at, upd_at, h.2 9 (by decide)]
  · rw [upd_ne hj2, upd_ne hj2]
    exact h.2 j hj
theorem su_id {c : Cf} {a b : Int32} (hv : suV c a = b) : c = suC c a b := (if_pos hv).symm
theorem InT_q {c : Cf} {f : Nat → Int32} {n : Nat} {a : Int32} (h : NNq c f) (e : f 10 = nI n) (hn : n ≤ 4) : InT c a ↔ ∃ u : Nat, u < n ∧ a = nI u := by
  have e1 : (c 10).toInt = (n : Nat) := by
    rw [← h.2 10 (by decide), e]
    exact nI_toInt (by omega)
  unfold InT
  rw [e1]
  constructor
  · rintro ⟨h1, h2⟩
    refine ⟨a.toInt.toNat, by omega, ?_⟩
    apply Int32.toInt_inj.mp
    rw [nI_toInt (by omega)]
    omega
  · rintro ⟨u, hu, rfl⟩
    rw [nI_toInt (by omega)]
    omega
theorem faF_y {c : Cf} {u p n : Nat} (hp : p < szC c u) (hs : szC c u ≤ 9) (e : rwC c u p = nI n) : faF c u (nI p) = nI n := by
  have h : faF c u (nI p) = rwC c u (nI p).toNatClampNeg := if_pos (by rw [nI_toInt (by omega)]; omega)
  rw [h, nI_clamp (by omega), e]
theorem faF_n {c : Cf} {u : Nat} {b : Int32} (hs : szC c u ≤ 9) (h : ¬ inP b.toInt64 0 (nI (szC c u) - 1).toInt64) : faF c u b = -1 := if_neg (fun h9 => h ((inP_i (L := 0) (by decide) (predL (by omega))).mpr ⟨h9.1, by omega⟩))
theorem lenK_R {a : Nat} (ha : a < 512) : ∀ k, k ≤ 9 → lenK a k = nI (lenR (nI a) k) := by
  intro k
  induction k with
  | zero => intro _; rfl
  | succ k ih =>
    intro hk
    have e := ih (by omega)
    have hb := bit_k a ha k (by omega)
    have hf : ∀ j, j < 9 → fbT j = nI (lnN j) := by decide
    by_cases h : a / 2 ^ k % 2 = 1
    · rw [lenR_y (hb.mpr h), show lenK a (k + 1) = lenK a k + fbT k from if_pos h, e, hf k (by omega)]
      exact nI_add _ _
    · rw [lenR_n (fun q => h (hb.mp q)), show lenK a (k + 1) = lenK a k from if_neg h, e]
/-- the class's words for the effective set and the length are the reference's -/
theorem CfA.ef {G : EnvG} {x t s u : Nat} {c : Cf} {Φ : Hm} (h : CfA G x t s c Φ) (hu : u < t) : efF c u = tfF c u &&& c 9 ∧ rlF c u = nI (lenR (tfF c u &&& c 9) 9) := by
  have h4 := h.1.2.1
  obtain ⟨m, f, h1, h2, h3, hd, -, -⟩ := h.1.wt (u := u) (by omega) (by omega)
  obtain ⟨hs, e9⟩ := h.2.1
  obtain ⟨e3, -⟩ := wt_fS (s := 511) h1 hu h3
  obtain ⟨e4, e5⟩ := wt_fS (s := nI s) h1 hu h3
  obtain ⟨a, ha, g1, g2⟩ := fS_and hs m hd
  have g3 : nI a &&& nI s = nI (a &&& s) := and_k a ha s hs
  have hl : a &&& s < 512 := Nat.lt_of_le_of_lt Nat.and_le_left ha
  have g4 := fB_len hs m hd (a &&& s) hl g2
  have k1 : tfF c u = nI a := by
    unfold tfF
    rw [← e3]
    exact g1
  have k2 : efF c u = nI (a &&& s) := by
    unfold efF
    rw [e9, ← e4]
    exact g2
  have k3 : rlF c u = lenK (a &&& s) 9 := by
    unfold rlF
    rw [e9, ← e5]
    exact g4
  rw [k1, e9, g3]
  refine ⟨k2, ?_⟩
  rw [k3]
  exact lenK_R hl 9 (by omega)
theorem CfA.ef2 {G : EnvG} {x t s : Nat} {c : Cf} {a : Int32} {Φ : Hm} (h : CfA G x t s c Φ) (hi : InT c a) : efF c a.toNatClampNeg = tfF c a.toNatClampNeg &&& c 9 ∧ rlF c a.toNatClampNeg = nI (lenR (tfF c a.toNatClampNeg &&& c 9) 9) := by
  have h4 := h.1.2.1
  obtain ⟨u, hu, rfl⟩ := h.inT.mp hi
  rw [nI_clamp (by omega)]
  exact h.ef hu

set_option maxHeartbeats 4000000 in
set_option maxRecDepth 100000 in
theorem r_templateCountC (G : EnvG) (l : Launch) (Φ : Hm) (sz x : Nat) (rd : (Nat → Int32) → Prop) (cr : (Nat → Int64) → Prop) (tp : (Nat → Int32) → Prop) (tt : (Nat → Int64) → Prop) (fl : Nat) (pe : Nat) (le : Nat) (nx : Nat) (il : Nat) (qu : Nat) (kn : Int32) (ec : Int32) (nu : Int32) (va : Int64) (st : Nat) (ep : Int32) (ti : Int32) (ad : Int32) (ob : Int64) (ra : Int32) (rt : Nat) (ex : Int32) (sa : Int64) (us : Int64) (tk : Nat) (th : Int32) (c : Cf) (hx : G.2.2.2 ≤ x) (hI : Im G x (rd, (NNq c), cr, tp, tt, fl, pe, le, nx, il, qu, kn, ec, nu, va, st, ep, ti, ad, ob, ra, rt, ex, sa, us, tk, th) Φ)  : Ct G l yX12_templateCount wsX12_templateCount ({ frames := 0, cells := 0, slots := 0, locals := 0 }) 0 0 [.ref x] Φ sz (fun v Φ1 sz1 => (v = some (.int (c 10))) ∧ sz1 = sz ∧ (∃ (th1 : Int32), Im G x (rd, (NNq c), cr, tp, tt, fl, pe, le, nx, il, qu, kn, ec, nu, va, st, ep, ti, ad, ob, ra, rt, ex, sa, us, tk, th1) Φ1) ∧ Fr x (fun j9 => j9 = 0) Φ Φ1) := by
  refine Ct.of (cc := cX12_templateCount) (maxL := 1) (ret := (some .int)) (by decide) rfl (Nat.le_of_ble_eq_true rfl) ?_
  intro p9 e9 s9 m9 w9 t9 k9 B
  show Z p9 l e9 _ s9 m9 _ w9 t9 k9 _ G 1 0 [(0, .ref x)] [] Φ sz 0 0
  refine z_aload_n B dX12_templateCount_0 rfl 0 rfl ?_
  refine z_iconst (v := 0) B dX12_templateCount_1 rfl ?_
  obtain ⟨v_1, v_2, v_3, v_4, n_1, v_5, n_2, h_1, b_13, b_1, b_2, b_3, b_4, b_5, b_6, b_7, b_8, b_9, b_10, b_11, b_12⟩ := im0 hI
  replace b_1 : 1 ≤ rt := b_1
  replace b_2 : rt ≤ 1024 := b_2
  replace b_3 : fl ≤ 12 := b_3
  replace b_4 : pe ≤ 24 := b_4
  replace b_5 : le ≤ 700 := b_5
  replace b_6 : qu ≤ 12 := b_6
  replace b_7 : n_1 ≤ 8 := b_7
  replace b_8 : n_2 ≤ 24 := b_8
  replace b_9 : tk ≤ 24 := b_9
  replace b_10 : il ≤ 700 := b_10
  replace b_11 : nx ≤ 701 := b_11
  replace b_12 : st ≤ 701 := b_12
  have h_2 : Φ x = some (o_ 14 [.int th, .ref (x + 1), .ref (x + 2), .int ti, .int ra, .int (nI rt), .int ex, .int ad, .ref (x + 3), .ref (x + 4), .int v_1, .long v_2, .ref (x + 5), .int (nI fl), .int v_3, .long ob, .long sa, .long v_4, .long us, .ref (x + 6), .ref (x + 7), .int (nI pe), .ref (x + 8), .int (nI le), .ref (x + 9), .ref (x + 10), .int (nI qu), .ref (x + 11), .ref (x + 12), .ref (x + 13), .ref (x + 14), .ref (x + 15), .ref (x + 16), .int (nI n_1), .long v_5, .ref (x + 17), .ref (x + 18), .ref (x + 19), .ref (x + 20), .ref (x + 21), .ref (x + 22), .int (nI n_2), .ref (x + 23), .ref (x + 24), .int (nI tk), .ref (x + 25), .int (nI il), .int (nI nx), .int ec, .int ep, .int kn, .int (nI st), .int nu, .long va]) := h_1
  refine z_put (ref := "FlowExporterModel") (C := RX12) (T := TX12) (N := 54) (ci := 14) (v := .int 0) B hu_X12_templateCount_X12 tyX12 tyX12_ok nmX12 rfl 0 (Nat.le_of_ble_eq_true rfl) hv_X12_templateCount_1 rfl (Or.inl rfl) h_2 hx rfl rfl (Nat.le_of_ble_eq_true rfl) dX12_templateCount_2 (fun Φ1 hΦ1 => ?_)
  have h_3 : Φ1 x = some (o_ 14 [.int 0, .ref (x + 1), .ref (x + 2), .int ti, .int ra, .int (nI rt), .int ex, .int ad, .ref (x + 3), .ref (x + 4), .int v_1, .long v_2, .ref (x + 5), .int (nI fl), .int v_3, .long ob, .long sa, .long v_4, .long us, .ref (x + 6), .ref (x + 7), .int (nI pe), .ref (x + 8), .int (nI le), .ref (x + 9), .ref (x + 10), .int (nI qu), .ref (x + 11), .ref (x + 12), .ref (x + 13), .ref (x + 14), .ref (x + 15), .ref (x + 16), .int (nI n_1), .long v_5, .ref (x + 17), .ref (x + 18), .ref (x + 19), .ref (x + 20), .ref (x + 21), .ref (x + 22), .int (nI n_2), .ref (x + 23), .ref (x + 24), .int (nI tk), .ref (x + 25), .int (nI il), .int (nI nx), .int ec, .int ep, .int kn, .int (nI st), .int nu, .long va]) := fset_at hΦ1
  have hI1 : Im G x (rd, (NNq c), cr, tp, tt, fl, pe, le, nx, il, qu, kn, ec, nu, va, st, ep, ti, ad, ob, ra, rt, ex, sa, us, tk, 0) Φ1 := Im.put0 hI hΦ1 ⟨v_1, v_2, v_3, v_4, n_1, v_5, n_2, rfl, b_13, b_1, b_2, b_3, b_4, b_5, b_6, b_7, b_8, b_9, b_10, b_11, b_12⟩
  refine z_aload_n B dX12_templateCount_5 rfl 0 rfl ?_
  refine z_get (ref := "FlowExporterModel") (C := RX12) (T := TX12) (N := 54) (ci := 14) (v := .ref (x + 2)) B hu_X12_templateCount_X12 rfl 2 (Nat.le_of_ble_eq_true rfl) hv_X12_templateCount_17 rfl h_3 rfl dX12_templateCount_6 ?_
  refine z_bipush (v := 10) B dX12_templateCount_9 rfl ?_
  obtain ⟨f_1, h_4, r_1⟩ := imk (k := 2) hI1
  replace r_1 : (NNq c) f_1 := r_1
  have r_2 : NN f_1 := r_1.1
  have h_5 : Φ1 (x + 2) = some (ai_ G 307 f_1) := h_4
  refine z_iald B h_5 (vin rfl) dX12_templateCount_11 ?_
  exact z_ret_i B dX12_templateCount_12 ⟨(congrArg (fun w9 : Int32 => some (Value.int w9)) ((congrArg f_1 (show (10 : Int32).toNatClampNeg = 10 by decide)).trans (r_1.2 10 (by decide)))), rfl, ⟨0, hI1⟩, (fun b9 h9 => ((fset_fr hΦ1 (fun h8 => h9 (0) h8 (show 0 = 0 by decide))).trans rfl))⟩

set_option maxHeartbeats 4000000 in
set_option maxRecDepth 100000 in
theorem r_sizeOfC (G : EnvG) (l : Launch) (Φ : Hm) (sz x : Nat) (rd : (Nat → Int32) → Prop) (cr : (Nat → Int64) → Prop) (tp : (Nat → Int32) → Prop) (tt : (Nat → Int64) → Prop) (fl : Nat) (pe : Nat) (le : Nat) (nx : Nat) (il : Nat) (qu : Nat) (kn : Int32) (ec : Int32) (nu : Int32) (va : Int64) (st : Nat) (ep : Int32) (ti : Int32) (ad : Int32) (ob : Int64) (ra : Int32) (rt : Nat) (ex : Int32) (sa : Int64) (us : Int64) (tk : Nat) (th : Int32) (c : Cf) (t : Nat) (hx : G.2.2.2 ≤ x) (hI : Im G x (rd, (NNq c), cr, tp, tt, fl, pe, le, nx, il, qu, kn, ec, nu, va, st, ep, ti, ad, ob, ra, rt, ex, sa, us, tk, th) Φ) (ht : t < 4) : Ct G l yX12_sizeOf wsX12_sizeOf ({ frames := 0, cells := 0, slots := 0, locals := 0 }) 0 0 [.ref x, .int (nI t)] Φ sz (fun v Φ1 sz1 => (szC c t ≤ 9 ∧ v = some (.int (nI (szC c t)))) ∧ sz1 = sz ∧ (Im G x (rd, (NNq c), cr, tp, tt, fl, pe, le, nx, il, qu, kn, ec, nu, va, st, ep, ti, ad, ob, ra, rt, ex, sa, us, tk, th) Φ1) ∧ Fr x (fun j9 => False) Φ Φ1) := by
  refine Ct.of (cc := cX12_sizeOf) (maxL := 2) (ret := (some .int)) (by decide) rfl (Nat.le_of_ble_eq_true rfl) ?_
  intro p9 e9 s9 m9 w9 t9 k9 B
  show Z p9 l e9 _ s9 m9 _ w9 t9 k9 _ G 2 0 [(0, .ref x), (1, .int (nI t))] [] Φ sz 0 0
  refine z_aload_n B dX12_sizeOf_0 rfl 0 rfl ?_
  obtain ⟨v_1, v_2, v_3, v_4, n_1, v_5, n_2, h_1, b_13, b_1, b_2, b_3, b_4, b_5, b_6, b_7, b_8, b_9, b_10, b_11, b_12⟩ := im0 hI
  replace b_1 : 1 ≤ rt := b_1
  replace b_2 : rt ≤ 1024 := b_2
  replace b_3 : fl ≤ 12 := b_3
  replace b_4 : pe ≤ 24 := b_4
  replace b_5 : le ≤ 700 := b_5
  replace b_6 : qu ≤ 12 := b_6
  replace b_7 : n_1 ≤ 8 := b_7
  replace b_8 : n_2 ≤ 24 := b_8
  replace b_9 : tk ≤ 24 := b_9
  replace b_10 : il ≤ 700 := b_10
  replace b_11 : nx ≤ 701 := b_11
  replace b_12 : st ≤ 701 := b_12
  have h_2 : Φ x = some (o_ 14 [.int th, .ref (x + 1), .ref (x + 2), .int ti, .int ra, .int (nI rt), .int ex, .int ad, .ref (x + 3), .ref (x + 4), .int v_1, .long v_2, .ref (x + 5), .int (nI fl), .int v_3, .long ob, .long sa, .long v_4, .long us, .ref (x + 6), .ref (x + 7), .int (nI pe), .ref (x + 8), .int (nI le), .ref (x + 9), .ref (x + 10), .int (nI qu), .ref (x + 11), .ref (x + 12), .ref (x + 13), .ref (x + 14), .ref (x + 15), .ref (x + 16), .int (nI n_1), .long v_5, .ref (x + 17), .ref (x + 18), .ref (x + 19), .ref (x + 20), .ref (x + 21), .ref (x + 22), .int (nI n_2), .ref (x + 23), .ref (x + 24), .int (nI tk), .ref (x + 25), .int (nI il), .int (nI nx), .int ec, .int ep, .int kn, .int (nI st), .int nu, .long va]) := h_1
  refine z_get (ref := "FlowExporterModel") (C := RX12) (T := TX12) (N := 54) (ci := 14) (v := .ref (x + 2)) B hu_X12_sizeOf_X12 rfl 2 (Nat.le_of_ble_eq_true rfl) hv_X12_sizeOf_17 rfl h_2 rfl dX12_sizeOf_1 ?_
  refine z_bipush (v := 11) B dX12_sizeOf_4 rfl ?_
  refine z_iload_n B dX12_sizeOf_6 rfl 1 rfl ?_
  refine z_iadd B dX12_sizeOf_7 ?_
  refine z_top (st1 := [.int (nI (11 + t)), .ref (x + 2)]) (congrArg (fun w9 : Int32 => ([.int w9, .ref (x + 2)] : List Value)) (nI_add 11 t)) ?_
  obtain ⟨f_1, h_3, r_1⟩ := imk (k := 2) hI
  replace r_1 : (NNq c) f_1 := r_1
  have r_2 : NN f_1 := r_1.1
  have h_4 : Φ (x + 2) = some (ai_ G 307 f_1) := h_3
  refine z_iald B h_4 (vp_in_nI (by omega) (by omega)) dX12_sizeOf_8 ?_
  have hs1 := sz_q (t := t) r_1 (by omega)
  refine z_top (st1 := [.int (nI (szC c t))]) (congrArg (fun w9 : Int32 => ([.int w9] : List Value)) ((congrArg f_1 (nI_clamp (by omega))).trans hs1.2)) ?_
  exact z_ret_i B dX12_sizeOf_9 ⟨⟨hs1.1, rfl⟩, rfl, hI, (fun b9 h9 => rfl)⟩

set_option maxHeartbeats 4000000 in
set_option maxRecDepth 100000 in
theorem r_fieldOfC (G : EnvG) (l : Launch) (Φ : Hm) (sz x : Nat) (rd : (Nat → Int32) → Prop) (cr : (Nat → Int64) → Prop) (tp : (Nat → Int32) → Prop) (tt : (Nat → Int64) → Prop) (fl : Nat) (pe : Nat) (le : Nat) (nx : Nat) (il : Nat) (qu : Nat) (kn : Int32) (ec : Int32) (nu : Int32) (va : Int64) (st : Nat) (ep : Int32) (ti : Int32) (ad : Int32) (ob : Int64) (ra : Int32) (rt : Nat) (ex : Int32) (sa : Int64) (us : Int64) (tk : Nat) (th : Int32) (c : Cf) (t : Nat) (q : Nat) (hx : G.2.2.2 ≤ x) (hI : Im G x (rd, (NNq c), cr, tp, tt, fl, pe, le, nx, il, qu, kn, ec, nu, va, st, ep, ti, ad, ob, ra, rt, ex, sa, us, tk, th) Φ) (ht : t < 4) (hq : q < 9) : Ct G l yX12_fieldOf wsX12_fieldOf ({ frames := 0, cells := 0, slots := 0, locals := 0 }) 0 0 [.ref x, .int (nI t), .int (nI q)] Φ sz (fun v Φ1 sz1 => (∃ n9 : Nat, n9 ≤ 8 ∧ rwC c t q = nI n9 ∧ v = some (.int (nI n9))) ∧ sz1 = sz ∧ (Im G x (rd, (NNq c), cr, tp, tt, fl, pe, le, nx, il, qu, kn, ec, nu, va, st, ep, ti, ad, ob, ra, rt, ex, sa, us, tk, th) Φ1) ∧ Fr x (fun j9 => False) Φ Φ1) := by
  refine Ct.of (cc := cX12_fieldOf) (maxL := 3) (ret := (some .int)) (by decide) rfl (Nat.le_of_ble_eq_true rfl) ?_
  intro p9 e9 s9 m9 w9 t9 k9 B
  show Z p9 l e9 _ s9 m9 _ w9 t9 k9 _ G 3 0 [(0, .ref x), (1, .int (nI t)), (2, .int (nI q))] [] Φ sz 0 0
  refine z_aload_n B dX12_fieldOf_0 rfl 0 rfl ?_
  obtain ⟨v_1, v_2, v_3, v_4, n_1, v_5, n_2, h_1, b_13, b_1, b_2, b_3, b_4, b_5, b_6, b_7, b_8, b_9, b_10, b_11, b_12⟩ := im0 hI
  replace b_1 : 1 ≤ rt := b_1
  replace b_2 : rt ≤ 1024 := b_2
  replace b_3 : fl ≤ 12 := b_3
  replace b_4 : pe ≤ 24 := b_4
  replace b_5 : le ≤ 700 := b_5
  replace b_6 : qu ≤ 12 := b_6
  replace b_7 : n_1 ≤ 8 := b_7
  replace b_8 : n_2 ≤ 24 := b_8
  replace b_9 : tk ≤ 24 := b_9
  replace b_10 : il ≤ 700 := b_10
  replace b_11 : nx ≤ 701 := b_11
  replace b_12 : st ≤ 701 := b_12
  have h_2 : Φ x = some (o_ 14 [.int th, .ref (x + 1), .ref (x + 2), .int ti, .int ra, .int (nI rt), .int ex, .int ad, .ref (x + 3), .ref (x + 4), .int v_1, .long v_2, .ref (x + 5), .int (nI fl), .int v_3, .long ob, .long sa, .long v_4, .long us, .ref (x + 6), .ref (x + 7), .int (nI pe), .ref (x + 8), .int (nI le), .ref (x + 9), .ref (x + 10), .int (nI qu), .ref (x + 11), .ref (x + 12), .ref (x + 13), .ref (x + 14), .ref (x + 15), .ref (x + 16), .int (nI n_1), .long v_5, .ref (x + 17), .ref (x + 18), .ref (x + 19), .ref (x + 20), .ref (x + 21), .ref (x + 22), .int (nI n_2), .ref (x + 23), .ref (x + 24), .int (nI tk), .ref (x + 25), .int (nI il), .int (nI nx), .int ec, .int ep, .int kn, .int (nI st), .int nu, .long va]) := h_1
  refine z_get (ref := "FlowExporterModel") (C := RX12) (T := TX12) (N := 54) (ci := 14) (v := .ref (x + 2)) B hu_X12_fieldOf_X12 rfl 2 (Nat.le_of_ble_eq_true rfl) hv_X12_fieldOf_17 rfl h_2 rfl dX12_fieldOf_1 ?_
  refine z_bipush (v := 15) B dX12_fieldOf_4 rfl ?_
  refine z_bipush (v := 9) B dX12_fieldOf_6 rfl ?_
  refine z_iload_n B dX12_fieldOf_8 rfl 1 rfl ?_
  refine z_imul B dX12_fieldOf_9 ?_
  refine z_top (st1 := [.int (nI (9 * t)), .int 15, .ref (x + 2)]) (congrArg (fun w9 : Int32 => ([.int w9, .int 15, .ref (x + 2)] : List Value)) (nI_mul 9 t)) ?_
  refine z_iadd B dX12_fieldOf_10 ?_
  refine z_top (st1 := [.int (nI (15 + 9 * t)), .ref (x + 2)]) (congrArg (fun w9 : Int32 => ([.int w9, .ref (x + 2)] : List Value)) (nI_add 15 (9 * t))) ?_
  refine z_iload_n B dX12_fieldOf_11 rfl 2 rfl ?_
  refine z_iadd B dX12_fieldOf_12 ?_
  refine z_top (st1 := [.int (nI (15 + 9 * t + q)), .ref (x + 2)]) (congrArg (fun w9 : Int32 => ([.int w9, .ref (x + 2)] : List Value)) (nI_add (15 + 9 * t) q)) ?_
  obtain ⟨f_1, h_3, r_1⟩ := imk (k := 2) hI
  replace r_1 : (NNq c) f_1 := r_1
  have r_2 : NN f_1 := r_1.1
  have h_4 : Φ (x + 2) = some (ai_ G 307 f_1) := h_3
  refine z_iald B h_4 (vp_in_nI (by omega) (by omega)) dX12_fieldOf_13 ?_
  obtain ⟨n_3, b_14, e_1, e_2⟩ := fl_q (t := t) (q := q) r_1 (by omega) (by omega)
  refine z_top (st1 := [.int (nI n_3)]) (congrArg (fun w9 : Int32 => ([.int w9] : List Value)) ((congrArg f_1 (nI_clamp (by omega))).trans e_2)) ?_
  exact z_ret_i B dX12_fieldOf_14 ⟨⟨n_3, b_14, e_1, rfl⟩, rfl, hI, (fun b9 h9 => rfl)⟩

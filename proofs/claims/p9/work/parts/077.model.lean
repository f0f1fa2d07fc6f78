theorem dX12_isDouble_0 : decode cX12_isDouble 0 = .ok (.iconst 0, 1) := by decide +kernel
theorem dX12_isDouble_1 : decode cX12_isDouble 1 = .ok (.istore 5, 2) := by decide +kernel
theorem dX12_isDouble_3 : decode cX12_isDouble 3 = .ok (.iload 5, 2) := by decide +kernel
theorem dX12_isDouble_5 : decode cX12_isDouble 5 = .ok (.aload_n 0, 1) := by decide +kernel
theorem dX12_isDouble_6 : decode cX12_isDouble 6 = .ok (.getfield 326, 3) := by decide +kernel
theorem dX12_isDouble_9 : decode cX12_isDouble 9 = .ok (.if_icmp .ge 35, 3) := by decide +kernel
theorem dX12_isDouble_12 : decode cX12_isDouble 12 = .ok (.aload_n 0, 1) := by decide +kernel
theorem dX12_isDouble_13 : decode cX12_isDouble 13 = .ok (.getfield 57, 3) := by decide +kernel
theorem dX12_isDouble_16 : decode cX12_isDouble 16 = .ok (.iload 5, 2) := by decide +kernel
theorem dX12_isDouble_18 : decode cX12_isDouble 18 = .ok (.laload, 1) := by decide +kernel
theorem dX12_isDouble_19 : decode cX12_isDouble 19 = .ok (.lload_n 1, 1) := by decide +kernel
theorem dX12_isDouble_20 : decode cX12_isDouble 20 = .ok (.lcmp, 1) := by decide +kernel
theorem dX12_isDouble_21 : decode cX12_isDouble 21 = .ok (.ifCond .ne 17, 3) := by decide +kernel
theorem dX12_isDouble_24 : decode cX12_isDouble 24 = .ok (.aload_n 0, 1) := by decide +kernel
theorem dX12_isDouble_25 : decode cX12_isDouble 25 = .ok (.getfield 60, 3) := by decide +kernel
theorem dX12_isDouble_28 : decode cX12_isDouble 28 = .ok (.iload 5, 2) := by decide +kernel
theorem dX12_isDouble_30 : decode cX12_isDouble 30 = .ok (.laload, 1) := by decide +kernel
theorem dX12_isDouble_31 : decode cX12_isDouble 31 = .ok (.lload_n 3, 1) := by decide +kernel
theorem dX12_isDouble_32 : decode cX12_isDouble 32 = .ok (.lcmp, 1) := by decide +kernel
theorem dX12_isDouble_33 : decode cX12_isDouble 33 = .ok (.ifCond .ne 5, 3) := by decide +kernel
theorem dX12_isDouble_36 : decode cX12_isDouble 36 = .ok (.iconst 1, 1) := by decide +kernel
theorem dX12_isDouble_37 : decode cX12_isDouble 37 = .ok (.ireturn, 1) := by decide +kernel
theorem dX12_isDouble_38 : decode cX12_isDouble 38 = .ok (.iinc 5 1, 3) := by decide +kernel
theorem dX12_isDouble_41 : decode cX12_isDouble 41 = .ok (.goto (-38), 3) := by decide +kernel
theorem dX12_isDouble_44 : decode cX12_isDouble 44 = .ok (.iconst 0, 1) := by decide +kernel
theorem dX12_isDouble_45 : decode cX12_isDouble 45 = .ok (.ireturn, 1) := by decide +kernel
set_option maxHeartbeats 4000000 in
set_option maxRecDepth 100000 in
theorem r_isDouble (G : EnvG) (l : Launch) (Φ : Hm) (sz x : Nat) (rd : (Nat → Int32) → Prop) (nw : (Nat → Int32) → Prop) (cr : (Nat → Int64) → Prop) (tp : (Nat → Int32) → Prop) (tt : (Nat → Int64) → Prop) (fl : Nat) (pe : Nat) (le : Nat) (nx : Nat) (il : Nat) (qu : Nat) (kn : Int32) (ec : Int32) (nu : Int32) (va : Int64) (st : Nat) (ep : Int32) (ti : Int32) (ad : Int32) (ob : Int64) (ra : Int32) (rt : Nat) (ex : Int32) (sa : Int64) (us : Int64) (tk : Nat) (th : Int32) (a : Int64) (b : Int64) (hx : G.2.2.2 ≤ x) (hI : Im G x (rd, nw, cr, tp, tt, fl, pe, le, nx, il, qu, kn, ec, nu, va, st, ep, ti, ad, ob, ra, rt, ex, sa, us, tk, th) Φ) (hnw : ∀ f9 : Nat → Int32, nw f9 → NN f9) : Ct G l yX12_isDouble wsX12_isDouble ({ frames := 0, cells := 0, slots := 0, locals := 0 }) 0 0 [.ref x, .long a, .long b] Φ sz (fun v Φ1 sz1 => (∃ r9 : Int32, v = some (.int r9) ∧ (r9 = 0 ∨ r9 = 1)) ∧ sz1 = sz ∧ (Im G x (rd, nw, cr, tp, tt, fl, pe, le, nx, il, qu, kn, ec, nu, va, st, ep, ti, ad, ob, ra, rt, ex, sa, us, tk, th) Φ1) ∧ Fr x (fun j9 => False) Φ Φ1) := by
  refine Ct.of (cc := cX12_isDouble) (maxL := 6) (ret := (some .boolean)) (by decide) rfl (Nat.le_of_ble_eq_true rfl) ?_
  intro p9 e9 s9 m9 w9 t9 k9 B
  show Z p9 l e9 _ s9 m9 _ w9 t9 k9 _ G 6 0 [(0, .ref x), (1, .long a), (3, .long b)] [] Φ sz 0 0
  refine z_iconst (v := 0) B dX12_isDouble_0 rfl ?_
  refine z_istore (lv' := [(5, .int 0), (0, .ref x), (1, .long a), (3, .long b)]) B dX12_isDouble_1 (Nat.le_of_ble_eq_true rfl) rfl ?_
  refine z_lv [0, 1, 2, 3] rfl ?_
  refine z_loop (α := Nat) (fun (a9 : Nat) Φi => Im G x (rd, nw, cr, tp, tt, fl, pe, le, nx, il, qu, kn, ec, nu, va, st, ep, ti, ad, ob, ra, rt, ex, sa, us, tk, th) Φi ∧ Fr x (fun j9 => False) Φ Φi ∧ (a9 ≤ 8) ∧ True) (fun a9 => [(5, .int (nI a9)), (0, .ref x), (1, .long a), (3, .long b)]) (fun a9 => 8 - a9) ?_ (0) ⟨hI, fun _ _ => rfl, (show 0 ≤ 8 by omega), trivial⟩
  rintro i_1 Φl1 ⟨hI1, hF1, b_1, -⟩ ih1
  replace hI1 : Im G x (rd, nw, cr, tp, tt, fl, pe, le, nx, il, qu, kn, ec, nu, va, st, ep, ti, ad, ob, ra, rt, ex, sa, us, tk, th) Φl1 := hI1
  replace b_1 : i_1 ≤ 8 := b_1
  show Z p9 l e9 _ s9 m9 _ w9 t9 k9 _ G 6 3 [(5, .int (nI i_1)), (0, .ref x), (1, .long a), (3, .long b)] [] Φl1 _ _ _
  refine z_iload B dX12_isDouble_3 0 rfl ?_
  refine z_aload_n B dX12_isDouble_5 rfl 1 rfl ?_
  obtain ⟨v_1, v_2, v_3, v_4, n_1, v_5, n_2, h_1, b_14, b_2, b_3, b_4, b_5, b_6, b_7, b_8, b_9, b_10, b_11, b_12, b_13⟩ := im0 hI1
  replace b_2 : 1 ≤ rt := b_2
  replace b_3 : rt ≤ 1024 := b_3
  replace b_4 : fl ≤ 12 := b_4
  replace b_5 : pe ≤ 24 := b_5
  replace b_6 : le ≤ 700 := b_6
  replace b_7 : qu ≤ 12 := b_7
  replace b_8 : n_1 ≤ 8 := b_8
  replace b_9 : n_2 ≤ 24 := b_9
  replace b_10 : tk ≤ 24 := b_10
  replace b_11 : il ≤ 700 := b_11
  replace b_12 : nx ≤ 701 := b_12
  replace b_13 : st ≤ 701 := b_13
  have h_2 : Φl1 x = some (o_ 14 [.int th, .ref (x + 1), .ref (x + 2), .int ti, .int ra, .int (nI rt), .int ex, .int ad, .ref (x + 3), .ref (x + 4), .int v_1, .long v_2, .ref (x + 5), .int (nI fl), .int v_3, .long ob, .long sa, .long v_4, .long us, .ref (x + 6), .ref (x + 7), .int (nI pe), .ref (x + 8), .int (nI le), .ref (x + 9), .ref (x + 10), .int (nI qu), .ref (x + 11), .ref (x + 12), .ref (x + 13), .ref (x + 14), .ref (x + 15), .ref (x + 16), .int (nI n_1), .long v_5, .ref (x + 17), .ref (x + 18), .ref (x + 19), .ref (x + 20), .ref (x + 21), .ref (x + 22), .int (nI n_2), .ref (x + 23), .ref (x + 24), .int (nI tk), .ref (x + 25), .int (nI il), .int (nI nx), .int ec, .int ep, .int kn, .int (nI st), .int nu, .long va]) := h_1
  refine z_get (ref := "FlowExporterModel") (C := RX12) (T := TX12) (N := 54) (ci := 14) (v := .int (nI n_1)) B hu_X12_isDouble_X12 rfl 33 (Nat.le_of_ble_eq_true rfl) hv_X12_isDouble_326 rfl h_2 rfl dX12_isDouble_6 ?_
  refine z_icmp_ge (tgt := 44) B dX12_isDouble_9 rfl (fun c_1 => ?_) (fun c_1 => ?_)
  · have e_1 : n_1 ≤ i_1 := (nI_leI (a := n_1) (b := i_1) (by omega) (by omega)).mp c_1
    refine z_iconst (v := 0) B dX12_isDouble_44 rfl ?_
    exact z_ret_z B dX12_isDouble_45 (by decide) ⟨⟨_, rfl, by decide⟩, rfl, hI1, (fun b9 h9 => ((hF1 b9 (fun j9 h8 h7 => (show False from h7).elim)).trans rfl))⟩
  · have e_2 : ¬ (n_1 ≤ i_1) := fun h9 => c_1 ((nI_leI (a := n_1) (b := i_1) (by omega) (by omega)).mpr h9)
    refine z_aload_n B dX12_isDouble_12 rfl 1 rfl ?_
    refine z_get (ref := "FlowExporterModel") (C := RX12) (T := TX12) (N := 54) (ci := 14) (v := .ref (x + 15)) B hu_X12_isDouble_X12 rfl 31 (Nat.le_of_ble_eq_true rfl) hv_X12_isDouble_57 rfl h_2 rfl dX12_isDouble_13 ?_
    refine z_iload B dX12_isDouble_16 0 rfl ?_
    obtain ⟨f_1, h_3⟩ := imk (k := 15) hI1
    have h_4 : Φl1 (x + 15) = some (al_ G 8 f_1) := h_3
    refine z_lald B h_4 (vp_in_nI (by omega) (by omega)) dX12_isDouble_18 ?_
    refine z_fl (fun v_6 => ?_)
    refine z_lload_n B dX12_isDouble_19 rfl 2 rfl ?_
    refine z_lcmp B dX12_isDouble_20 ?_
    refine z_fi (fun v_7 => ?_)
    refine z_if_ne (tgt := 38) B dX12_isDouble_21 rfl (fun c_2 => ?_) (fun c_2 => ?_)
    · refine z_iinc (k := 0) (v := nI (i_1 + 1)) (lv' := [(5, .int (nI (i_1 + 1))), (0, .ref x), (1, .long a), (3, .long b)]) B dX12_isDouble_38 rfl (nI_add i_1 1) (Nat.le_of_ble_eq_true rfl) rfl ?_
      refine z_goto (tgt := 3) B dX12_isDouble_41 rfl ?_
      refine z_lv [0, 1, 2, 3] rfl ?_
      exact ih1 (i_1 + 1) Φl1 (show 8 - (i_1 + 1) < 8 - i_1 by omega) ⟨hI1, (fun b9 h9 => ((hF1 b9 (fun j9 h8 h7 => (show False from h7).elim)).trans rfl)), (show (i_1 + 1) ≤ 8 by omega), trivial⟩
    · refine z_aload_n B dX12_isDouble_24 rfl 1 rfl ?_
      refine z_get (ref := "FlowExporterModel") (C := RX12) (T := TX12) (N := 54) (ci := 14) (v := .ref (x + 16)) B hu_X12_isDouble_X12 rfl 32 (Nat.le_of_ble_eq_true rfl) hv_X12_isDouble_60 rfl h_2 rfl dX12_isDouble_25 ?_
      refine z_iload B dX12_isDouble_28 0 rfl ?_
      obtain ⟨f_2, h_5⟩ := imk (k := 16) hI1
      have h_6 : Φl1 (x + 16) = some (al_ G 8 f_2) := h_5
      refine z_lald B h_6 (vp_in_nI (by omega) (by omega)) dX12_isDouble_30 ?_
      refine z_fl (fun v_8 => ?_)
      refine z_lload_n B dX12_isDouble_31 rfl 3 rfl ?_
      refine z_lcmp B dX12_isDouble_32 ?_
      refine z_fi (fun v_9 => ?_)
      refine z_if_ne (tgt := 38) B dX12_isDouble_33 rfl (fun c_3 => ?_) (fun c_3 => ?_)
      · refine z_iinc (k := 0) (v := nI (i_1 + 1)) (lv' := [(5, .int (nI (i_1 + 1))), (0, .ref x), (1, .long a), (3, .long b)]) B dX12_isDouble_38 rfl (nI_add i_1 1) (Nat.le_of_ble_eq_true rfl) rfl ?_
        refine z_goto (tgt := 3) B dX12_isDouble_41 rfl ?_
        refine z_lv [0, 1, 2, 3] rfl ?_
        exact ih1 (i_1 + 1) Φl1 (show 8 - (i_1 + 1) < 8 - i_1 by omega) ⟨hI1, (fun b9 h9 => ((hF1 b9 (fun j9 h8 h7 => (show False from h7).elim)).trans rfl)), (show (i_1 + 1) ≤ 8 by omega), trivial⟩
      · refine z_iconst (v := 1) B dX12_isDouble_36 rfl ?_
        exact z_ret_z B dX12_isDouble_37 (by decide) ⟨⟨_, rfl, by decide⟩, rfl, hI1, (fun b9 h9 => ((hF1 b9 (fun j9 h8 h7 => (show False from h7).elim)).trans rfl))⟩

theorem hu_X12_account_X12 : ∀ w ∈ u_ws RX12 TX12 54, w ∈ wsX12_account := fun _ h => List.mem_cons_of_mem _ (List.mem_append_left _ (List.mem_append_right _ (h)))

theorem hv_X12_account_326 : Cond.fieldLink RX12 326 "FlowExporterModel" (TX12 33).2.1 (TX12 33).2.2.1 ∈ wsX12_account := List.mem_cons_of_mem _ (List.mem_append_left _ (List.mem_append_left _ (List.mem_of_getElem? (i := 5) rfl)))

theorem hv_X12_account_57 : Cond.fieldLink RX12 57 "FlowExporterModel" (TX12 31).2.1 (TX12 31).2.2.1 ∈ wsX12_account := List.mem_cons_of_mem _ (List.mem_append_left _ (List.mem_append_left _ (List.mem_of_getElem? (i := 6) rfl)))

theorem hv_X12_account_60 : Cond.fieldLink RX12 60 "FlowExporterModel" (TX12 32).2.1 (TX12 32).2.2.1 ∈ wsX12_account := List.mem_cons_of_mem _ (List.mem_append_left _ (List.mem_append_left _ (List.mem_of_getElem? (i := 2) rfl)))

theorem hv_X12_account_331 : Cond.fieldLink RX12 331 "FlowExporterModel" (TX12 34).2.1 (TX12 34).2.2.1 ∈ wsX12_account := List.mem_cons_of_mem _ (List.mem_append_left _ (List.mem_append_left _ (List.mem_of_getElem? (i := 0) rfl)))

theorem hv_X12_account_45 : Cond.fieldLink RX12 45 "FlowExporterModel" (TX12 27).2.1 (TX12 27).2.2.1 ∈ wsX12_account := List.mem_cons_of_mem _ (List.mem_append_left _ (List.mem_append_left _ (List.mem_of_getElem? (i := 3) rfl)))

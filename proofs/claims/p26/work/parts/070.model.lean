theorem dX12_enqueue_0 : decode cX12_enqueue 0 = .ok (.aload_n 0, 1) := by decide +kernel
theorem dX12_enqueue_1 : decode cX12_enqueue 1 = .ok (.getfield 139, 3) := by decide +kernel
theorem dX12_enqueue_4 : decode cX12_enqueue 4 = .ok (.bipush 12, 2) := by decide +kernel
theorem dX12_enqueue_6 : decode cX12_enqueue 6 = .ok (.if_icmp .ne 14, 3) := by decide +kernel
theorem dX12_enqueue_9 : decode cX12_enqueue 9 = .ok (.aload_n 0, 1) := by decide +kernel
theorem dX12_enqueue_10 : decode cX12_enqueue 10 = .ok (.dup, 1) := by decide +kernel
theorem dX12_enqueue_11 : decode cX12_enqueue 11 = .ok (.getfield 130, 3) := by decide +kernel
theorem dX12_enqueue_14 : decode cX12_enqueue 14 = .ok (.iconst 1, 1) := by decide +kernel
theorem dX12_enqueue_15 : decode cX12_enqueue 15 = .ok (.iadd, 1) := by decide +kernel
theorem dX12_enqueue_16 : decode cX12_enqueue 16 = .ok (.putfield 130, 3) := by decide +kernel
theorem dX12_enqueue_19 : decode cX12_enqueue 19 = .ok (.return_, 1) := by decide +kernel
theorem dX12_enqueue_20 : decode cX12_enqueue 20 = .ok (.iconst 0, 1) := by decide +kernel
theorem dX12_enqueue_21 : decode cX12_enqueue 21 = .ok (.istore_n 1, 1) := by decide +kernel
theorem dX12_enqueue_22 : decode cX12_enqueue 22 = .ok (.iload_n 1, 1) := by decide +kernel
theorem dX12_enqueue_23 : decode cX12_enqueue 23 = .ok (.aload_n 0, 1) := by decide +kernel
theorem dX12_enqueue_24 : decode cX12_enqueue 24 = .ok (.getfield 280, 3) := by decide +kernel
theorem dX12_enqueue_27 : decode cX12_enqueue 27 = .ok (.if_icmp .ge 30, 3) := by decide +kernel
theorem dX12_enqueue_30 : decode cX12_enqueue 30 = .ok (.aload_n 0, 1) := by decide +kernel
theorem dX12_enqueue_31 : decode cX12_enqueue 31 = .ok (.getfield 39, 3) := by decide +kernel
theorem dX12_enqueue_34 : decode cX12_enqueue 34 = .ok (.sipush 600, 3) := by decide +kernel
theorem dX12_enqueue_37 : decode cX12_enqueue 37 = .ok (.aload_n 0, 1) := by decide +kernel
theorem dX12_enqueue_38 : decode cX12_enqueue 38 = .ok (.getfield 139, 3) := by decide +kernel
theorem dX12_enqueue_41 : decode cX12_enqueue 41 = .ok (.imul, 1) := by decide +kernel
theorem dX12_enqueue_42 : decode cX12_enqueue 42 = .ok (.iload_n 1, 1) := by decide +kernel
theorem dX12_enqueue_43 : decode cX12_enqueue 43 = .ok (.iadd, 1) := by decide +kernel
theorem dX12_enqueue_44 : decode cX12_enqueue 44 = .ok (.aload_n 0, 1) := by decide +kernel
theorem dX12_enqueue_45 : decode cX12_enqueue 45 = .ok (.getfield 36, 3) := by decide +kernel
theorem dX12_enqueue_48 : decode cX12_enqueue 48 = .ok (.iload_n 1, 1) := by decide +kernel
theorem dX12_enqueue_49 : decode cX12_enqueue 49 = .ok (.iaload, 1) := by decide +kernel
theorem dX12_enqueue_50 : decode cX12_enqueue 50 = .ok (.iastore, 1) := by decide +kernel
theorem dX12_enqueue_51 : decode cX12_enqueue 51 = .ok (.iinc 1 1, 3) := by decide +kernel
theorem dX12_enqueue_54 : decode cX12_enqueue 54 = .ok (.goto (-32), 3) := by decide +kernel
theorem dX12_enqueue_57 : decode cX12_enqueue 57 = .ok (.aload_n 0, 1) := by decide +kernel
theorem dX12_enqueue_58 : decode cX12_enqueue 58 = .ok (.getfield 42, 3) := by decide +kernel
theorem dX12_enqueue_61 : decode cX12_enqueue 61 = .ok (.aload_n 0, 1) := by decide +kernel
theorem dX12_enqueue_62 : decode cX12_enqueue 62 = .ok (.getfield 139, 3) := by decide +kernel
theorem dX12_enqueue_65 : decode cX12_enqueue 65 = .ok (.aload_n 0, 1) := by decide +kernel
theorem dX12_enqueue_66 : decode cX12_enqueue 66 = .ok (.getfield 280, 3) := by decide +kernel
theorem dX12_enqueue_69 : decode cX12_enqueue 69 = .ok (.iastore, 1) := by decide +kernel
theorem dX12_enqueue_70 : decode cX12_enqueue 70 = .ok (.aload_n 0, 1) := by decide +kernel
theorem dX12_enqueue_71 : decode cX12_enqueue 71 = .ok (.dup, 1) := by decide +kernel
theorem dX12_enqueue_72 : decode cX12_enqueue 72 = .ok (.getfield 139, 3) := by decide +kernel
theorem dX12_enqueue_75 : decode cX12_enqueue 75 = .ok (.iconst 1, 1) := by decide +kernel
theorem dX12_enqueue_76 : decode cX12_enqueue 76 = .ok (.iadd, 1) := by decide +kernel
theorem dX12_enqueue_77 : decode cX12_enqueue 77 = .ok (.putfield 139, 3) := by decide +kernel
theorem dX12_enqueue_80 : decode cX12_enqueue 80 = .ok (.return_, 1) := by decide +kernel
theorem hu_X12_enqueue_X12 : ∀ w ∈ u_ws RX12 TX12 54, w ∈ wsX12_enqueue := fun _ h => List.mem_cons_of_mem _ (List.mem_append_left _ (List.mem_append_right _ (h)))

theorem hv_X12_enqueue_139 : Cond.fieldLink RX12 139 "FlowExporterModel" (TX12 26).2.1 (TX12 26).2.2.1 ∈ wsX12_enqueue := List.mem_cons_of_mem _ (List.mem_append_left _ (List.mem_append_left _ (List.mem_of_getElem? (i := 0) rfl)))

theorem fq_971 {x : Nat} : ∀ j9 : Nat, x = x + j9 → (j9 = 9) → False := by
  intro j9 h1 h2
  omega

theorem hv_X12_enqueue_280 : Cond.fieldLink RX12 280 "FlowExporterModel" (TX12 23).2.1 (TX12 23).2.2.1 ∈ wsX12_enqueue := List.mem_cons_of_mem _ (List.mem_append_left _ (List.mem_append_left _ (List.mem_of_getElem? (i := 2) rfl)))

theorem hv_X12_enqueue_42 : Cond.fieldLink RX12 42 "FlowExporterModel" (TX12 25).2.1 (TX12 25).2.2.1 ∈ wsX12_enqueue := List.mem_cons_of_mem _ (List.mem_append_left _ (List.mem_append_left _ (List.mem_of_getElem? (i := 5) rfl)))

theorem fq_974 : ∀ j9 : Nat, (j9 = 9) → (j9 = 0 ∨ j9 = 9 ∨ j9 = 10) := by
  intro j9 h
  omega

theorem hv_X12_enqueue_39 : Cond.fieldLink RX12 39 "FlowExporterModel" (TX12 24).2.1 (TX12 24).2.2.1 ∈ wsX12_enqueue := List.mem_cons_of_mem _ (List.mem_append_left _ (List.mem_append_left _ (List.mem_of_getElem? (i := 3) rfl)))

theorem hv_X12_enqueue_36 : Cond.fieldLink RX12 36 "FlowExporterModel" (TX12 22).2.1 (TX12 22).2.2.1 ∈ wsX12_enqueue := List.mem_cons_of_mem _ (List.mem_append_left _ (List.mem_append_left _ (List.mem_of_getElem? (i := 4) rfl)))

theorem hv_X12_enqueue_130 : Cond.fieldLink RX12 130 "FlowExporterModel" (TX12 14).2.1 (TX12 14).2.2.1 ∈ wsX12_enqueue := List.mem_cons_of_mem _ (List.mem_append_left _ (List.mem_append_left _ (List.mem_of_getElem? (i := 1) rfl)))

set_option maxHeartbeats 4000000 in
set_option maxRecDepth 100000 in
theorem r_enqueue (G : EnvG) (l : Launch) (Φ : Hm) (sz x : Nat) (rd : (Nat → Int32) → Prop) (nw : (Nat → Int32) → Prop) (cr : (Nat → Int64) → Prop) (tp : (Nat → Int32) → Prop) (tt : (Nat → Int64) → Prop) (sI : (Nat → Int32) → Prop) (sT : (Nat → Int32) → Prop) (pt : (Nat → Int32) → Prop) (fl : Nat) (pe : Nat) (le : Nat) (nx : Nat) (il : Nat) (qu : Nat) (kn : Int32) (ec : Int32) (nu : Int32) (va : Int64) (st : Nat) (ep : Int32) (ti : Int32) (ad : Int32) (ob : Int64) (ra : Int32) (rt : Nat) (ex : Int32) (sa : Int64) (us : Int64) (tk : Nat) (th : Int32) (me : Int32) (dr : Int32) (se : Int64) (sn : Int64) (L : Nat → Nat) (hx : G.2.2.2 ≤ x) (hI : Im G x (rd, nw, cr, tp, tt, sI, sT, pt, (QlQ qu L), fl, pe, le, nx, il, qu, kn, ec, nu, va, st, ep, ti, ad, ob, ra, rt, ex, sa, us, tk, th, me, dr, se, sn) Φ) (hl : le ≤ 600) (hnw : ∀ f9 : Nat → Int32, nw f9 → NN f9) : Ct G l yX12_enqueue wsX12_enqueue ({ frames := 0, cells := 0, slots := 0, locals := 0 }) 0 0 [.ref x] Φ sz (fun v Φ1 sz1 => (v = none) ∧ sz1 = sz ∧ (∃ (qu1 : Nat) (L1 : Nat → Nat) (dr1 : Int32), (enQ le (qu, L, dr) = (qu1, L1, dr1)) ∧ Im G x (rd, nw, cr, tp, tt, sI, sT, pt, (QlQ qu1 L1), fl, pe, le, nx, il, qu1, kn, ec, nu, va, st, ep, ti, ad, ob, ra, rt, ex, sa, us, tk, th, me, dr1, se, sn) Φ1) ∧ Fr x (fun j9 => j9 = 0 ∨ j9 = 9 ∨ j9 = 10) Φ Φ1) := by
  refine Ct.of (cc := cX12_enqueue) (maxL := 2) (ret := none) (by decide) rfl (Nat.le_of_ble_eq_true rfl) ?_
  intro p9 e9 s9 m9 w9 t9 k9 B
  show Z p9 l e9 _ s9 m9 _ w9 t9 k9 _ G 2 0 [(0, .ref x)] [] Φ sz 0 0
  refine z_aload_n B dX12_enqueue_0 rfl 0 rfl ?_
  obtain ⟨n_1, v_1, n_2, h_1, b_13, b_1, b_2, b_3, b_4, b_5, b_6, b_7, b_8, b_9, b_10, b_11, b_12⟩ := im0 hI
  replace b_1 : 1 ≤ rt := b_1
  replace b_2 : rt ≤ 1024 := b_2
  replace b_3 : fl ≤ 12 := b_3
  replace b_4 : pe ≤ 24 := b_4
  replace b_5 : le ≤ 700 := b_5
  replace b_6 : qu ≤ 12 := b_6
  replace b_7 : n_1 ≤ 8 := b_7
  replace b_8 : n_2 ≤ 24 := b_8
  replace b_9 : tk ≤ 24 := b_9
  replace b_10 : il ≤ 700 := b_10
  replace b_11 : nx ≤ 701 := b_11
  replace b_12 : st ≤ 701 := b_12
  have h_2 : Φ x = some (o_ 14 [.int th, .ref (x + 1), .ref (x + 2), .int ti, .int ra, .int (nI rt), .int ex, .int ad, .ref (x + 3), .ref (x + 4), .int me, .long se, .ref (x + 5), .int (nI fl), .int dr, .long ob, .long sa, .long sn, .long us, .ref (x + 6), .ref (x + 7), .int (nI pe), .ref (x + 8), .int (nI le), .ref (x + 9), .ref (x + 10), .int (nI qu), .ref (x + 11), .ref (x + 12), .ref (x + 13), .ref (x + 14), .ref (x + 15), .ref (x + 16), .int (nI n_1), .long v_1, .ref (x + 17), .ref (x + 18), .ref (x + 19), .ref (x + 20), .ref (x + 21), .ref (x + 22), .int (nI n_2), .ref (x + 23), .ref (x + 24), .int (nI tk), .ref (x + 25), .int (nI il), .int (nI nx), .int ec, .int ep, .int kn, .int (nI st), .int nu, .long va]) := h_1
  refine z_get (ref := "FlowExporterModel") (C := RX12) (T := TX12) (N := 54) (ci := 14) (v := .int (nI qu)) B hu_X12_enqueue_X12 rfl 26 (Nat.le_of_ble_eq_true rfl) hv_X12_enqueue_139 rfl h_2 rfl dX12_enqueue_1 ?_
  refine z_bipush (v := 12) B dX12_enqueue_4 rfl ?_
  refine z_icmp_ne (tgt := 20) B dX12_enqueue_6 rfl (fun c_1 => ?_) (fun c_1 => ?_)
  · have e_1 : ¬ (qu = 12) := fun h9 => c_1 ((nI_eq (a := qu) (b := 12) (by omega) (by omega)).mpr h9)
    refine z_iconst (v := 0) B dX12_enqueue_20 rfl ?_
    refine z_istore_n (lv' := [(1, .int 0), (0, .ref x)]) B dX12_enqueue_21 rfl (Nat.le_of_ble_eq_true rfl) rfl ?_
    refine z_lv [0, 1] rfl ?_
    refine z_loop (α := Nat) (fun (a9 : Nat) Φi => Im G x (rd, nw, cr, tp, tt, sI, sT, pt, (QlQ qu L), fl, pe, le, nx, il, qu, kn, ec, nu, va, st, ep, ti, ad, ob, ra, rt, ex, sa, us, tk, th, me, dr, se, sn) Φi ∧ Fr x (fun j9 => j9 = 9) Φ Φi ∧ (a9 ≤ 600) ∧ True) (fun a9 => [(1, .int (nI a9)), (0, .ref x)]) (fun a9 => 600 - a9) ?_ (0) ⟨hI, fun _ _ => rfl, (show 0 ≤ 600 by omega), trivial⟩
    rintro i_1 Φl1 ⟨hI1, hF1, b_14, -⟩ ih1
    replace hI1 : Im G x (rd, nw, cr, tp, tt, sI, sT, pt, (QlQ qu L), fl, pe, le, nx, il, qu, kn, ec, nu, va, st, ep, ti, ad, ob, ra, rt, ex, sa, us, tk, th, me, dr, se, sn) Φl1 := hI1
    replace b_14 : i_1 ≤ 600 := b_14
    show Z p9 l e9 _ s9 m9 _ w9 t9 k9 _ G 2 22 [(1, .int (nI i_1)), (0, .ref x)] [] Φl1 _ _ _
    refine z_iload_n B dX12_enqueue_22 rfl 0 rfl ?_
    refine z_aload_n B dX12_enqueue_23 rfl 1 rfl ?_
    have h_3 : Φl1 x = some (o_ 14 [.int th, .ref (x + 1), .ref (x + 2), .int ti, .int ra, .int (nI rt), .int ex, .int ad, .ref (x + 3), .ref (x + 4), .int me, .long se, .ref (x + 5), .int (nI fl), .int dr, .long ob, .long sa, .long sn, .long us, .ref (x + 6), .ref (x + 7), .int (nI pe), .ref (x + 8), .int (nI le), .ref (x + 9), .ref (x + 10), .int (nI qu), .ref (x + 11), .ref (x + 12), .ref (x + 13), .ref (x + 14), .ref (x + 15), .ref (x + 16), .int (nI n_1), .long v_1, .ref (x + 17), .ref (x + 18), .ref (x + 19), .ref (x + 20), .ref (x + 21), .ref (x + 22), .int (nI n_2), .ref (x + 23), .ref (x + 24), .int (nI tk), .ref (x + 25), .int (nI il), .int (nI nx), .int ec, .int ep, .int kn, .int (nI st), .int nu, .long va]) := ((hF1 x fq_971).trans h_2)
    refine z_get (ref := "FlowExporterModel") (C := RX12) (T := TX12) (N := 54) (ci := 14) (v := .int (nI le)) B hu_X12_enqueue_X12 rfl 23 (Nat.le_of_ble_eq_true rfl) hv_X12_enqueue_280 rfl h_3 rfl dX12_enqueue_24 ?_
    refine z_icmp_ge (tgt := 57) B dX12_enqueue_27 rfl (fun c_2 => ?_) (fun c_2 => ?_)
    · have e_2 : le ≤ i_1 := (nI_leI (a := le) (b := i_1) (by omega) (by omega)).mp c_2
      refine z_aload_n B dX12_enqueue_57 rfl 1 rfl ?_
      refine z_get (ref := "FlowExporterModel") (C := RX12) (T := TX12) (N := 54) (ci := 14) (v := .ref (x + 10)) B hu_X12_enqueue_X12 rfl 25 (Nat.le_of_ble_eq_true rfl) hv_X12_enqueue_42 rfl h_3 rfl dX12_enqueue_58 ?_
      refine z_aload_n B dX12_enqueue_61 rfl 1 rfl ?_
      refine z_get (ref := "FlowExporterModel") (C := RX12) (T := TX12) (N := 54) (ci := 14) (v := .int (nI qu)) B hu_X12_enqueue_X12 rfl 26 (Nat.le_of_ble_eq_true rfl) hv_X12_enqueue_139 rfl h_3 rfl dX12_enqueue_62 ?_
      refine z_aload_n B dX12_enqueue_65 rfl 1 rfl ?_
      refine z_get (ref := "FlowExporterModel") (C := RX12) (T := TX12) (N := 54) (ci := 14) (v := .int (nI le)) B hu_X12_enqueue_X12 rfl 23 (Nat.le_of_ble_eq_true rfl) hv_X12_enqueue_280 rfl h_3 rfl dX12_enqueue_66 ?_
      obtain ⟨f_1, h_4, r_1, r_2⟩ := imk (k := 10) hI1
      replace r_2 : (QlQ qu L) f_1 := r_2
      replace r_1 : Rw 600 f_1 := r_1
      have h_5 : Φl1 (x + 10) = some (ai_ G 12 f_1) := h_4
      refine z_iast B h_5 (Nat.le_trans hx (Nat.le_add_right x 10)) (vp_in_nI (by omega) (by omega)) dX12_enqueue_69 (fun Φ1 hΦ1 => ?_)
      have h_6 : Φ1 (x + 10) = some (ai_ G 12 (upd f_1 (nI qu).toNatClampNeg (nI le))) := fset_at hΦ1
      have hI2 : Im G x (rd, nw, cr, tp, tt, sI, sT, pt, (fun g9 => g9 = (upd f_1 (nI qu).toNatClampNeg (nI le))), fl, pe, le, nx, il, qu, kn, ec, nu, va, st, ep, ti, ad, ob, ra, rt, ex, sa, us, tk, th, me, dr, se, sn) Φ1 := Im.put10 (ql1 := (fun g9 => g9 = (upd f_1 (nI qu).toNatClampNeg (nI le)))) hI1 hΦ1 (Rw.up (n := le) r_1 (show le ≤ 600 by omega)) rfl
      have hI3 : Im G x (rd, nw, cr, tp, tt, sI, sT, pt, (QlQ (qu + 1) (fun j => if j = qu then le else L j)), fl, pe, le, nx, il, qu, kn, ec, nu, va, st, ep, ti, ad, ob, ra, rt, ex, sa, us, tk, th, me, dr, se, sn) Φ1 := Im.weak5 hI2 (fun _ q9 => q9) (fun _ q9 => q9) (fun _ q9 => q9) (fun _ q9 => q9) (fun _ q9 => q9) (fun _ q9 => q9) (fun _ q9 => q9) (fun _ q9 => q9) (eqw (QlQ.s r_2 (by omega) (nI_clamp (by omega))))
      refine z_aload_n B dX12_enqueue_70 rfl 1 rfl ?_
      refine z_dup B dX12_enqueue_71 rfl ?_
      have h_7 : Φ1 x = some (o_ 14 [.int th, .ref (x + 1), .ref (x + 2), .int ti, .int ra, .int (nI rt), .int ex, .int ad, .ref (x + 3), .ref (x + 4), .int me, .long se, .ref (x + 5), .int (nI fl), .int dr, .long ob, .long sa, .long sn, .long us, .ref (x + 6), .ref (x + 7), .int (nI pe), .ref (x + 8), .int (nI le), .ref (x + 9), .ref (x + 10), .int (nI qu), .ref (x + 11), .ref (x + 12), .ref (x + 13), .ref (x + 14), .ref (x + 15), .ref (x + 16), .int (nI n_1), .long v_1, .ref (x + 17), .ref (x + 18), .ref (x + 19), .ref (x + 20), .ref (x + 21), .ref (x + 22), .int (nI n_2), .ref (x + 23), .ref (x + 24), .int (nI tk), .ref (x + 25), .int (nI il), .int (nI nx), .int ec, .int ep, .int kn, .int (nI st), .int nu, .long va]) := ((fset_fr hΦ1 (ne_off (x := x) (i := 0) (j := 10) rfl)).trans h_3)
      refine z_get (ref := "FlowExporterModel") (C := RX12) (T := TX12) (N := 54) (ci := 14) (v := .int (nI qu)) B hu_X12_enqueue_X12 rfl 26 (Nat.le_of_ble_eq_true rfl) hv_X12_enqueue_139 rfl h_7 rfl dX12_enqueue_72 ?_
      refine z_iconst (v := 1) B dX12_enqueue_75 rfl ?_
      refine z_iadd B dX12_enqueue_76 ?_
      refine z_top (st1 := [.int (nI (qu + 1)), .ref x]) (congrArg (fun w9 : Int32 => ([.int w9, .ref x] : List Value)) (nI_add qu 1)) ?_
      refine z_put (ref := "FlowExporterModel") (C := RX12) (T := TX12) (N := 54) (ci := 14) (v := .int (nI (qu + 1))) B hu_X12_enqueue_X12 tyX12 tyX12_ok nmX12 rfl 26 (Nat.le_of_ble_eq_true rfl) hv_X12_enqueue_139 rfl (Or.inl rfl) h_7 hx rfl rfl (Nat.le_of_ble_eq_true rfl) dX12_enqueue_77 (fun Φ2 hΦ2 => ?_)
      have h_8 : Φ2 x = some (o_ 14 [.int th, .ref (x + 1), .ref (x + 2), .int ti, .int ra, .int (nI rt), .int ex, .int ad, .ref (x + 3), .ref (x + 4), .int me, .long se, .ref (x + 5), .int (nI fl), .int dr, .long ob, .long sa, .long sn, .long us, .ref (x + 6), .ref (x + 7), .int (nI pe), .ref (x + 8), .int (nI le), .ref (x + 9), .ref (x + 10), .int (nI (qu + 1)), .ref (x + 11), .ref (x + 12), .ref (x + 13), .ref (x + 14), .ref (x + 15), .ref (x + 16), .int (nI n_1), .long v_1, .ref (x + 17), .ref (x + 18), .ref (x + 19), .ref (x + 20), .ref (x + 21), .ref (x + 22), .int (nI n_2), .ref (x + 23), .ref (x + 24), .int (nI tk), .ref (x + 25), .int (nI il), .int (nI nx), .int ec, .int ep, .int kn, .int (nI st), .int nu, .long va]) := fset_at hΦ2
      have hI4 : Im G x (rd, nw, cr, tp, tt, sI, sT, pt, (QlQ (qu + 1) (fun j => if j = qu then le else L j)), fl, pe, le, nx, il, qu + 1, kn, ec, nu, va, st, ep, ti, ad, ob, ra, rt, ex, sa, us, tk, th, me, dr, se, sn) Φ2 := Im.put0 hI3 hΦ2 ⟨n_1, v_1, n_2, rfl, b_13, b_1, b_2, b_3, b_4, b_5, (show (qu + 1) ≤ 12 by omega), b_7, b_8, b_9, b_10, b_11, b_12⟩
      exact z_ret_v B dX12_enqueue_80 ⟨rfl, rfl, ⟨qu + 1, (fun j => if j = qu then le else L j), dr, (enQ_y (by omega)), hI4⟩, (fun b9 h9 => ((fset_fr hΦ2 (fun h8 => h9 (0) h8 (show 0 = 0 ∨ 0 = 9 ∨ 0 = 10 by decide))).trans ((fset_fr hΦ1 (fun h8 => h9 (10) h8 (show 10 = 0 ∨ 10 = 9 ∨ 10 = 10 by decide))).trans ((hF1 b9 (fun j9 h8 h7 => h9 j9 h8 (fq_974 j9 h7))).trans rfl))))⟩
    · have e_3 : ¬ (le ≤ i_1) := fun h9 => c_2 ((nI_leI (a := le) (b := i_1) (by omega) (by omega)).mpr h9)
      refine z_aload_n B dX12_enqueue_30 rfl 1 rfl ?_
      refine z_get (ref := "FlowExporterModel") (C := RX12) (T := TX12) (N := 54) (ci := 14) (v := .ref (x + 9)) B hu_X12_enqueue_X12 rfl 24 (Nat.le_of_ble_eq_true rfl) hv_X12_enqueue_39 rfl h_3 rfl dX12_enqueue_31 ?_
      refine z_sipush (v := 600) B dX12_enqueue_34 rfl ?_
      refine z_aload_n B dX12_enqueue_37 rfl 1 rfl ?_
      refine z_get (ref := "FlowExporterModel") (C := RX12) (T := TX12) (N := 54) (ci := 14) (v := .int (nI qu)) B hu_X12_enqueue_X12 rfl 26 (Nat.le_of_ble_eq_true rfl) hv_X12_enqueue_139 rfl h_3 rfl dX12_enqueue_38 ?_
      refine z_imul B dX12_enqueue_41 ?_
      refine z_top (st1 := [.int (nI (600 * qu)), .ref (x + 9)]) (congrArg (fun w9 : Int32 => ([.int w9, .ref (x + 9)] : List Value)) (nI_mul 600 qu)) ?_
      refine z_iload_n B dX12_enqueue_42 rfl 0 rfl ?_
      refine z_iadd B dX12_enqueue_43 ?_
      refine z_top (st1 := [.int (nI (600 * qu + i_1)), .ref (x + 9)]) (congrArg (fun w9 : Int32 => ([.int w9, .ref (x + 9)] : List Value)) (nI_add (600 * qu) i_1)) ?_
      refine z_aload_n B dX12_enqueue_44 rfl 1 rfl ?_
      refine z_get (ref := "FlowExporterModel") (C := RX12) (T := TX12) (N := 54) (ci := 14) (v := .ref (x + 8)) B hu_X12_enqueue_X12 rfl 22 (Nat.le_of_ble_eq_true rfl) hv_X12_enqueue_36 rfl h_3 rfl dX12_enqueue_45 ?_
      refine z_iload_n B dX12_enqueue_48 rfl 0 rfl ?_
      obtain ⟨f_2, h_9, r_3⟩ := imk (k := 8) hI1
      replace r_3 : Rw 255 f_2 := r_3
      have h_10 : Φl1 (x + 8) = some (ai_ G 700 f_2) := h_9
      refine z_iald B h_10 (vp_in_nI (by omega) (by omega)) dX12_enqueue_49 ?_
      obtain ⟨n_3, b_15, e_4⟩ := r_3 ((nI i_1).toNatClampNeg)
      refine z_top (st1 := [.int (nI n_3), .int (nI (600 * qu + i_1)), .ref (x + 9)]) (congrArg (fun w9 : Int32 => ([.int w9, .int (nI (600 * qu + i_1)), .ref (x + 9)] : List Value)) (e_4)) ?_
      obtain ⟨f_3, h_11, r_4⟩ := imk (k := 9) hI1
      replace r_4 : Rw 255 f_3 := r_4
      have h_12 : Φl1 (x + 9) = some (ai_ G 7200 f_3) := h_11
      refine z_iast B h_12 (Nat.le_trans hx (Nat.le_add_right x 9)) (vp_in_nI (by omega) (by omega)) dX12_enqueue_50 (fun Φ3 hΦ3 => ?_)
      have h_13 : Φ3 (x + 9) = some (ai_ G 7200 (upd f_3 (nI (600 * qu + i_1)).toNatClampNeg (nI n_3))) := fset_at hΦ3
      have hI5 : Im G x (rd, nw, cr, tp, tt, sI, sT, pt, (QlQ qu L), fl, pe, le, nx, il, qu, kn, ec, nu, va, st, ep, ti, ad, ob, ra, rt, ex, sa, us, tk, th, me, dr, se, sn) Φ3 := Im.put (k := 9) hI1 hΦ3 ⟨_, rfl, Rw.up (n := n_3) r_4 (show n_3 ≤ 255 by omega)⟩
      refine z_iinc (k := 0) (v := nI (i_1 + 1)) (lv' := [(1, .int (nI (i_1 + 1))), (0, .ref x)]) B dX12_enqueue_51 rfl (nI_add i_1 1) (Nat.le_of_ble_eq_true rfl) rfl ?_
      refine z_goto (tgt := 22) B dX12_enqueue_54 rfl ?_
      refine z_lv [0, 1] rfl ?_
      exact ih1 (i_1 + 1) Φ3 (show 600 - (i_1 + 1) < 600 - i_1 by omega) ⟨hI5, (fun b9 h9 => ((fset_fr hΦ3 (fun h8 => h9 (9) h8 (show 9 = 9 by decide))).trans ((hF1 b9 h9).trans rfl))), (show (i_1 + 1) ≤ 600 by omega), trivial⟩
  · have e_5 : qu = 12 := (nI_eq (a := qu) (b := 12) (by omega) (by omega)).mp c_1
    refine z_aload_n B dX12_enqueue_9 rfl 0 rfl ?_
    refine z_dup B dX12_enqueue_10 rfl ?_
    refine z_get (ref := "FlowExporterModel") (C := RX12) (T := TX12) (N := 54) (ci := 14) (v := .int dr) B hu_X12_enqueue_X12 rfl 14 (Nat.le_of_ble_eq_true rfl) hv_X12_enqueue_130 rfl h_2 rfl dX12_enqueue_11 ?_
    refine z_iconst (v := 1) B dX12_enqueue_14 rfl ?_
    refine z_iadd B dX12_enqueue_15 ?_
    refine z_put (ref := "FlowExporterModel") (C := RX12) (T := TX12) (N := 54) (ci := 14) (v := .int (dr + 1)) B hu_X12_enqueue_X12 tyX12 tyX12_ok nmX12 rfl 14 (Nat.le_of_ble_eq_true rfl) hv_X12_enqueue_130 rfl (Or.inl rfl) h_2 hx rfl rfl (Nat.le_of_ble_eq_true rfl) dX12_enqueue_16 (fun Φ4 hΦ4 => ?_)
    have h_14 : Φ4 x = some (o_ 14 [.int th, .ref (x + 1), .ref (x + 2), .int ti, .int ra, .int (nI rt), .int ex, .int ad, .ref (x + 3), .ref (x + 4), .int me, .long se, .ref (x + 5), .int (nI fl), .int (dr + 1), .long ob, .long sa, .long sn, .long us, .ref (x + 6), .ref (x + 7), .int (nI pe), .ref (x + 8), .int (nI le), .ref (x + 9), .ref (x + 10), .int (nI qu), .ref (x + 11), .ref (x + 12), .ref (x + 13), .ref (x + 14), .ref (x + 15), .ref (x + 16), .int (nI n_1), .long v_1, .ref (x + 17), .ref (x + 18), .ref (x + 19), .ref (x + 20), .ref (x + 21), .ref (x + 22), .int (nI n_2), .ref (x + 23), .ref (x + 24), .int (nI tk), .ref (x + 25), .int (nI il), .int (nI nx), .int ec, .int ep, .int kn, .int (nI st), .int nu, .long va]) := fset_at hΦ4
    have hI6 : Im G x (rd, nw, cr, tp, tt, sI, sT, pt, (QlQ qu L), fl, pe, le, nx, il, qu, kn, ec, nu, va, st, ep, ti, ad, ob, ra, rt, ex, sa, us, tk, th, me, dr + 1, se, sn) Φ4 := Im.put0 hI hΦ4 ⟨n_1, v_1, n_2, rfl, b_13, b_1, b_2, b_3, b_4, b_5, b_6, b_7, b_8, b_9, b_10, b_11, b_12⟩
    exact z_ret_v B dX12_enqueue_19 ⟨rfl, rfl, ⟨qu, L, dr + 1, (enQ_n (by omega)), hI6⟩, (fun b9 h9 => ((fset_fr hΦ4 (fun h8 => h9 (0) h8 (show 0 = 0 ∨ 0 = 9 ∨ 0 = 10 by decide))).trans rfl))⟩

theorem hu_X12_sendPending_X12 : ∀ w ∈ u_ws RX12 TX12 54, w ∈ wsX12_sendPending := fun _ h => List.mem_cons_of_mem _ (List.mem_append_left _ (List.mem_append_right _ (h)))

theorem hv_X12_sendPending_136 : Cond.fieldLink RX12 136 "FlowExporterModel" (TX12 21).2.1 (TX12 21).2.2.1 ∈ wsX12_sendPending := List.mem_cons_of_mem _ (List.mem_append_left _ (List.mem_append_left _ (List.mem_append_left _ (List.mem_of_getElem? (i := 0) rfl))))

theorem hv_X12_sendPending_280 : Cond.fieldLink RX12 280 "FlowExporterModel" (TX12 23).2.1 (TX12 23).2.2.1 ∈ wsX12_sendPending := List.mem_cons_of_mem _ (List.mem_append_left _ (List.mem_append_left _ (List.mem_append_left _ (List.mem_of_getElem? (i := 1) rfl))))

theorem hv_X12_sendPending_101 : Cond.fieldLink RX12 101 "FlowExporterModel" (TX12 3).2.1 (TX12 3).2.2.1 ∈ wsX12_sendPending := List.mem_cons_of_mem _ (List.mem_append_left _ (List.mem_append_left _ (List.mem_append_left _ (List.mem_of_getElem? (i := 3) rfl))))

theorem hv_X12_sendPending_201 : Cond.fieldLink RX12 201 "FlowExporterModel" (TX12 11).2.1 (TX12 11).2.2.1 ∈ wsX12_sendPending := List.mem_cons_of_mem _ (List.mem_append_left _ (List.mem_append_left _ (List.mem_append_left _ (List.mem_of_getElem? (i := 4) rfl))))

theorem fq_983 {x : Nat} : ∀ j9 : Nat, x = x + j9 → (j9 = 8) → False := by
  intro j9 h1 h2
  omega

theorem hv_X12_sendPending_142 : Cond.fieldLink RX12 142 "FlowExporterModel" (TX12 10).2.1 (TX12 10).2.2.1 ∈ wsX12_sendPending := List.mem_cons_of_mem _ (List.mem_append_left _ (List.mem_append_left _ (List.mem_append_left _ (List.mem_of_getElem? (i := 5) rfl))))

theorem hv_X12_sendPending_124 : Cond.fieldLink RX12 124 "FlowExporterModel" (TX12 17).2.1 (TX12 17).2.2.1 ∈ wsX12_sendPending := List.mem_cons_of_mem _ (List.mem_append_left _ (List.mem_append_left _ (List.mem_append_left _ (List.mem_of_getElem? (i := 6) rfl))))

theorem fq_986 : ∀ j9 : Nat, (j9 = 0 ∨ j9 = 8) → (j9 = 0 ∨ j9 = 3 ∨ j9 = 4 ∨ j9 = 8 ∨ j9 = 9 ∨ j9 = 10) := by
  intro j9 h
  omega

theorem fq_987 : ∀ j9 : Nat, (j9 = 0 ∨ j9 = 3 ∨ j9 = 4 ∨ j9 = 8) → (j9 = 0 ∨ j9 = 3 ∨ j9 = 4 ∨ j9 = 8 ∨ j9 = 9 ∨ j9 = 10) := by
  intro j9 h
  omega

theorem fq_988 : ∀ j9 : Nat, (j9 = 8) → (j9 = 0 ∨ j9 = 3 ∨ j9 = 4 ∨ j9 = 8 ∨ j9 = 9 ∨ j9 = 10) := by
  intro j9 h
  omega

theorem fq_989 : ∀ j9 : Nat, (j9 = 0 ∨ j9 = 9 ∨ j9 = 10) → (j9 = 0 ∨ j9 = 3 ∨ j9 = 4 ∨ j9 = 8 ∨ j9 = 9 ∨ j9 = 10) := by
  intro j9 h
  omega

set_option maxHeartbeats 4000000 in
set_option maxRecDepth 100000 in
theorem r_lossRate (G : EnvG) (l : Launch) (Φ : Hm) (sz x : Nat) (rd : (Nat → Int32) → Prop) (fl : Nat) (pe : Nat) (le : Nat) (nx : Nat) (il : Nat) (qu : Nat) (kn : Int32) (ec : Int32) (nu : Int32) (va : Int64)  (hx : G.2.2.2 ≤ x) (hI : Im G x (rd, NN, fl, pe, le, nx, il, qu, kn, ec, nu, va) Φ)  : Ct G l yX12_lossRate wsX12_lossRate ({ frames := 1, cells := 0, slots := 0, locals := 22 }) 0 0 [.ref x] Φ sz (fun v Φ1 sz1 => (∃ r9 : UInt64, v = some (.double r9) ∧ nn64 r9) ∧ sz1 = sz ∧ (Im G x (rd, NN, fl, pe, le, nx, il, qu, kn, ec, nu, va) Φ1) ∧ Fr x (fun j9 => j9 = 0) Φ Φ1) := by
  refine Ct.of (cc := cX12_lossRate) (maxL := 3) (ret := (some .double)) (by decide) rfl (Nat.le_of_ble_eq_true rfl) ?_
  intro p9 e9 s9 m9 w9 t9 k9 B
  show Z p9 l e9 _ s9 m9 _ w9 t9 k9 _ G 3 0 [(0, .ref x)] [] Φ sz 0 0
  refine z_aload_n B dX12_lossRate_0 rfl 0 rfl ?_
  refine z_iconst (v := 0) B dX12_lossRate_1 rfl ?_
  obtain ⟨v_1, v_2, v_3, n_1, v_4, v_5, v_6, v_7, v_8, v_9, v_10, v_11, v_12, n_2, v_13, n_3, n_4, v_14, v_15, h_1, b_12, b_1, b_2, b_3, b_4, b_5, b_6, b_7, b_8, b_9, b_10, b_11⟩ := im0 hI
  replace b_1 : 1 ≤ n_1 := b_1
  replace b_2 : n_1 ≤ 1024 := b_2
  replace b_3 : fl ≤ 12 := b_3
  replace b_4 : pe ≤ 24 := b_4
  replace b_5 : le ≤ 700 := b_5
  replace b_6 : qu ≤ 12 := b_6
  replace b_7 : n_2 ≤ 8 := b_7
  replace b_8 : n_3 ≤ 24 := b_8
  replace b_9 : n_4 ≤ 24 := b_9
  replace b_10 : il ≤ 700 := b_10
  replace b_11 : nx ≤ 701 := b_11
  have h_2 : Φ x = some (o_ 14 [.int v_1, .ref (x + 1), .ref (x + 2), .int v_2, .int v_3, .int (nI n_1), .int v_4, .int v_5, .ref (x + 3), .ref (x + 4), .int v_6, .long v_7, .ref (x + 5), .int (nI fl), .int v_8, .long v_9, .long v_10, .long v_11, .long v_12, .ref (x + 6), .ref (x + 7), .int (nI pe), .ref (x + 8), .int (nI le), .ref (x + 9), .ref (x + 10), .int (nI qu), .ref (x + 11), .ref (x + 12), .ref (x + 13), .ref (x + 14), .ref (x + 15), .ref (x + 16), .int (nI n_2), .long v_13, .ref (x + 17), .ref (x + 18), .ref (x + 19), .ref (x + 20), .ref (x + 21), .ref (x + 22), .int (nI n_3), .ref (x + 23), .ref (x + 24), .int (nI n_4), .ref (x + 25), .int (nI il), .int (nI nx), .int ec, .int v_14, .int kn, .int v_15, .int nu, .long va]) := h_1
  refine z_put (ref := "FlowExporterModel") (C := RX12) (T := TX12) (N := 54) (ci := 14) (v := .int 0) B (by decide +kernel) tyX12 tyX12_ok nmX12 rfl 0 (by decide) (by decide +kernel) rfl (Or.inl rfl) h_2 hx rfl rfl (Nat.le_of_ble_eq_true rfl) dX12_lossRate_2 (fun Φ1 hΦ1 => ?_)
  have h_3 : Φ1 x = some (o_ 14 [.int 0, .ref (x + 1), .ref (x + 2), .int v_2, .int v_3, .int (nI n_1), .int v_4, .int v_5, .ref (x + 3), .ref (x + 4), .int v_6, .long v_7, .ref (x + 5), .int (nI fl), .int v_8, .long v_9, .long v_10, .long v_11, .long v_12, .ref (x + 6), .ref (x + 7), .int (nI pe), .ref (x + 8), .int (nI le), .ref (x + 9), .ref (x + 10), .int (nI qu), .ref (x + 11), .ref (x + 12), .ref (x + 13), .ref (x + 14), .ref (x + 15), .ref (x + 16), .int (nI n_2), .long v_13, .ref (x + 17), .ref (x + 18), .ref (x + 19), .ref (x + 20), .ref (x + 21), .ref (x + 22), .int (nI n_3), .ref (x + 23), .ref (x + 24), .int (nI n_4), .ref (x + 25), .int (nI il), .int (nI nx), .int ec, .int v_14, .int kn, .int v_15, .int nu, .long va]) := fset_at hΦ1
  have hI1 : Im G x (rd, NN, fl, pe, le, nx, il, qu, kn, ec, nu, va) Φ1 := Im.put0 hI hΦ1 ⟨0, v_2, v_3, n_1, v_4, v_5, v_6, v_7, v_8, v_9, v_10, v_11, v_12, n_2, v_13, n_3, n_4, v_14, v_15, rfl, b_12, (show 1 ≤ n_1 by omega), (show n_1 ≤ 1024 by omega), (show fl ≤ 12 by omega), (show pe ≤ 24 by omega), (show le ≤ 700 by omega), (show qu ≤ 12 by omega), (show n_2 ≤ 8 by omega), (show n_3 ≤ 24 by omega), (show n_4 ≤ 24 by omega), (show il ≤ 700 by omega), (show nx ≤ 701 by omega)⟩
  refine z_aload_n B dX12_lossRate_5 rfl 0 rfl ?_
  refine z_get (ref := "FlowExporterModel") (C := RX12) (T := TX12) (N := 54) (ci := 14) (v := .ref (x + 11)) B (by decide +kernel) rfl 27 (by decide) (by decide +kernel) rfl h_3 rfl dX12_lossRate_6 ?_
  refine z_iconst (v := 0) B dX12_lossRate_9 rfl ?_
  obtain ⟨f_1, h_4⟩ := imk (k := 11) hI1
  have h_5 : Φ1 (x + 11) = some (al_ G 9 f_1) := h_4
  refine z_lald B h_5 (vin rfl) dX12_lossRate_10 ?_
  refine z_fl (fun v_16 => ?_)
  refine z_aload_n B dX12_lossRate_11 rfl 0 rfl ?_
  refine z_get (ref := "FlowExporterModel") (C := RX12) (T := TX12) (N := 54) (ci := 14) (v := .ref (x + 11)) B (by decide +kernel) rfl 27 (by decide) (by decide +kernel) rfl h_3 rfl dX12_lossRate_12 ?_
  refine z_bipush (v := 7) B dX12_lossRate_15 rfl ?_
  refine z_lald B h_5 (vin rfl) dX12_lossRate_17 ?_
  refine z_fl (fun v_17 => ?_)
  refine z_ladd B dX12_lossRate_18 ?_
  refine z_fl (fun v_18 => ?_)
  refine z_lstore_n (lv' := [(1, .long v_18), (0, .ref x)]) B dX12_lossRate_19 rfl (Nat.le_of_ble_eq_true rfl) rfl ?_
  refine z_aload_n B dX12_lossRate_20 rfl 1 rfl ?_
  refine z_lload_n B dX12_lossRate_21 rfl 0 rfl ?_
  refine z_lconst (v := 0) B dX12_lossRate_22 rfl ?_
  refine z_lcmp B dX12_lossRate_23 ?_
  refine z_if_ne (tgt := 31) B dX12_lossRate_24 rfl (fun c_1 => ?_) (fun c_1 => ?_)
  · refine z_iconst (v := 0) B dX12_lossRate_31 rfl ?_
    refine z_iconst (v := 1) B dX12_lossRate_32 rfl ?_
    refine z_callV (As := [.int 0, .int 1]) (rest := []) B (r_throwsIf G l Φ1 sz x rd fl pe le nx il qu kn ec nu va 0 1 hx hI1 (by decide)) (cwV 2 B.1.2.2.2.2 gX12_lossRate_X12_throwsIf rfl rfl rfl (by decide +kernel) ⟨Nat.le_of_ble_eq_true rfl, Nat.le_of_ble_eq_true rfl⟩) h_3 rfl rfl rfl rfl (Nat.le_of_ble_eq_true rfl) dX12_lossRate_33 ⟨Nat.le_of_ble_eq_true rfl, Nat.le_of_ble_eq_true rfl⟩ (fun r_2 Φ2 sz1 st1 hp1 hs1 => ?_)
    obtain ⟨rfl, hq1, hI2, hF1⟩ := hp1
    subst sz1
    replace hs1 : st1 = [.int 0] := hs1
    subst st1
    replace hI2 : Im G x (rd, NN, fl, pe, le, nx, il, qu, kn, ec, nu, va) Φ2 := hI2
    refine z_if_eq (tgt := 43) B dX12_lossRate_36 rfl (fun c_2 => ?_) (fun h9 => absurd (by decide) h9)
    refine z_aload_n B dX12_lossRate_43 rfl 1 rfl ?_
    obtain ⟨v_19, v_20, v_21, n_5, v_22, v_23, v_24, v_25, v_26, v_27, v_28, v_29, v_30, n_6, v_31, n_7, n_8, v_32, v_33, h_6, b_24, b_13, b_14, b_15, b_16, b_17, b_18, b_19, b_20, b_21, b_22, b_23⟩ := im0 hI2
    replace b_13 : 1 ≤ n_5 := b_13
    replace b_14 : n_5 ≤ 1024 := b_14
    replace b_15 : fl ≤ 12 := b_15
    replace b_16 : pe ≤ 24 := b_16
    replace b_17 : le ≤ 700 := b_17
    replace b_18 : qu ≤ 12 := b_18
    replace b_19 : n_6 ≤ 8 := b_19
    replace b_20 : n_7 ≤ 24 := b_20
    replace b_21 : n_8 ≤ 24 := b_21
    replace b_22 : il ≤ 700 := b_22
    replace b_23 : nx ≤ 701 := b_23
    have h_7 : Φ2 x = some (o_ 14 [.int v_19, .ref (x + 1), .ref (x + 2), .int v_20, .int v_21, .int (nI n_5), .int v_22, .int v_23, .ref (x + 3), .ref (x + 4), .int v_24, .long v_25, .ref (x + 5), .int (nI fl), .int v_26, .long v_27, .long v_28, .long v_29, .long v_30, .ref (x + 6), .ref (x + 7), .int (nI pe), .ref (x + 8), .int (nI le), .ref (x + 9), .ref (x + 10), .int (nI qu), .ref (x + 11), .ref (x + 12), .ref (x + 13), .ref (x + 14), .ref (x + 15), .ref (x + 16), .int (nI n_6), .long v_31, .ref (x + 17), .ref (x + 18), .ref (x + 19), .ref (x + 20), .ref (x + 21), .ref (x + 22), .int (nI n_7), .ref (x + 23), .ref (x + 24), .int (nI n_8), .ref (x + 25), .int (nI il), .int (nI nx), .int ec, .int v_32, .int kn, .int v_33, .int nu, .long va]) := h_6
    refine z_get (ref := "FlowExporterModel") (C := RX12) (T := TX12) (N := 54) (ci := 14) (v := .ref (x + 11)) B (by decide +kernel) rfl 27 (by decide) (by decide +kernel) rfl h_7 rfl dX12_lossRate_44 ?_
    refine z_iconst (v := 0) B dX12_lossRate_47 rfl ?_
    have h_8 : Φ2 (x + 11) = some (al_ G 9 f_1) := ((hF1 (x + 11) (fun j9 h8 h7 => by have h6 : j9 = 0 := h7; omega)).trans h_5)
    refine z_lald B h_8 (vin rfl) dX12_lossRate_48 ?_
    refine z_fl (fun v_34 => ?_)
    refine z_l2d B dX12_lossRate_49 ?_
    refine z_fdq (P := fun u9 : UInt64 => sm64 12 u9) (l2d_sm v_34) (fun v_35 q_2 => ?_)
    replace q_2 : sm64 12 v_35 := q_2
    refine z_lload_n B dX12_lossRate_50 rfl 0 rfl ?_
    refine z_l2d B dX12_lossRate_51 ?_
    have q_4 : nn64 (FP.ddiv v_35 (FP.l2d v_18)) := (div_nnw (sm_nn q_2) (l2d_w (fun h8 => c_1 ((lg_cmp_eq _ _).mpr h8))))
    refine z_ddiv B dX12_lossRate_52 (vf_of q_4) ?_
    refine z_fdq (P := fun u9 : UInt64 => nn64 u9) q_4 (fun v_36 q_6 => ?_)
    replace q_6 : nn64 v_36 := q_6
    exact z_ret_d B dX12_lossRate_53 ⟨⟨_, rfl, q_6⟩, rfl, hI2, (fun b9 h9 => ((hF1 b9 (fun j9 h8 h7 => h9 j9 h8 (show j9 = 0 by have h6 : j9 = 0 := h7; omega))).trans ((fset_fr hΦ1 (fun h8 => h9 (0) h8 (show 0 = 0 by omega))).trans rfl)))⟩
  · refine z_iconst (v := 1) B dX12_lossRate_27 rfl ?_
    refine z_goto (tgt := 32) B dX12_lossRate_28 rfl ?_
    refine z_iconst (v := 1) B dX12_lossRate_32 rfl ?_
    refine z_callV (As := [.int 1, .int 1]) (rest := []) B (r_throwsIf G l Φ1 sz x rd fl pe le nx il qu kn ec nu va 1 1 hx hI1 (by decide)) (cwV 2 B.1.2.2.2.2 gX12_lossRate_X12_throwsIf rfl rfl rfl (by decide +kernel) ⟨Nat.le_of_ble_eq_true rfl, Nat.le_of_ble_eq_true rfl⟩) h_3 rfl rfl rfl rfl (Nat.le_of_ble_eq_true rfl) dX12_lossRate_33 ⟨Nat.le_of_ble_eq_true rfl, Nat.le_of_ble_eq_true rfl⟩ (fun r_3 Φ3 sz2 st2 hp2 hs2 => ?_)
    obtain ⟨rfl, hq2, hI3, hF2⟩ := hp2
    subst sz2
    replace hs2 : st2 = [.int 1] := hs2
    subst st2
    replace hI3 : Im G x (rd, NN, fl, pe, le, nx, il, qu, kn, ec, nu, va) Φ3 := hI3
    refine z_if_eq (tgt := 43) B dX12_lossRate_36 rfl (fun h9 => absurd h9 (by decide)) (fun c_3 => ?_)
    refine z_dconst0 B dX12_lossRate_39 ?_
    refine z_goto (tgt := 53) B dX12_lossRate_40 rfl ?_
    exact z_ret_d B dX12_lossRate_53 ⟨⟨_, rfl, (sm_nn sm_zero)⟩, rfl, hI3, (fun b9 h9 => ((hF2 b9 (fun j9 h8 h7 => h9 j9 h8 (show j9 = 0 by have h6 : j9 = 0 := h7; omega))).trans ((fset_fr hΦ1 (fun h8 => h9 (0) h8 (show 0 = 0 by omega))).trans rfl)))⟩

set_option maxHeartbeats 4000000 in
set_option maxRecDepth 100000 in
theorem r_get (G : EnvG) (l : Launch) (Φ : Hm) (sz x : Nat) (rd : (Nat → Int32) → Prop) (fl : Nat) (pe : Nat) (le : Nat) (nx : Nat) (il : Nat) (qu : Nat) (kn : Int32) (ec : Int32) (nu : Int32) (va : Int64) (q : Nat) (n : Nat) (hx : G.2.2.2 ≤ x) (hI : Im G x (rd, NN, fl, pe, le, nx, il, qu, kn, ec, nu, va) Φ) (hn : n ≤ 8) (hq : q + n ≤ 700) : Ct G l yX12_get wsX12_get ({ frames := 0, cells := 0, slots := 0, locals := 0 }) 0 0 [.ref x, .int (nI q), .int (nI n)] Φ sz (fun v Φ1 sz1 => (∃ r9 : Int64, v = some (.long r9) ∧ np n r9) ∧ sz1 = sz ∧ (Im G x (rd, NN, fl, pe, le, nx, il, qu, kn, ec, nu, va) Φ1) ∧ Fr x (fun j9 => False) Φ Φ1) := by
  refine Ct.of (cc := cX12_get) (maxL := 6) (ret := (some .long)) (by decide) rfl (Nat.le_of_ble_eq_true rfl) ?_
  intro p9 e9 s9 m9 w9 t9 k9 B
  show Z p9 l e9 _ s9 m9 _ w9 t9 k9 _ G 6 0 [(0, .ref x), (1, .int (nI q)), (2, .int (nI n))] [] Φ sz 0 0
  refine z_lconst (v := 0) B dX12_get_0 rfl ?_
  refine z_lstore_n (lv' := [(3, .long 0), (0, .ref x), (1, .int (nI q)), (2, .int (nI n))]) B dX12_get_1 rfl (Nat.le_of_ble_eq_true rfl) rfl ?_
  refine z_iload_n B dX12_get_2 rfl 2 rfl ?_
  refine z_istore (lv' := [(5, .int (nI q)), (3, .long 0), (0, .ref x), (1, .int (nI q)), (2, .int (nI n))]) B dX12_get_3 (Nat.le_of_ble_eq_true rfl) rfl ?_
  refine z_lv [0, 1, 2, 3, 4] rfl ?_
  refine z_loop (α := Nat × Int64) (fun (a9 : Nat × Int64) Φi => Im G x (rd, NN, fl, pe, le, nx, il, qu, kn, ec, nu, va) Φi ∧ Fr x (fun j9 => False) Φ Φi ∧ (a9.1 ≤ q + n) ∧ (q ≤ a9.1) ∧ (np (a9.1 - q) a9.2) ∧ True) (fun a9 => [(5, .int (nI (a9.1))), (3, .long a9.2), (0, .ref x), (1, .int (nI q)), (2, .int (nI n))]) (fun a9 => q + n - a9.1) ?_ (q, 0) ⟨hI, fun _ _ => rfl, (show q ≤ q + n by omega), (show q ≤ q by omega), ((show q - q = 0 by omega).symm ▸ np_0), trivial⟩
  rintro ⟨i_1, i_2⟩ Φl1 ⟨hI1, hF1, b_1, b_2, b_3, -⟩ ih1
  replace hI1 : Im G x (rd, NN, fl, pe, le, nx, il, qu, kn, ec, nu, va) Φl1 := hI1
  replace b_1 : i_1 ≤ q + n := b_1
  replace b_2 : q ≤ i_1 := b_2
  replace b_3 : np (i_1 - q) i_2 := b_3
  show Z p9 l e9 _ s9 m9 _ w9 t9 k9 _ G 6 5 [(5, .int (nI i_1)), (3, .long i_2), (0, .ref x), (1, .int (nI q)), (2, .int (nI n))] [] Φl1 _ _ _
  refine z_iload B dX12_get_5 0 rfl ?_
  refine z_iload_n B dX12_get_7 rfl 3 rfl ?_
  refine z_iload_n B dX12_get_8 rfl 4 rfl ?_
  refine z_iadd B dX12_get_9 ?_
  refine z_top (st1 := [.int (nI (q + n)), .int (nI i_1)]) (congrArg (fun w9 : Int32 => ([.int w9, .int (nI i_1)] : List Value)) (nI_add q n)) ?_
  refine z_icmp_ge (tgt := 33) B dX12_get_10 rfl (fun c_1 => ?_) (fun c_1 => ?_)
  · have e_1 : q + n ≤ i_1 := (nI_leI (a := q + n) (b := i_1) (by omega) (by omega)).mp c_1
    have hnp9 : np n i_2 := (show i_1 - q = n by omega) ▸ b_3
    refine z_lload_n B dX12_get_33 rfl 1 rfl ?_
    exact z_ret_l B dX12_get_34 ⟨⟨_, rfl, hnp9⟩, rfl, hI1, (fun b9 h9 => ((hF1 b9 (fun j9 h8 h7 => (show False from h7).elim)).trans rfl))⟩
  · have e_2 : ¬ (q + n ≤ i_1) := fun h9 => c_1 ((nI_leI (a := q + n) (b := i_1) (by omega) (by omega)).mpr h9)
    refine z_lload_n B dX12_get_13 rfl 1 rfl ?_
    refine z_bipush (v := 8) B dX12_get_14 rfl ?_
    refine z_lshl (v := i_2 <<< ((8 : Int32).toInt64 &&& 63)) B dX12_get_16 rfl ?_
    refine z_aload_n B dX12_get_17 rfl 2 rfl ?_
    obtain ⟨v_1, v_2, v_3, n_1, v_4, v_5, v_6, v_7, v_8, v_9, v_10, v_11, v_12, n_2, v_13, n_3, n_4, v_14, v_15, h_1, b_15, b_4, b_5, b_6, b_7, b_8, b_9, b_10, b_11, b_12, b_13, b_14⟩ := im0 hI1
    replace b_4 : 1 ≤ n_1 := b_4
    replace b_5 : n_1 ≤ 1024 := b_5
    replace b_6 : fl ≤ 12 := b_6
    replace b_7 : pe ≤ 24 := b_7
    replace b_8 : le ≤ 700 := b_8
    replace b_9 : qu ≤ 12 := b_9
    replace b_10 : n_2 ≤ 8 := b_10
    replace b_11 : n_3 ≤ 24 := b_11
    replace b_12 : n_4 ≤ 24 := b_12
    replace b_13 : il ≤ 700 := b_13
    replace b_14 : nx ≤ 701 := b_14
    have h_2 : Φl1 x = some (o_ 14 [.int v_1, .ref (x + 1), .ref (x + 2), .int v_2, .int v_3, .int (nI n_1), .int v_4, .int v_5, .ref (x + 3), .ref (x + 4), .int v_6, .long v_7, .ref (x + 5), .int (nI fl), .int v_8, .long v_9, .long v_10, .long v_11, .long v_12, .ref (x + 6), .ref (x + 7), .int (nI pe), .ref (x + 8), .int (nI le), .ref (x + 9), .ref (x + 10), .int (nI qu), .ref (x + 11), .ref (x + 12), .ref (x + 13), .ref (x + 14), .ref (x + 15), .ref (x + 16), .int (nI n_2), .long v_13, .ref (x + 17), .ref (x + 18), .ref (x + 19), .ref (x + 20), .ref (x + 21), .ref (x + 22), .int (nI n_3), .ref (x + 23), .ref (x + 24), .int (nI n_4), .ref (x + 25), .int (nI il), .int (nI nx), .int ec, .int v_14, .int kn, .int v_15, .int nu, .long va]) := h_1
    refine z_get (ref := "FlowExporterModel") (C := RX12) (T := TX12) (N := 54) (ci := 14) (v := .ref (x + 8)) B (by decide +kernel) rfl 22 (by decide) (by decide +kernel) rfl h_2 rfl dX12_get_18 ?_
    refine z_iload B dX12_get_21 0 rfl ?_
    obtain ⟨f_1, h_3, r_1⟩ := imk (k := 8) hI1
    replace r_1 : Rw 255 f_1 := r_1
    have h_4 : Φl1 (x + 8) = some (ai_ G 700 f_1) := h_3
    refine z_iald B h_4 (vp_in_nI (by omega) (by omega)) dX12_get_23 ?_
    obtain ⟨n_5, b_16, e_3⟩ := r_1 ((nI i_1).toNatClampNeg)
    refine z_top (st1 := [.int (nI n_5), .long (i_2 <<< ((8 : Int32).toInt64 &&& 63))]) (congrArg (fun w9 : Int32 => ([.int w9, .long (i_2 <<< ((8 : Int32).toInt64 &&& 63))] : List Value)) (e_3)) ?_
    refine z_i2l (v := (nI n_5).toInt64) B dX12_get_24 rfl ?_
    refine z_lor B dX12_get_25 ?_
    refine z_lstore_n (lv' := [(3, .long ((i_2 <<< ((8 : Int32).toInt64 &&& 63)) ||| ((nI n_5).toInt64))), (5, .int (nI i_1)), (0, .ref x), (1, .int (nI q)), (2, .int (nI n))]) B dX12_get_26 rfl (Nat.le_of_ble_eq_true rfl) rfl ?_
    refine z_iinc (k := 1) (v := nI (i_1 + 1)) (lv' := [(5, .int (nI (i_1 + 1))), (3, .long ((i_2 <<< ((8 : Int32).toInt64 &&& 63)) ||| ((nI n_5).toInt64))), (0, .ref x), (1, .int (nI q)), (2, .int (nI n))]) B dX12_get_27 rfl (nI_add i_1 1) (Nat.le_of_ble_eq_true rfl) rfl ?_
    refine z_goto (tgt := 5) B dX12_get_30 rfl ?_
    refine z_lv [0, 1, 2, 3, 4] rfl ?_
    exact ih1 (i_1 + 1, (i_2 <<< ((8 : Int32).toInt64 &&& 63)) ||| ((nI n_5).toInt64)) Φl1 (show q + n - (i_1 + 1) < q + n - i_1 by omega) ⟨hI1, (fun b9 h9 => ((hF1 b9 (fun j9 h8 h7 => (show False from h7).elim)).trans rfl)), (show (i_1 + 1) ≤ q + n by omega), (show q ≤ (i_1 + 1) by omega), ((show i_1 + 1 - q = (i_1 - q) + 1 by omega) ▸ np_step b_3), trivial⟩

set_option maxHeartbeats 4000000 in
set_option maxRecDepth 100000 in
theorem r_isDouble (G : EnvG) (l : Launch) (Φ : Hm) (sz x : Nat) (rd : (Nat → Int32) → Prop) (fl : Nat) (pe : Nat) (le : Nat) (nx : Nat) (il : Nat) (qu : Nat) (kn : Int32) (ec : Int32) (nu : Int32) (va : Int64) (a : Int64) (b : Int64) (hx : G.2.2.2 ≤ x) (hI : Im G x (rd, NN, fl, pe, le, nx, il, qu, kn, ec, nu, va) Φ)  : Ct G l yX12_isDouble wsX12_isDouble ({ frames := 0, cells := 0, slots := 0, locals := 0 }) 0 0 [.ref x, .long a, .long b] Φ sz (fun v Φ1 sz1 => (∃ r9 : Int32, v = some (.int r9) ∧ (r9 = 0 ∨ r9 = 1)) ∧ sz1 = sz ∧ (Im G x (rd, NN, fl, pe, le, nx, il, qu, kn, ec, nu, va) Φ1) ∧ Fr x (fun j9 => False) Φ Φ1) := by
  refine Ct.of (cc := cX12_isDouble) (maxL := 6) (ret := (some .boolean)) (by decide) rfl (Nat.le_of_ble_eq_true rfl) ?_
  intro p9 e9 s9 m9 w9 t9 k9 B
  show Z p9 l e9 _ s9 m9 _ w9 t9 k9 _ G 6 0 [(0, .ref x), (1, .long a), (3, .long b)] [] Φ sz 0 0
  refine z_iconst (v := 0) B dX12_isDouble_0 rfl ?_
  refine z_istore (lv' := [(5, .int 0), (0, .ref x), (1, .long a), (3, .long b)]) B dX12_isDouble_1 (Nat.le_of_ble_eq_true rfl) rfl ?_
  refine z_lv [0, 1, 2, 3] rfl ?_
  refine z_loop (α := Nat) (fun (a9 : Nat) Φi => Im G x (rd, NN, fl, pe, le, nx, il, qu, kn, ec, nu, va) Φi ∧ Fr x (fun j9 => False) Φ Φi ∧ (a9 ≤ 8) ∧ True) (fun a9 => [(5, .int (nI a9)), (0, .ref x), (1, .long a), (3, .long b)]) (fun a9 => 8 - a9) ?_ (0) ⟨hI, fun _ _ => rfl, (show 0 ≤ 8 by omega), trivial⟩
  rintro i_1 Φl1 ⟨hI1, hF1, b_1, -⟩ ih1
  replace hI1 : Im G x (rd, NN, fl, pe, le, nx, il, qu, kn, ec, nu, va) Φl1 := hI1
  replace b_1 : i_1 ≤ 8 := b_1
  show Z p9 l e9 _ s9 m9 _ w9 t9 k9 _ G 6 3 [(5, .int (nI i_1)), (0, .ref x), (1, .long a), (3, .long b)] [] Φl1 _ _ _
  refine z_iload B dX12_isDouble_3 0 rfl ?_
  refine z_aload_n B dX12_isDouble_5 rfl 1 rfl ?_
  obtain ⟨v_1, v_2, v_3, n_1, v_4, v_5, v_6, v_7, v_8, v_9, v_10, v_11, v_12, n_2, v_13, n_3, n_4, v_14, v_15, h_1, b_13, b_2, b_3, b_4, b_5, b_6, b_7, b_8, b_9, b_10, b_11, b_12⟩ := im0 hI1
  replace b_2 : 1 ≤ n_1 := b_2
  replace b_3 : n_1 ≤ 1024 := b_3
  replace b_4 : fl ≤ 12 := b_4
  replace b_5 : pe ≤ 24 := b_5
  replace b_6 : le ≤ 700 := b_6
  replace b_7 : qu ≤ 12 := b_7
  replace b_8 : n_2 ≤ 8 := b_8
  replace b_9 : n_3 ≤ 24 := b_9
  replace b_10 : n_4 ≤ 24 := b_10
  replace b_11 : il ≤ 700 := b_11
  replace b_12 : nx ≤ 701 := b_12
  have h_2 : Φl1 x = some (o_ 14 [.int v_1, .ref (x + 1), .ref (x + 2), .int v_2, .int v_3, .int (nI n_1), .int v_4, .int v_5, .ref (x + 3), .ref (x + 4), .int v_6, .long v_7, .ref (x + 5), .int (nI fl), .int v_8, .long v_9, .long v_10, .long v_11, .long v_12, .ref (x + 6), .ref (x + 7), .int (nI pe), .ref (x + 8), .int (nI le), .ref (x + 9), .ref (x + 10), .int (nI qu), .ref (x + 11), .ref (x + 12), .ref (x + 13), .ref (x + 14), .ref (x + 15), .ref (x + 16), .int (nI n_2), .long v_13, .ref (x + 17), .ref (x + 18), .ref (x + 19), .ref (x + 20), .ref (x + 21), .ref (x + 22), .int (nI n_3), .ref (x + 23), .ref (x + 24), .int (nI n_4), .ref (x + 25), .int (nI il), .int (nI nx), .int ec, .int v_14, .int kn, .int v_15, .int nu, .long va]) := h_1
  refine z_get (ref := "FlowExporterModel") (C := RX12) (T := TX12) (N := 54) (ci := 14) (v := .int (nI n_2)) B (by decide +kernel) rfl 33 (by decide) (by decide +kernel) rfl h_2 rfl dX12_isDouble_6 ?_
  refine z_icmp_ge (tgt := 44) B dX12_isDouble_9 rfl (fun c_1 => ?_) (fun c_1 => ?_)
  · have e_1 : n_2 ≤ i_1 := (nI_leI (a := n_2) (b := i_1) (by omega) (by omega)).mp c_1
    refine z_iconst (v := 0) B dX12_isDouble_44 rfl ?_
    exact z_ret_z B dX12_isDouble_45 (by decide) ⟨⟨_, rfl, by decide⟩, rfl, hI1, (fun b9 h9 => ((hF1 b9 (fun j9 h8 h7 => (show False from h7).elim)).trans rfl))⟩
  · have e_2 : ¬ (n_2 ≤ i_1) := fun h9 => c_1 ((nI_leI (a := n_2) (b := i_1) (by omega) (by omega)).mpr h9)
    refine z_aload_n B dX12_isDouble_12 rfl 1 rfl ?_
    refine z_get (ref := "FlowExporterModel") (C := RX12) (T := TX12) (N := 54) (ci := 14) (v := .ref (x + 15)) B (by decide +kernel) rfl 31 (by decide) (by decide +kernel) rfl h_2 rfl dX12_isDouble_13 ?_
    refine z_iload B dX12_isDouble_16 0 rfl ?_
    obtain ⟨f_1, h_3⟩ := imk (k := 15) hI1
    have h_4 : Φl1 (x + 15) = some (al_ G 8 f_1) := h_3
    refine z_lald B h_4 (vp_in_nI (by omega) (by omega)) dX12_isDouble_18 ?_
    refine z_fl (fun v_16 => ?_)
    refine z_lload_n B dX12_isDouble_19 rfl 2 rfl ?_
    refine z_lcmp B dX12_isDouble_20 ?_
    refine z_fi (fun v_17 => ?_)
    refine z_if_ne (tgt := 38) B dX12_isDouble_21 rfl (fun c_2 => ?_) (fun c_2 => ?_)
    · refine z_iinc (k := 0) (v := nI (i_1 + 1)) (lv' := [(5, .int (nI (i_1 + 1))), (0, .ref x), (1, .long a), (3, .long b)]) B dX12_isDouble_38 rfl (nI_add i_1 1) (Nat.le_of_ble_eq_true rfl) rfl ?_
      refine z_goto (tgt := 3) B dX12_isDouble_41 rfl ?_
      refine z_lv [0, 1, 2, 3] rfl ?_
      exact ih1 (i_1 + 1) Φl1 (show 8 - (i_1 + 1) < 8 - i_1 by omega) ⟨hI1, (fun b9 h9 => ((hF1 b9 (fun j9 h8 h7 => (show False from h7).elim)).trans rfl)), (show (i_1 + 1) ≤ 8 by omega), trivial⟩
    · refine z_aload_n B dX12_isDouble_24 rfl 1 rfl ?_
      refine z_get (ref := "FlowExporterModel") (C := RX12) (T := TX12) (N := 54) (ci := 14) (v := .ref (x + 16)) B (by decide +kernel) rfl 32 (by decide) (by decide +kernel) rfl h_2 rfl dX12_isDouble_25 ?_
      refine z_iload B dX12_isDouble_28 0 rfl ?_
      obtain ⟨f_2, h_5⟩ := imk (k := 16) hI1
      have h_6 : Φl1 (x + 16) = some (al_ G 8 f_2) := h_5
      refine z_lald B h_6 (vp_in_nI (by omega) (by omega)) dX12_isDouble_30 ?_
      refine z_fl (fun v_18 => ?_)
      refine z_lload_n B dX12_isDouble_31 rfl 3 rfl ?_
      refine z_lcmp B dX12_isDouble_32 ?_
      refine z_fi (fun v_19 => ?_)
      refine z_if_ne (tgt := 38) B dX12_isDouble_33 rfl (fun c_3 => ?_) (fun c_3 => ?_)
      · refine z_iinc (k := 0) (v := nI (i_1 + 1)) (lv' := [(5, .int (nI (i_1 + 1))), (0, .ref x), (1, .long a), (3, .long b)]) B dX12_isDouble_38 rfl (nI_add i_1 1) (Nat.le_of_ble_eq_true rfl) rfl ?_
        refine z_goto (tgt := 3) B dX12_isDouble_41 rfl ?_
        refine z_lv [0, 1, 2, 3] rfl ?_
        exact ih1 (i_1 + 1) Φl1 (show 8 - (i_1 + 1) < 8 - i_1 by omega) ⟨hI1, (fun b9 h9 => ((hF1 b9 (fun j9 h8 h7 => (show False from h7).elim)).trans rfl)), (show (i_1 + 1) ≤ 8 by omega), trivial⟩
      · refine z_iconst (v := 1) B dX12_isDouble_36 rfl ?_
        exact z_ret_z B dX12_isDouble_37 (by decide) ⟨⟨_, rfl, by decide⟩, rfl, hI1, (fun b9 h9 => ((hF1 b9 (fun j9 h8 h7 => (show False from h7).elim)).trans rfl))⟩

set_option maxHeartbeats 4000000 in
set_option maxRecDepth 100000 in
theorem r_account (G : EnvG) (l : Launch) (Φ : Hm) (sz x : Nat) (rd : (Nat → Int32) → Prop) (fl : Nat) (pe : Nat) (le : Nat) (nx : Nat) (il : Nat) (qu : Nat) (kn : Int32) (ec : Int32) (nu : Int32) (va : Int64) (a : Int64) (b : Int64) (d : Int64) (hx : G.2.2.2 ≤ x) (hI : Im G x (rd, NN, fl, pe, le, nx, il, qu, kn, ec, nu, va) Φ)  : Ct G l yX12_account wsX12_account ({ frames := 0, cells := 0, slots := 0, locals := 0 }) 0 0 [.ref x, .long a, .long b, .long d] Φ sz (fun v Φ1 sz1 => (v = none) ∧ sz1 = sz ∧ (Im G x (rd, NN, fl, pe, le, nx, il, qu, kn, ec, nu, va) Φ1) ∧ Fr x (fun j9 => j9 = 0 ∨ j9 = 11 ∨ j9 = 15 ∨ j9 = 16) Φ Φ1) := by
  refine Ct.of (cc := cX12_account) (maxL := 10) (ret := none) (by decide) rfl (Nat.le_of_ble_eq_true rfl) ?_
  intro p9 e9 s9 m9 w9 t9 k9 B
  show Z p9 l e9 _ s9 m9 _ w9 t9 k9 _ G 10 0 [(0, .ref x), (1, .long a), (3, .long b), (5, .long d)] [] Φ sz 0 0
  refine z_join (α := Unit) (fun (a9 : Unit) Φi => Im G x (rd, NN, fl, pe, le, nx, il, qu, kn, ec, nu, va) Φi ∧ Fr x (fun j9 => j9 = 0 ∨ j9 = 11 ∨ j9 = 15 ∨ j9 = 16) Φ Φi ∧ True) (fun a9 => [(0, .ref x), (1, .long a), (3, .long b)]) 152 ?_ (fun J152 => ?_)
  · rintro _ Φj1 ⟨hI1, hF1, -⟩
    replace hI1 : Im G x (rd, NN, fl, pe, le, nx, il, qu, kn, ec, nu, va) Φj1 := hI1
    show Z p9 l e9 _ s9 m9 _ w9 t9 k9 _ G 10 152 [(0, .ref x), (1, .long a), (3, .long b)] [] Φj1 _ _ _
    refine z_aload_n B dX12_account_152 rfl 0 rfl ?_
    refine z_aload_n B dX12_account_153 rfl 0 rfl ?_
    obtain ⟨v_1, v_2, v_3, n_1, v_4, v_5, v_6, v_7, v_8, v_9, v_10, v_11, v_12, n_2, v_13, n_3, n_4, v_14, v_15, h_1, b_12, b_1, b_2, b_3, b_4, b_5, b_6, b_7, b_8, b_9, b_10, b_11⟩ := im0 hI1
    replace b_1 : 1 ≤ n_1 := b_1
    replace b_2 : n_1 ≤ 1024 := b_2
    replace b_3 : fl ≤ 12 := b_3
    replace b_4 : pe ≤ 24 := b_4
    replace b_5 : le ≤ 700 := b_5
    replace b_6 : qu ≤ 12 := b_6
    replace b_7 : n_2 ≤ 8 := b_7
    replace b_8 : n_3 ≤ 24 := b_8
    replace b_9 : n_4 ≤ 24 := b_9
    replace b_10 : il ≤ 700 := b_10
    replace b_11 : nx ≤ 701 := b_11
    have h_2 : Φj1 x = some (o_ 14 [.int v_1, .ref (x + 1), .ref (x + 2), .int v_2, .int v_3, .int (nI n_1), .int v_4, .int v_5, .ref (x + 3), .ref (x + 4), .int v_6, .long v_7, .ref (x + 5), .int (nI fl), .int v_8, .long v_9, .long v_10, .long v_11, .long v_12, .ref (x + 6), .ref (x + 7), .int (nI pe), .ref (x + 8), .int (nI le), .ref (x + 9), .ref (x + 10), .int (nI qu), .ref (x + 11), .ref (x + 12), .ref (x + 13), .ref (x + 14), .ref (x + 15), .ref (x + 16), .int (nI n_2), .long v_13, .ref (x + 17), .ref (x + 18), .ref (x + 19), .ref (x + 20), .ref (x + 21), .ref (x + 22), .int (nI n_3), .ref (x + 23), .ref (x + 24), .int (nI n_4), .ref (x + 25), .int (nI il), .int (nI nx), .int ec, .int v_14, .int kn, .int v_15, .int nu, .long va]) := h_1
    refine z_get (ref := "FlowExporterModel") (C := RX12) (T := TX12) (N := 54) (ci := 14) (v := .int (nI n_2)) B (by decide +kernel) rfl 33 (by decide) (by decide +kernel) rfl h_2 rfl dX12_account_154 ?_
    refine z_bipush (v := 8) B dX12_account_157 rfl ?_
    refine z_icmp_ge (tgt := 171) B dX12_account_159 rfl (fun c_1 => ?_) (fun c_1 => ?_)
    · have e_1 : 8 ≤ n_2 := (nI_leI (a := 8) (b := n_2) (by omega) (by omega)).mp c_1
      refine z_bipush (v := 8) B dX12_account_171 rfl ?_
      refine z_put (ref := "FlowExporterModel") (C := RX12) (T := TX12) (N := 54) (ci := 14) (v := .int 8) B (by decide +kernel) tyX12 tyX12_ok nmX12 rfl 33 (by decide) (by decide +kernel) rfl (Or.inl rfl) h_2 hx rfl rfl (Nat.le_of_ble_eq_true rfl) dX12_account_173 (fun Φ1 hΦ1 => ?_)
      have h_3 : Φ1 x = some (o_ 14 [.int v_1, .ref (x + 1), .ref (x + 2), .int v_2, .int v_3, .int (nI n_1), .int v_4, .int v_5, .ref (x + 3), .ref (x + 4), .int v_6, .long v_7, .ref (x + 5), .int (nI fl), .int v_8, .long v_9, .long v_10, .long v_11, .long v_12, .ref (x + 6), .ref (x + 7), .int (nI pe), .ref (x + 8), .int (nI le), .ref (x + 9), .ref (x + 10), .int (nI qu), .ref (x + 11), .ref (x + 12), .ref (x + 13), .ref (x + 14), .ref (x + 15), .ref (x + 16), .int 8, .long v_13, .ref (x + 17), .ref (x + 18), .ref (x + 19), .ref (x + 20), .ref (x + 21), .ref (x + 22), .int (nI n_3), .ref (x + 23), .ref (x + 24), .int (nI n_4), .ref (x + 25), .int (nI il), .int (nI nx), .int ec, .int v_14, .int kn, .int v_15, .int nu, .long va]) := fset_at hΦ1
      have hI2 : Im G x (rd, NN, fl, pe, le, nx, il, qu, kn, ec, nu, va) Φ1 := Im.put0 hI1 hΦ1 ⟨v_1, v_2, v_3, n_1, v_4, v_5, v_6, v_7, v_8, v_9, v_10, v_11, v_12, 8, v_13, n_3, n_4, v_14, v_15, rfl, b_12, (show 1 ≤ n_1 by omega), (show n_1 ≤ 1024 by omega), (show fl ≤ 12 by omega), (show pe ≤ 24 by omega), (show le ≤ 700 by omega), (show qu ≤ 12 by omega), (show 8 ≤ 8 by omega), (show n_3 ≤ 24 by omega), (show n_4 ≤ 24 by omega), (show il ≤ 700 by omega), (show nx ≤ 701 by omega)⟩
      refine z_aload_n B dX12_account_176 rfl 0 rfl ?_
      refine z_get (ref := "FlowExporterModel") (C := RX12) (T := TX12) (N := 54) (ci := 14) (v := .int 8) B (by decide +kernel) rfl 33 (by decide) (by decide +kernel) rfl h_3 rfl dX12_account_177 ?_
      refine z_iconst (v := 1) B dX12_account_180 rfl ?_
      refine z_isub B dX12_account_181 ?_
      refine z_top (st1 := [.int 7]) (congrArg (fun w9 : Int32 => ([.int w9] : List Value)) (show (8 - 1 : Int32) = 7 by decide +kernel)) ?_
      refine z_istore (lv' := [(9, .int 7), (0, .ref x), (1, .long a), (3, .long b)]) B dX12_account_182 (Nat.le_of_ble_eq_true rfl) rfl ?_
      refine z_lv [0, 1, 2, 3] rfl ?_
      refine z_loop (α := Nat) (fun (a9 : Nat) Φi => Im G x (rd, NN, fl, pe, le, nx, il, qu, kn, ec, nu, va) Φi ∧ Fr x (fun j9 => j9 = 0 ∨ j9 = 11 ∨ j9 = 15 ∨ j9 = 16) Φ1 Φi ∧ (a9 ≤ 7) ∧ True) (fun a9 => [(9, .int (nI a9)), (0, .ref x), (1, .long a), (3, .long b)]) (fun a9 => a9) ?_ (7) ⟨hI2, fun _ _ => rfl, (show 7 ≤ 7 by omega), trivial⟩
      rintro i_1 Φl1 ⟨hI3, hF2, b_13, -⟩ ih1
      replace hI3 : Im G x (rd, NN, fl, pe, le, nx, il, qu, kn, ec, nu, va) Φl1 := hI3
      replace b_13 : i_1 ≤ 7 := b_13
      show Z p9 l e9 _ s9 m9 _ w9 t9 k9 _ G 10 184 [(9, .int (nI i_1)), (0, .ref x), (1, .long a), (3, .long b)] [] Φl1 _ _ _
      refine z_iload B dX12_account_184 0 rfl ?_
      refine z_if_le (tgt := 227) B dX12_account_186 rfl (fun c_2 => ?_) (fun c_2 => ?_)
      · have e_2 : i_1 ≤ 0 := (nI_leI (a := i_1) (b := 0) (by omega) (by omega)).mp c_2
        refine z_aload_n B dX12_account_227 rfl 1 rfl ?_
        obtain ⟨v_16, v_17, v_18, n_5, v_19, v_20, v_21, v_22, v_23, v_24, v_25, v_26, v_27, n_6, v_28, n_7, n_8, v_29, v_30, h_4, b_25, b_14, b_15, b_16, b_17, b_18, b_19, b_20, b_21, b_22, b_23, b_24⟩ := im0 hI3
        replace b_14 : 1 ≤ n_5 := b_14
        replace b_15 : n_5 ≤ 1024 := b_15
        replace b_16 : fl ≤ 12 := b_16
        replace b_17 : pe ≤ 24 := b_17
        replace b_18 : le ≤ 700 := b_18
        replace b_19 : qu ≤ 12 := b_19
        replace b_20 : n_6 ≤ 8 := b_20
        replace b_21 : n_7 ≤ 24 := b_21
        replace b_22 : n_8 ≤ 24 := b_22
        replace b_23 : il ≤ 700 := b_23
        replace b_24 : nx ≤ 701 := b_24
        have h_5 : Φl1 x = some (o_ 14 [.int v_16, .ref (x + 1), .ref (x + 2), .int v_17, .int v_18, .int (nI n_5), .int v_19, .int v_20, .ref (x + 3), .ref (x + 4), .int v_21, .long v_22, .ref (x + 5), .int (nI fl), .int v_23, .long v_24, .long v_25, .long v_26, .long v_27, .ref (x + 6), .ref (x + 7), .int (nI pe), .ref (x + 8), .int (nI le), .ref (x + 9), .ref (x + 10), .int (nI qu), .ref (x + 11), .ref (x + 12), .ref (x + 13), .ref (x + 14), .ref (x + 15), .ref (x + 16), .int (nI n_6), .long v_28, .ref (x + 17), .ref (x + 18), .ref (x + 19), .ref (x + 20), .ref (x + 21), .ref (x + 22), .int (nI n_7), .ref (x + 23), .ref (x + 24), .int (nI n_8), .ref (x + 25), .int (nI il), .int (nI nx), .int ec, .int v_29, .int kn, .int v_30, .int nu, .long va]) := h_4
        refine z_get (ref := "FlowExporterModel") (C := RX12) (T := TX12) (N := 54) (ci := 14) (v := .ref (x + 15)) B (by decide +kernel) rfl 31 (by decide) (by decide +kernel) rfl h_5 rfl dX12_account_228 ?_
        refine z_iconst (v := 0) B dX12_account_231 rfl ?_
        refine z_lload_n B dX12_account_232 rfl 2 rfl ?_
        obtain ⟨f_1, h_6⟩ := imk (k := 15) hI3
        have h_7 : Φl1 (x + 15) = some (al_ G 8 f_1) := h_6
        refine z_last B h_7 (Nat.le_trans hx (Nat.le_add_right x 15)) (vin rfl) dX12_account_233 (fun Φ2 hΦ2 => ?_)
        have h_8 : Φ2 (x + 15) = some (al_ G 8 (vp_updL f_1 (0 : Int32).toNatClampNeg a)) := fset_at hΦ2
        have hI4 : Im G x (rd, NN, fl, pe, le, nx, il, qu, kn, ec, nu, va) Φ2 := Im.put (k := 15) hI3 hΦ2 ⟨_, rfl⟩
        refine z_aload_n B dX12_account_234 rfl 1 rfl ?_
        have h_9 : Φ2 x = some (o_ 14 [.int v_16, .ref (x + 1), .ref (x + 2), .int v_17, .int v_18, .int (nI n_5), .int v_19, .int v_20, .ref (x + 3), .ref (x + 4), .int v_21, .long v_22, .ref (x + 5), .int (nI fl), .int v_23, .long v_24, .long v_25, .long v_26, .long v_27, .ref (x + 6), .ref (x + 7), .int (nI pe), .ref (x + 8), .int (nI le), .ref (x + 9), .ref (x + 10), .int (nI qu), .ref (x + 11), .ref (x + 12), .ref (x + 13), .ref (x + 14), .ref (x + 15), .ref (x + 16), .int (nI n_6), .long v_28, .ref (x + 17), .ref (x + 18), .ref (x + 19), .ref (x + 20), .ref (x + 21), .ref (x + 22), .int (nI n_7), .ref (x + 23), .ref (x + 24), .int (nI n_8), .ref (x + 25), .int (nI il), .int (nI nx), .int ec, .int v_29, .int kn, .int v_30, .int nu, .long va]) := ((fset_fr hΦ2 (ne_off (x := x) (i := 0) (j := 15) rfl)).trans h_5)
        refine z_get (ref := "FlowExporterModel") (C := RX12) (T := TX12) (N := 54) (ci := 14) (v := .ref (x + 16)) B (by decide +kernel) rfl 32 (by decide) (by decide +kernel) rfl h_9 rfl dX12_account_235 ?_
        refine z_iconst (v := 0) B dX12_account_238 rfl ?_
        refine z_lload_n B dX12_account_239 rfl 3 rfl ?_
        obtain ⟨f_2, h_10⟩ := imk (k := 16) hI4
        have h_11 : Φ2 (x + 16) = some (al_ G 8 f_2) := h_10
        refine z_last B h_11 (Nat.le_trans hx (Nat.le_add_right x 16)) (vin rfl) dX12_account_240 (fun Φ3 hΦ3 => ?_)
        have h_12 : Φ3 (x + 16) = some (al_ G 8 (vp_updL f_2 (0 : Int32).toNatClampNeg b)) := fset_at hΦ3
        have hI5 : Im G x (rd, NN, fl, pe, le, nx, il, qu, kn, ec, nu, va) Φ3 := Im.put (k := 16) hI4 hΦ3 ⟨_, rfl⟩
        exact z_ret_v B dX12_account_241 ⟨rfl, rfl, hI5, (fun b9 h9 => ((fset_fr hΦ3 (fun h8 => h9 (16) h8 (show 16 = 0 ∨ 16 = 11 ∨ 16 = 15 ∨ 16 = 16 by omega))).trans ((fset_fr hΦ2 (fun h8 => h9 (15) h8 (show 15 = 0 ∨ 15 = 11 ∨ 15 = 15 ∨ 15 = 16 by omega))).trans ((hF2 b9 (fun j9 h8 h7 => h9 j9 h8 (show j9 = 0 ∨ j9 = 11 ∨ j9 = 15 ∨ j9 = 16 by have h6 : j9 = 0 ∨ j9 = 11 ∨ j9 = 15 ∨ j9 = 16 := h7; omega))).trans ((fset_fr hΦ1 (fun h8 => h9 (0) h8 (show 0 = 0 ∨ 0 = 11 ∨ 0 = 15 ∨ 0 = 16 by omega))).trans ((hF1 b9 (fun j9 h8 h7 => h9 j9 h8 (show j9 = 0 ∨ j9 = 11 ∨ j9 = 15 ∨ j9 = 16 by have h6 : j9 = 0 ∨ j9 = 11 ∨ j9 = 15 ∨ j9 = 16 := h7; omega))).trans rfl))))))⟩
      · have e_3 : ¬ (i_1 ≤ 0) := fun h9 => c_2 ((nI_leI (a := i_1) (b := 0) (by omega) (by omega)).mpr h9)
        refine z_aload_n B dX12_account_189 rfl 1 rfl ?_
        obtain ⟨v_31, v_32, v_33, n_9, v_34, v_35, v_36, v_37, v_38, v_39, v_40, v_41, v_42, n_10, v_43, n_11, n_12, v_44, v_45, h_13, b_37, b_26, b_27, b_28, b_29, b_30, b_31, b_32, b_33, b_34, b_35, b_36⟩ := im0 hI3
        replace b_26 : 1 ≤ n_9 := b_26
        replace b_27 : n_9 ≤ 1024 := b_27
        replace b_28 : fl ≤ 12 := b_28
        replace b_29 : pe ≤ 24 := b_29
        replace b_30 : le ≤ 700 := b_30
        replace b_31 : qu ≤ 12 := b_31
        replace b_32 : n_10 ≤ 8 := b_32
        replace b_33 : n_11 ≤ 24 := b_33
        replace b_34 : n_12 ≤ 24 := b_34
        replace b_35 : il ≤ 700 := b_35
        replace b_36 : nx ≤ 701 := b_36
        have h_14 : Φl1 x = some (o_ 14 [.int v_31, .ref (x + 1), .ref (x + 2), .int v_32, .int v_33, .int (nI n_9), .int v_34, .int v_35, .ref (x + 3), .ref (x + 4), .int v_36, .long v_37, .ref (x + 5), .int (nI fl), .int v_38, .long v_39, .long v_40, .long v_41, .long v_42, .ref (x + 6), .ref (x + 7), .int (nI pe), .ref (x + 8), .int (nI le), .ref (x + 9), .ref (x + 10), .int (nI qu), .ref (x + 11), .ref (x + 12), .ref (x + 13), .ref (x + 14), .ref (x + 15), .ref (x + 16), .int (nI n_10), .long v_43, .ref (x + 17), .ref (x + 18), .ref (x + 19), .ref (x + 20), .ref (x + 21), .ref (x + 22), .int (nI n_11), .ref (x + 23), .ref (x + 24), .int (nI n_12), .ref (x + 25), .int (nI il), .int (nI nx), .int ec, .int v_44, .int kn, .int v_45, .int nu, .long va]) := h_13
        refine z_get (ref := "FlowExporterModel") (C := RX12) (T := TX12) (N := 54) (ci := 14) (v := .ref (x + 15)) B (by decide +kernel) rfl 31 (by decide) (by decide +kernel) rfl h_14 rfl dX12_account_190 ?_
        refine z_iload B dX12_account_193 0 rfl ?_
        refine z_aload_n B dX12_account_195 rfl 1 rfl ?_
        refine z_get (ref := "FlowExporterModel") (C := RX12) (T := TX12) (N := 54) (ci := 14) (v := .ref (x + 15)) B (by decide +kernel) rfl 31 (by decide) (by decide +kernel) rfl h_14 rfl dX12_account_196 ?_
        refine z_iload B dX12_account_199 0 rfl ?_
        refine z_iconst (v := 1) B dX12_account_201 rfl ?_
        refine z_isub B dX12_account_202 ?_
        refine z_top (st1 := [.int (nI (i_1 - 1)), .ref (x + 15), .int (nI i_1), .ref (x + 15)]) (congrArg (fun w9 : Int32 => ([.int w9, .ref (x + 15), .int (nI i_1), .ref (x + 15)] : List Value)) (nI_sub (show 1 ≤ i_1 by omega))) ?_
        obtain ⟨f_3, h_15⟩ := imk (k := 15) hI3
        have h_16 : Φl1 (x + 15) = some (al_ G 8 f_3) := h_15
        refine z_lald B h_16 (vp_in_nI (by omega) (by omega)) dX12_account_203 ?_
        refine z_fl (fun v_46 => ?_)
        refine z_last B h_16 (Nat.le_trans hx (Nat.le_add_right x 15)) (vp_in_nI (by omega) (by omega)) dX12_account_204 (fun Φ4 hΦ4 => ?_)
        have h_17 : Φ4 (x + 15) = some (al_ G 8 (vp_updL f_3 (nI i_1).toNatClampNeg v_46)) := fset_at hΦ4
        have hI6 : Im G x (rd, NN, fl, pe, le, nx, il, qu, kn, ec, nu, va) Φ4 := Im.put (k := 15) hI3 hΦ4 ⟨_, rfl⟩
        refine z_aload_n B dX12_account_205 rfl 1 rfl ?_
        have h_18 : Φ4 x = some (o_ 14 [.int v_31, .ref (x + 1), .ref (x + 2), .int v_32, .int v_33, .int (nI n_9), .int v_34, .int v_35, .ref (x + 3), .ref (x + 4), .int v_36, .long v_37, .ref (x + 5), .int (nI fl), .int v_38, .long v_39, .long v_40, .long v_41, .long v_42, .ref (x + 6), .ref (x + 7), .int (nI pe), .ref (x + 8), .int (nI le), .ref (x + 9), .ref (x + 10), .int (nI qu), .ref (x + 11), .ref (x + 12), .ref (x + 13), .ref (x + 14), .ref (x + 15), .ref (x + 16), .int (nI n_10), .long v_43, .ref (x + 17), .ref (x + 18), .ref (x + 19), .ref (x + 20), .ref (x + 21), .ref (x + 22), .int (nI n_11), .ref (x + 23), .ref (x + 24), .int (nI n_12), .ref (x + 25), .int (nI il), .int (nI nx), .int ec, .int v_44, .int kn, .int v_45, .int nu, .long va]) := ((fset_fr hΦ4 (ne_off (x := x) (i := 0) (j := 15) rfl)).trans h_14)
        refine z_get (ref := "FlowExporterModel") (C := RX12) (T := TX12) (N := 54) (ci := 14) (v := .ref (x + 16)) B (by decide +kernel) rfl 32 (by decide) (by decide +kernel) rfl h_18 rfl dX12_account_206 ?_
        refine z_iload B dX12_account_209 0 rfl ?_
        refine z_aload_n B dX12_account_211 rfl 1 rfl ?_
        refine z_get (ref := "FlowExporterModel") (C := RX12) (T := TX12) (N := 54) (ci := 14) (v := .ref (x + 16)) B (by decide +kernel) rfl 32 (by decide) (by decide +kernel) rfl h_18 rfl dX12_account_212 ?_
        refine z_iload B dX12_account_215 0 rfl ?_
        refine z_iconst (v := 1) B dX12_account_217 rfl ?_
        refine z_isub B dX12_account_218 ?_
        refine z_top (st1 := [.int (nI (i_1 - 1)), .ref (x + 16), .int (nI i_1), .ref (x + 16)]) (congrArg (fun w9 : Int32 => ([.int w9, .ref (x + 16), .int (nI i_1), .ref (x + 16)] : List Value)) (nI_sub (show 1 ≤ i_1 by omega))) ?_
        obtain ⟨f_4, h_19⟩ := imk (k := 16) hI6
        have h_20 : Φ4 (x + 16) = some (al_ G 8 f_4) := h_19
        refine z_lald B h_20 (vp_in_nI (by omega) (by omega)) dX12_account_219 ?_
        refine z_fl (fun v_47 => ?_)
        refine z_last B h_20 (Nat.le_trans hx (Nat.le_add_right x 16)) (vp_in_nI (by omega) (by omega)) dX12_account_220 (fun Φ5 hΦ5 => ?_)
        have h_21 : Φ5 (x + 16) = some (al_ G 8 (vp_updL f_4 (nI i_1).toNatClampNeg v_47)) := fset_at hΦ5
        have hI7 : Im G x (rd, NN, fl, pe, le, nx, il, qu, kn, ec, nu, va) Φ5 := Im.put (k := 16) hI6 hΦ5 ⟨_, rfl⟩
        refine z_iinc (k := 0) (v := nI (i_1 - 1)) (lv' := [(9, .int (nI (i_1 - 1))), (0, .ref x), (1, .long a), (3, .long b)]) B dX12_account_221 rfl (nI_m1 (show 1 ≤ i_1 by omega)) (Nat.le_of_ble_eq_true rfl) rfl ?_
        refine z_goto (tgt := 184) B dX12_account_224 rfl ?_
        refine z_lv [0, 1, 2, 3] rfl ?_
        exact ih1 (i_1 - 1) Φ5 (show (i_1 - 1) < i_1 by omega) ⟨hI7, (fun b9 h9 => ((fset_fr hΦ5 (fun h8 => h9 (16) h8 (show 16 = 0 ∨ 16 = 11 ∨ 16 = 15 ∨ 16 = 16 by omega))).trans ((fset_fr hΦ4 (fun h8 => h9 (15) h8 (show 15 = 0 ∨ 15 = 11 ∨ 15 = 15 ∨ 15 = 16 by omega))).trans ((hF2 b9 (fun j9 h8 h7 => h9 j9 h8 (show j9 = 0 ∨ j9 = 11 ∨ j9 = 15 ∨ j9 = 16 by have h6 : j9 = 0 ∨ j9 = 11 ∨ j9 = 15 ∨ j9 = 16 := h7; omega))).trans rfl)))), (show (i_1 - 1) ≤ 7 by omega), trivial⟩
    · have e_4 : ¬ (8 ≤ n_2) := fun h9 => c_1 ((nI_leI (a := 8) (b := n_2) (by omega) (by omega)).mpr h9)
      refine z_aload_n B dX12_account_162 rfl 0 rfl ?_
      refine z_get (ref := "FlowExporterModel") (C := RX12) (T := TX12) (N := 54) (ci := 14) (v := .int (nI n_2)) B (by decide +kernel) rfl 33 (by decide) (by decide +kernel) rfl h_2 rfl dX12_account_163 ?_
      refine z_iconst (v := 1) B dX12_account_166 rfl ?_
      refine z_iadd B dX12_account_167 ?_
      refine z_top (st1 := [.int (nI (n_2 + 1)), .ref x]) (congrArg (fun w9 : Int32 => ([.int w9, .ref x] : List Value)) (nI_add n_2 1)) ?_
      refine z_goto (tgt := 173) B dX12_account_168 rfl ?_
      refine z_put (ref := "FlowExporterModel") (C := RX12) (T := TX12) (N := 54) (ci := 14) (v := .int (nI (n_2 + 1))) B (by decide +kernel) tyX12 tyX12_ok nmX12 rfl 33 (by decide) (by decide +kernel) rfl (Or.inl rfl) h_2 hx rfl rfl (Nat.le_of_ble_eq_true rfl) dX12_account_173 (fun Φ6 hΦ6 => ?_)
      have h_22 : Φ6 x = some (o_ 14 [.int v_1, .ref (x + 1), .ref (x + 2), .int v_2, .int v_3, .int (nI n_1), .int v_4, .int v_5, .ref (x + 3), .ref (x + 4), .int v_6, .long v_7, .ref (x + 5), .int (nI fl), .int v_8, .long v_9, .long v_10, .long v_11, .long v_12, .ref (x + 6), .ref (x + 7), .int (nI pe), .ref (x + 8), .int (nI le), .ref (x + 9), .ref (x + 10), .int (nI qu), .ref (x + 11), .ref (x + 12), .ref (x + 13), .ref (x + 14), .ref (x + 15), .ref (x + 16), .int (nI (n_2 + 1)), .long v_13, .ref (x + 17), .ref (x + 18), .ref (x + 19), .ref (x + 20), .ref (x + 21), .ref (x + 22), .int (nI n_3), .ref (x + 23), .ref (x + 24), .int (nI n_4), .ref (x + 25), .int (nI il), .int (nI nx), .int ec, .int v_14, .int kn, .int v_15, .int nu, .long va]) := fset_at hΦ6
      have hI8 : Im G x (rd, NN, fl, pe, le, nx, il, qu, kn, ec, nu, va) Φ6 := Im.put0 hI1 hΦ6 ⟨v_1, v_2, v_3, n_1, v_4, v_5, v_6, v_7, v_8, v_9, v_10, v_11, v_12, n_2 + 1, v_13, n_3, n_4, v_14, v_15, rfl, b_12, (show 1 ≤ n_1 by omega), (show n_1 ≤ 1024 by omega), (show fl ≤ 12 by omega), (show pe ≤ 24 by omega), (show le ≤ 700 by omega), (show qu ≤ 12 by omega), (show (n_2 + 1) ≤ 8 by omega), (show n_3 ≤ 24 by omega), (show n_4 ≤ 24 by omega), (show il ≤ 700 by omega), (show nx ≤ 701 by omega)⟩
      refine z_aload_n B dX12_account_176 rfl 0 rfl ?_
      refine z_get (ref := "FlowExporterModel") (C := RX12) (T := TX12) (N := 54) (ci := 14) (v := .int (nI (n_2 + 1))) B (by decide +kernel) rfl 33 (by decide) (by decide +kernel) rfl h_22 rfl dX12_account_177 ?_
      refine z_iconst (v := 1) B dX12_account_180 rfl ?_
      refine z_isub B dX12_account_181 ?_
      refine z_top (st1 := [.int (nI ((n_2 + 1) - 1))]) (congrArg (fun w9 : Int32 => ([.int w9] : List Value)) (nI_sub (show 1 ≤ n_2 + 1 by omega))) ?_
      refine z_istore (lv' := [(9, .int (nI ((n_2 + 1) - 1))), (0, .ref x), (1, .long a), (3, .long b)]) B dX12_account_182 (Nat.le_of_ble_eq_true rfl) rfl ?_
      refine z_lv [0, 1, 2, 3] rfl ?_
      refine z_loop (α := Nat) (fun (a9 : Nat) Φi => Im G x (rd, NN, fl, pe, le, nx, il, qu, kn, ec, nu, va) Φi ∧ Fr x (fun j9 => j9 = 0 ∨ j9 = 11 ∨ j9 = 15 ∨ j9 = 16) Φ6 Φi ∧ (a9 ≤ 7) ∧ True) (fun a9 => [(9, .int (nI a9)), (0, .ref x), (1, .long a), (3, .long b)]) (fun a9 => a9) ?_ ((n_2 + 1) - 1) ⟨hI8, fun _ _ => rfl, (show ((n_2 + 1) - 1) ≤ 7 by omega), trivial⟩
      rintro i_2 Φl2 ⟨hI9, hF3, b_38, -⟩ ih2
      replace hI9 : Im G x (rd, NN, fl, pe, le, nx, il, qu, kn, ec, nu, va) Φl2 := hI9
      replace b_38 : i_2 ≤ 7 := b_38
      show Z p9 l e9 _ s9 m9 _ w9 t9 k9 _ G 10 184 [(9, .int (nI i_2)), (0, .ref x), (1, .long a), (3, .long b)] [] Φl2 _ _ _
      refine z_iload B dX12_account_184 0 rfl ?_
      refine z_if_le (tgt := 227) B dX12_account_186 rfl (fun c_3 => ?_) (fun c_3 => ?_)
      · have e_5 : i_2 ≤ 0 := (nI_leI (a := i_2) (b := 0) (by omega) (by omega)).mp c_3
        refine z_aload_n B dX12_account_227 rfl 1 rfl ?_
        obtain ⟨v_48, v_49, v_50, n_13, v_51, v_52, v_53, v_54, v_55, v_56, v_57, v_58, v_59, n_14, v_60, n_15, n_16, v_61, v_62, h_23, b_50, b_39, b_40, b_41, b_42, b_43, b_44, b_45, b_46, b_47, b_48, b_49⟩ := im0 hI9
        replace b_39 : 1 ≤ n_13 := b_39
        replace b_40 : n_13 ≤ 1024 := b_40
        replace b_41 : fl ≤ 12 := b_41
        replace b_42 : pe ≤ 24 := b_42
        replace b_43 : le ≤ 700 := b_43
        replace b_44 : qu ≤ 12 := b_44
        replace b_45 : n_14 ≤ 8 := b_45
        replace b_46 : n_15 ≤ 24 := b_46
        replace b_47 : n_16 ≤ 24 := b_47
        replace b_48 : il ≤ 700 := b_48
        replace b_49 : nx ≤ 701 := b_49
        have h_24 : Φl2 x = some (o_ 14 [.int v_48, .ref (x + 1), .ref (x + 2), .int v_49, .int v_50, .int (nI n_13), .int v_51, .int v_52, .ref (x + 3), .ref (x + 4), .int v_53, .long v_54, .ref (x + 5), .int (nI fl), .int v_55, .long v_56, .long v_57, .long v_58, .long v_59, .ref (x + 6), .ref (x + 7), .int (nI pe), .ref (x + 8), .int (nI le), .ref (x + 9), .ref (x + 10), .int (nI qu), .ref (x + 11), .ref (x + 12), .ref (x + 13), .ref (x + 14), .ref (x + 15), .ref (x + 16), .int (nI n_14), .long v_60, .ref (x + 17), .ref (x + 18), .ref (x + 19), .ref (x + 20), .ref (x + 21), .ref (x + 22), .int (nI n_15), .ref (x + 23), .ref (x + 24), .int (nI n_16), .ref (x + 25), .int (nI il), .int (nI nx), .int ec, .int v_61, .int kn, .int v_62, .int nu, .long va]) := h_23
        refine z_get (ref := "FlowExporterModel") (C := RX12) (T := TX12) (N := 54) (ci := 14) (v := .ref (x + 15)) B (by decide +kernel) rfl 31 (by decide) (by decide +kernel) rfl h_24 rfl dX12_account_228 ?_
        refine z_iconst (v := 0) B dX12_account_231 rfl ?_
        refine z_lload_n B dX12_account_232 rfl 2 rfl ?_
        obtain ⟨f_5, h_25⟩ := imk (k := 15) hI9
        have h_26 : Φl2 (x + 15) = some (al_ G 8 f_5) := h_25
        refine z_last B h_26 (Nat.le_trans hx (Nat.le_add_right x 15)) (vin rfl) dX12_account_233 (fun Φ7 hΦ7 => ?_)
        have h_27 : Φ7 (x + 15) = some (al_ G 8 (vp_updL f_5 (0 : Int32).toNatClampNeg a)) := fset_at hΦ7
        have hI10 : Im G x (rd, NN, fl, pe, le, nx, il, qu, kn, ec, nu, va) Φ7 := Im.put (k := 15) hI9 hΦ7 ⟨_, rfl⟩
        refine z_aload_n B dX12_account_234 rfl 1 rfl ?_
        have h_28 : Φ7 x = some (o_ 14 [.int v_48, .ref (x + 1), .ref (x + 2), .int v_49, .int v_50, .int (nI n_13), .int v_51, .int v_52, .ref (x + 3), .ref (x + 4), .int v_53, .long v_54, .ref (x + 5), .int (nI fl), .int v_55, .long v_56, .long v_57, .long v_58, .long v_59, .ref (x + 6), .ref (x + 7), .int (nI pe), .ref (x + 8), .int (nI le), .ref (x + 9), .ref (x + 10), .int (nI qu), .ref (x + 11), .ref (x + 12), .ref (x + 13), .ref (x + 14), .ref (x + 15), .ref (x + 16), .int (nI n_14), .long v_60, .ref (x + 17), .ref (x + 18), .ref (x + 19), .ref (x + 20), .ref (x + 21), .ref (x + 22), .int (nI n_15), .ref (x + 23), .ref (x + 24), .int (nI n_16), .ref (x + 25), .int (nI il), .int (nI nx), .int ec, .int v_61, .int kn, .int v_62, .int nu, .long va]) := ((fset_fr hΦ7 (ne_off (x := x) (i := 0) (j := 15) rfl)).trans h_24)
        refine z_get (ref := "FlowExporterModel") (C := RX12) (T := TX12) (N := 54) (ci := 14) (v := .ref (x + 16)) B (by decide +kernel) rfl 32 (by decide) (by decide +kernel) rfl h_28 rfl dX12_account_235 ?_
        refine z_iconst (v := 0) B dX12_account_238 rfl ?_
        refine z_lload_n B dX12_account_239 rfl 3 rfl ?_
        obtain ⟨f_6, h_29⟩ := imk (k := 16) hI10
        have h_30 : Φ7 (x + 16) = some (al_ G 8 f_6) := h_29
        refine z_last B h_30 (Nat.le_trans hx (Nat.le_add_right x 16)) (vin rfl) dX12_account_240 (fun Φ8 hΦ8 => ?_)
        have h_31 : Φ8 (x + 16) = some (al_ G 8 (vp_updL f_6 (0 : Int32).toNatClampNeg b)) := fset_at hΦ8
        have hI11 : Im G x (rd, NN, fl, pe, le, nx, il, qu, kn, ec, nu, va) Φ8 := Im.put (k := 16) hI10 hΦ8 ⟨_, rfl⟩
        exact z_ret_v B dX12_account_241 ⟨rfl, rfl, hI11, (fun b9 h9 => ((fset_fr hΦ8 (fun h8 => h9 (16) h8 (show 16 = 0 ∨ 16 = 11 ∨ 16 = 15 ∨ 16 = 16 by omega))).trans ((fset_fr hΦ7 (fun h8 => h9 (15) h8 (show 15 = 0 ∨ 15 = 11 ∨ 15 = 15 ∨ 15 = 16 by omega))).trans ((hF3 b9 (fun j9 h8 h7 => h9 j9 h8 (show j9 = 0 ∨ j9 = 11 ∨ j9 = 15 ∨ j9 = 16 by have h6 : j9 = 0 ∨ j9 = 11 ∨ j9 = 15 ∨ j9 = 16 := h7; omega))).trans ((fset_fr hΦ6 (fun h8 => h9 (0) h8 (show 0 = 0 ∨ 0 = 11 ∨ 0 = 15 ∨ 0 = 16 by omega))).trans ((hF1 b9 (fun j9 h8 h7 => h9 j9 h8 (show j9 = 0 ∨ j9 = 11 ∨ j9 = 15 ∨ j9 = 16 by have h6 : j9 = 0 ∨ j9 = 11 ∨ j9 = 15 ∨ j9 = 16 := h7; omega))).trans rfl))))))⟩
      · have e_6 : ¬ (i_2 ≤ 0) := fun h9 => c_3 ((nI_leI (a := i_2) (b := 0) (by omega) (by omega)).mpr h9)
        refine z_aload_n B dX12_account_189 rfl 1 rfl ?_
        obtain ⟨v_63, v_64, v_65, n_17, v_66, v_67, v_68, v_69, v_70, v_71, v_72, v_73, v_74, n_18, v_75, n_19, n_20, v_76, v_77, h_32, b_62, b_51, b_52, b_53, b_54, b_55, b_56, b_57, b_58, b_59, b_60, b_61⟩ := im0 hI9
        replace b_51 : 1 ≤ n_17 := b_51
        replace b_52 : n_17 ≤ 1024 := b_52
        replace b_53 : fl ≤ 12 := b_53
        replace b_54 : pe ≤ 24 := b_54
        replace b_55 : le ≤ 700 := b_55
        replace b_56 : qu ≤ 12 := b_56
        replace b_57 : n_18 ≤ 8 := b_57
        replace b_58 : n_19 ≤ 24 := b_58
        replace b_59 : n_20 ≤ 24 := b_59
        replace b_60 : il ≤ 700 := b_60
        replace b_61 : nx ≤ 701 := b_61
        have h_33 : Φl2 x = some (o_ 14 [.int v_63, .ref (x + 1), .ref (x + 2), .int v_64, .int v_65, .int (nI n_17), .int v_66, .int v_67, .ref (x + 3), .ref (x + 4), .int v_68, .long v_69, .ref (x + 5), .int (nI fl), .int v_70, .long v_71, .long v_72, .long v_73, .long v_74, .ref (x + 6), .ref (x + 7), .int (nI pe), .ref (x + 8), .int (nI le), .ref (x + 9), .ref (x + 10), .int (nI qu), .ref (x + 11), .ref (x + 12), .ref (x + 13), .ref (x + 14), .ref (x + 15), .ref (x + 16), .int (nI n_18), .long v_75, .ref (x + 17), .ref (x + 18), .ref (x + 19), .ref (x + 20), .ref (x + 21), .ref (x + 22), .int (nI n_19), .ref (x + 23), .ref (x + 24), .int (nI n_20), .ref (x + 25), .int (nI il), .int (nI nx), .int ec, .int v_76, .int kn, .int v_77, .int nu, .long va]) := h_32
        refine z_get (ref := "FlowExporterModel") (C := RX12) (T := TX12) (N := 54) (ci := 14) (v := .ref (x + 15)) B (by decide +kernel) rfl 31 (by decide) (by decide +kernel) rfl h_33 rfl dX12_account_190 ?_
        refine z_iload B dX12_account_193 0 rfl ?_
        refine z_aload_n B dX12_account_195 rfl 1 rfl ?_
        refine z_get (ref := "FlowExporterModel") (C := RX12) (T := TX12) (N := 54) (ci := 14) (v := .ref (x + 15)) B (by decide +kernel) rfl 31 (by decide) (by decide +kernel) rfl h_33 rfl dX12_account_196 ?_
        refine z_iload B dX12_account_199 0 rfl ?_
        refine z_iconst (v := 1) B dX12_account_201 rfl ?_
        refine z_isub B dX12_account_202 ?_
        refine z_top (st1 := [.int (nI (i_2 - 1)), .ref (x + 15), .int (nI i_2), .ref (x + 15)]) (congrArg (fun w9 : Int32 => ([.int w9, .ref (x + 15), .int (nI i_2), .ref (x + 15)] : List Value)) (nI_sub (show 1 ≤ i_2 by omega))) ?_
        obtain ⟨f_7, h_34⟩ := imk (k := 15) hI9
        have h_35 : Φl2 (x + 15) = some (al_ G 8 f_7) := h_34
        refine z_lald B h_35 (vp_in_nI (by omega) (by omega)) dX12_account_203 ?_
        refine z_fl (fun v_78 => ?_)
        refine z_last B h_35 (Nat.le_trans hx (Nat.le_add_right x 15)) (vp_in_nI (by omega) (by omega)) dX12_account_204 (fun Φ9 hΦ9 => ?_)
        have h_36 : Φ9 (x + 15) = some (al_ G 8 (vp_updL f_7 (nI i_2).toNatClampNeg v_78)) := fset_at hΦ9
        have hI12 : Im G x (rd, NN, fl, pe, le, nx, il, qu, kn, ec, nu, va) Φ9 := Im.put (k := 15) hI9 hΦ9 ⟨_, rfl⟩
        refine z_aload_n B dX12_account_205 rfl 1 rfl ?_
        have h_37 : Φ9 x = some (o_ 14 [.int v_63, .ref (x + 1), .ref (x + 2), .int v_64, .int v_65, .int (nI n_17), .int v_66, .int v_67, .ref (x + 3), .ref (x + 4), .int v_68, .long v_69, .ref (x + 5), .int (nI fl), .int v_70, .long v_71, .long v_72, .long v_73, .long v_74, .ref (x + 6), .ref (x + 7), .int (nI pe), .ref (x + 8), .int (nI le), .ref (x + 9), .ref (x + 10), .int (nI qu), .ref (x + 11), .ref (x + 12), .ref (x + 13), .ref (x + 14), .ref (x + 15), .ref (x + 16), .int (nI n_18), .long v_75, .ref (x + 17), .ref (x + 18), .ref (x + 19), .ref (x + 20), .ref (x + 21), .ref (x + 22), .int (nI n_19), .ref (x + 23), .ref (x + 24), .int (nI n_20), .ref (x + 25), .int (nI il), .int (nI nx), .int ec, .int v_76, .int kn, .int v_77, .int nu, .long va]) := ((fset_fr hΦ9 (ne_off (x := x) (i := 0) (j := 15) rfl)).trans h_33)
        refine z_get (ref := "FlowExporterModel") (C := RX12) (T := TX12) (N := 54) (ci := 14) (v := .ref (x + 16)) B (by decide +kernel) rfl 32 (by decide) (by decide +kernel) rfl h_37 rfl dX12_account_206 ?_
        refine z_iload B dX12_account_209 0 rfl ?_
        refine z_aload_n B dX12_account_211 rfl 1 rfl ?_
        refine z_get (ref := "FlowExporterModel") (C := RX12) (T := TX12) (N := 54) (ci := 14) (v := .ref (x + 16)) B (by decide +kernel) rfl 32 (by decide) (by decide +kernel) rfl h_37 rfl dX12_account_212 ?_
        refine z_iload B dX12_account_215 0 rfl ?_
        refine z_iconst (v := 1) B dX12_account_217 rfl ?_
        refine z_isub B dX12_account_218 ?_
        refine z_top (st1 := [.int (nI (i_2 - 1)), .ref (x + 16), .int (nI i_2), .ref (x + 16)]) (congrArg (fun w9 : Int32 => ([.int w9, .ref (x + 16), .int (nI i_2), .ref (x + 16)] : List Value)) (nI_sub (show 1 ≤ i_2 by omega))) ?_
        obtain ⟨f_8, h_38⟩ := imk (k := 16) hI12
        have h_39 : Φ9 (x + 16) = some (al_ G 8 f_8) := h_38
        refine z_lald B h_39 (vp_in_nI (by omega) (by omega)) dX12_account_219 ?_
        refine z_fl (fun v_79 => ?_)
        refine z_last B h_39 (Nat.le_trans hx (Nat.le_add_right x 16)) (vp_in_nI (by omega) (by omega)) dX12_account_220 (fun Φ10 hΦ10 => ?_)
        have h_40 : Φ10 (x + 16) = some (al_ G 8 (vp_updL f_8 (nI i_2).toNatClampNeg v_79)) := fset_at hΦ10
        have hI13 : Im G x (rd, NN, fl, pe, le, nx, il, qu, kn, ec, nu, va) Φ10 := Im.put (k := 16) hI12 hΦ10 ⟨_, rfl⟩
        refine z_iinc (k := 0) (v := nI (i_2 - 1)) (lv' := [(9, .int (nI (i_2 - 1))), (0, .ref x), (1, .long a), (3, .long b)]) B dX12_account_221 rfl (nI_m1 (show 1 ≤ i_2 by omega)) (Nat.le_of_ble_eq_true rfl) rfl ?_
        refine z_goto (tgt := 184) B dX12_account_224 rfl ?_
        refine z_lv [0, 1, 2, 3] rfl ?_
        exact ih2 (i_2 - 1) Φ10 (show (i_2 - 1) < i_2 by omega) ⟨hI13, (fun b9 h9 => ((fset_fr hΦ10 (fun h8 => h9 (16) h8 (show 16 = 0 ∨ 16 = 11 ∨ 16 = 15 ∨ 16 = 16 by omega))).trans ((fset_fr hΦ9 (fun h8 => h9 (15) h8 (show 15 = 0 ∨ 15 = 11 ∨ 15 = 15 ∨ 15 = 16 by omega))).trans ((hF3 b9 (fun j9 h8 h7 => h9 j9 h8 (show j9 = 0 ∨ j9 = 11 ∨ j9 = 15 ∨ j9 = 16 by have h6 : j9 = 0 ∨ j9 = 11 ∨ j9 = 15 ∨ j9 = 16 := h7; omega))).trans rfl)))), (show (i_2 - 1) ≤ 7 by omega), trivial⟩
  refine z_join (α := Int32 × Int32) (fun (a9 : Int32 × Int32) Φi => Im G x (rd, NN, fl, pe, le, nx, il, qu, kn, ec, nu, va) Φi ∧ Fr x (fun j9 => j9 = 0 ∨ j9 = 11 ∨ j9 = 15 ∨ j9 = 16) Φ Φi ∧ True) (fun a9 => [(0, .ref x), (1, .long a), (3, .long b), (5, .long d), (7, .int a9.1), (8, .int a9.2)]) 86 ?_ (fun J86 => ?_)
  · rintro ⟨j_1, j_2⟩ Φj2 ⟨hI14, hF4, -⟩
    replace hI14 : Im G x (rd, NN, fl, pe, le, nx, il, qu, kn, ec, nu, va) Φj2 := hI14
    show Z p9 l e9 _ s9 m9 _ w9 t9 k9 _ G 10 86 [(0, .ref x), (1, .long a), (3, .long b), (5, .long d), (7, .int j_1), (8, .int j_2)] [] Φj2 _ _ _
    refine z_iload B dX12_account_86 4 rfl ?_
    refine z_if_ge (tgt := 140) B dX12_account_88 rfl (fun c_4 => ?_) (fun c_4 => ?_)
    · refine z_aload_n B dX12_account_140 rfl 0 rfl ?_
      refine z_lload_n B dX12_account_141 rfl 1 rfl ?_
      refine z_lload B dX12_account_142 3 rfl ?_
      refine z_ladd B dX12_account_144 ?_
      refine z_fl (fun v_80 => ?_)
      refine z_ldc2 (v := 4294967295) B (by decide +kernel) dX12_account_145 ?_
      refine z_land B dX12_account_148 ?_
      refine z_fl (fun v_81 => ?_)
      obtain ⟨v_82, v_83, v_84, n_21, v_85, v_86, v_87, v_88, v_89, v_90, v_91, v_92, v_93, n_22, v_94, n_23, n_24, v_95, v_96, h_41, b_74, b_63, b_64, b_65, b_66, b_67, b_68, b_69, b_70, b_71, b_72, b_73⟩ := im0 hI14
      replace b_63 : 1 ≤ n_21 := b_63
      replace b_64 : n_21 ≤ 1024 := b_64
      replace b_65 : fl ≤ 12 := b_65
      replace b_66 : pe ≤ 24 := b_66
      replace b_67 : le ≤ 700 := b_67
      replace b_68 : qu ≤ 12 := b_68
      replace b_69 : n_22 ≤ 8 := b_69
      replace b_70 : n_23 ≤ 24 := b_70
      replace b_71 : n_24 ≤ 24 := b_71
      replace b_72 : il ≤ 700 := b_72
      replace b_73 : nx ≤ 701 := b_73
      have h_42 : Φj2 x = some (o_ 14 [.int v_82, .ref (x + 1), .ref (x + 2), .int v_83, .int v_84, .int (nI n_21), .int v_85, .int v_86, .ref (x + 3), .ref (x + 4), .int v_87, .long v_88, .ref (x + 5), .int (nI fl), .int v_89, .long v_90, .long v_91, .long v_92, .long v_93, .ref (x + 6), .ref (x + 7), .int (nI pe), .ref (x + 8), .int (nI le), .ref (x + 9), .ref (x + 10), .int (nI qu), .ref (x + 11), .ref (x + 12), .ref (x + 13), .ref (x + 14), .ref (x + 15), .ref (x + 16), .int (nI n_22), .long v_94, .ref (x + 17), .ref (x + 18), .ref (x + 19), .ref (x + 20), .ref (x + 21), .ref (x + 22), .int (nI n_23), .ref (x + 23), .ref (x + 24), .int (nI n_24), .ref (x + 25), .int (nI il), .int (nI nx), .int ec, .int v_95, .int kn, .int v_96, .int nu, .long va]) := h_41
      refine z_put (ref := "FlowExporterModel") (C := RX12) (T := TX12) (N := 54) (ci := 14) (v := .long v_81) B (by decide +kernel) tyX12 tyX12_ok nmX12 rfl 34 (by decide) (by decide +kernel) rfl (Or.inl rfl) h_42 hx rfl rfl (Nat.le_of_ble_eq_true rfl) dX12_account_149 (fun Φ11 hΦ11 => ?_)
      have h_43 : Φ11 x = some (o_ 14 [.int v_82, .ref (x + 1), .ref (x + 2), .int v_83, .int v_84, .int (nI n_21), .int v_85, .int v_86, .ref (x + 3), .ref (x + 4), .int v_87, .long v_88, .ref (x + 5), .int (nI fl), .int v_89, .long v_90, .long v_91, .long v_92, .long v_93, .ref (x + 6), .ref (x + 7), .int (nI pe), .ref (x + 8), .int (nI le), .ref (x + 9), .ref (x + 10), .int (nI qu), .ref (x + 11), .ref (x + 12), .ref (x + 13), .ref (x + 14), .ref (x + 15), .ref (x + 16), .int (nI n_22), .long v_81, .ref (x + 17), .ref (x + 18), .ref (x + 19), .ref (x + 20), .ref (x + 21), .ref (x + 22), .int (nI n_23), .ref (x + 23), .ref (x + 24), .int (nI n_24), .ref (x + 25), .int (nI il), .int (nI nx), .int ec, .int v_95, .int kn, .int v_96, .int nu, .long va]) := fset_at hΦ11
      have hI15 : Im G x (rd, NN, fl, pe, le, nx, il, qu, kn, ec, nu, va) Φ11 := Im.put0 hI14 hΦ11 ⟨v_82, v_83, v_84, n_21, v_85, v_86, v_87, v_88, v_89, v_90, v_91, v_92, v_93, n_22, v_81, n_23, n_24, v_95, v_96, rfl, b_74, (show 1 ≤ n_21 by omega), (show n_21 ≤ 1024 by omega), (show fl ≤ 12 by omega), (show pe ≤ 24 by omega), (show le ≤ 700 by omega), (show qu ≤ 12 by omega), (show n_22 ≤ 8 by omega), (show n_23 ≤ 24 by omega), (show n_24 ≤ 24 by omega), (show il ≤ 700 by omega), (show nx ≤ 701 by omega)⟩
      refine z_lv [0, 1, 2] rfl ?_
      exact J152 () Φ11 ⟨hI15, (fun b9 h9 => ((fset_fr hΦ11 (fun h8 => h9 (0) h8 (show 0 = 0 ∨ 0 = 11 ∨ 0 = 15 ∨ 0 = 16 by omega))).trans ((hF4 b9 (fun j9 h8 h7 => h9 j9 h8 (show j9 = 0 ∨ j9 = 11 ∨ j9 = 15 ∨ j9 = 16 by have h6 : j9 = 0 ∨ j9 = 11 ∨ j9 = 15 ∨ j9 = 16 := h7; omega))).trans rfl))), trivial⟩
    · refine z_iload B dX12_account_91 5 rfl ?_
      refine z_if_ne (tgt := 140) B dX12_account_93 rfl (fun c_5 => ?_) (fun c_5 => ?_)
      · refine z_aload_n B dX12_account_140 rfl 0 rfl ?_
        refine z_lload_n B dX12_account_141 rfl 1 rfl ?_
        refine z_lload B dX12_account_142 3 rfl ?_
        refine z_ladd B dX12_account_144 ?_
        refine z_fl (fun v_97 => ?_)
        refine z_ldc2 (v := 4294967295) B (by decide +kernel) dX12_account_145 ?_
        refine z_land B dX12_account_148 ?_
        refine z_fl (fun v_98 => ?_)
        obtain ⟨v_99, v_100, v_101, n_25, v_102, v_103, v_104, v_105, v_106, v_107, v_108, v_109, v_110, n_26, v_111, n_27, n_28, v_112, v_113, h_44, b_86, b_75, b_76, b_77, b_78, b_79, b_80, b_81, b_82, b_83, b_84, b_85⟩ := im0 hI14
        replace b_75 : 1 ≤ n_25 := b_75
        replace b_76 : n_25 ≤ 1024 := b_76
        replace b_77 : fl ≤ 12 := b_77
        replace b_78 : pe ≤ 24 := b_78
        replace b_79 : le ≤ 700 := b_79
        replace b_80 : qu ≤ 12 := b_80
        replace b_81 : n_26 ≤ 8 := b_81
        replace b_82 : n_27 ≤ 24 := b_82
        replace b_83 : n_28 ≤ 24 := b_83
        replace b_84 : il ≤ 700 := b_84
        replace b_85 : nx ≤ 701 := b_85
        have h_45 : Φj2 x = some (o_ 14 [.int v_99, .ref (x + 1), .ref (x + 2), .int v_100, .int v_101, .int (nI n_25), .int v_102, .int v_103, .ref (x + 3), .ref (x + 4), .int v_104, .long v_105, .ref (x + 5), .int (nI fl), .int v_106, .long v_107, .long v_108, .long v_109, .long v_110, .ref (x + 6), .ref (x + 7), .int (nI pe), .ref (x + 8), .int (nI le), .ref (x + 9), .ref (x + 10), .int (nI qu), .ref (x + 11), .ref (x + 12), .ref (x + 13), .ref (x + 14), .ref (x + 15), .ref (x + 16), .int (nI n_26), .long v_111, .ref (x + 17), .ref (x + 18), .ref (x + 19), .ref (x + 20), .ref (x + 21), .ref (x + 22), .int (nI n_27), .ref (x + 23), .ref (x + 24), .int (nI n_28), .ref (x + 25), .int (nI il), .int (nI nx), .int ec, .int v_112, .int kn, .int v_113, .int nu, .long va]) := h_44
        refine z_put (ref := "FlowExporterModel") (C := RX12) (T := TX12) (N := 54) (ci := 14) (v := .long v_98) B (by decide +kernel) tyX12 tyX12_ok nmX12 rfl 34 (by decide) (by decide +kernel) rfl (Or.inl rfl) h_45 hx rfl rfl (Nat.le_of_ble_eq_true rfl) dX12_account_149 (fun Φ12 hΦ12 => ?_)
        have h_46 : Φ12 x = some (o_ 14 [.int v_99, .ref (x + 1), .ref (x + 2), .int v_100, .int v_101, .int (nI n_25), .int v_102, .int v_103, .ref (x + 3), .ref (x + 4), .int v_104, .long v_105, .ref (x + 5), .int (nI fl), .int v_106, .long v_107, .long v_108, .long v_109, .long v_110, .ref (x + 6), .ref (x + 7), .int (nI pe), .ref (x + 8), .int (nI le), .ref (x + 9), .ref (x + 10), .int (nI qu), .ref (x + 11), .ref (x + 12), .ref (x + 13), .ref (x + 14), .ref (x + 15), .ref (x + 16), .int (nI n_26), .long v_98, .ref (x + 17), .ref (x + 18), .ref (x + 19), .ref (x + 20), .ref (x + 21), .ref (x + 22), .int (nI n_27), .ref (x + 23), .ref (x + 24), .int (nI n_28), .ref (x + 25), .int (nI il), .int (nI nx), .int ec, .int v_112, .int kn, .int v_113, .int nu, .long va]) := fset_at hΦ12
        have hI16 : Im G x (rd, NN, fl, pe, le, nx, il, qu, kn, ec, nu, va) Φ12 := Im.put0 hI14 hΦ12 ⟨v_99, v_100, v_101, n_25, v_102, v_103, v_104, v_105, v_106, v_107, v_108, v_109, v_110, n_26, v_98, n_27, n_28, v_112, v_113, rfl, b_86, (show 1 ≤ n_25 by omega), (show n_25 ≤ 1024 by omega), (show fl ≤ 12 by omega), (show pe ≤ 24 by omega), (show le ≤ 700 by omega), (show qu ≤ 12 by omega), (show n_26 ≤ 8 by omega), (show n_27 ≤ 24 by omega), (show n_28 ≤ 24 by omega), (show il ≤ 700 by omega), (show nx ≤ 701 by omega)⟩
        refine z_lv [0, 1, 2] rfl ?_
        exact J152 () Φ12 ⟨hI16, (fun b9 h9 => ((fset_fr hΦ12 (fun h8 => h9 (0) h8 (show 0 = 0 ∨ 0 = 11 ∨ 0 = 15 ∨ 0 = 16 by omega))).trans ((hF4 b9 (fun j9 h8 h7 => h9 j9 h8 (show j9 = 0 ∨ j9 = 11 ∨ j9 = 15 ∨ j9 = 16 by have h6 : j9 = 0 ∨ j9 = 11 ∨ j9 = 15 ∨ j9 = 16 := h7; omega))).trans rfl))), trivial⟩
      · refine z_aload_n B dX12_account_96 rfl 0 rfl ?_
        obtain ⟨v_114, v_115, v_116, n_29, v_117, v_118, v_119, v_120, v_121, v_122, v_123, v_124, v_125, n_30, v_126, n_31, n_32, v_127, v_128, h_47, b_98, b_87, b_88, b_89, b_90, b_91, b_92, b_93, b_94, b_95, b_96, b_97⟩ := im0 hI14
        replace b_87 : 1 ≤ n_29 := b_87
        replace b_88 : n_29 ≤ 1024 := b_88
        replace b_89 : fl ≤ 12 := b_89
        replace b_90 : pe ≤ 24 := b_90
        replace b_91 : le ≤ 700 := b_91
        replace b_92 : qu ≤ 12 := b_92
        replace b_93 : n_30 ≤ 8 := b_93
        replace b_94 : n_31 ≤ 24 := b_94
        replace b_95 : n_32 ≤ 24 := b_95
        replace b_96 : il ≤ 700 := b_96
        replace b_97 : nx ≤ 701 := b_97
        have h_48 : Φj2 x = some (o_ 14 [.int v_114, .ref (x + 1), .ref (x + 2), .int v_115, .int v_116, .int (nI n_29), .int v_117, .int v_118, .ref (x + 3), .ref (x + 4), .int v_119, .long v_120, .ref (x + 5), .int (nI fl), .int v_121, .long v_122, .long v_123, .long v_124, .long v_125, .ref (x + 6), .ref (x + 7), .int (nI pe), .ref (x + 8), .int (nI le), .ref (x + 9), .ref (x + 10), .int (nI qu), .ref (x + 11), .ref (x + 12), .ref (x + 13), .ref (x + 14), .ref (x + 15), .ref (x + 16), .int (nI n_30), .long v_126, .ref (x + 17), .ref (x + 18), .ref (x + 19), .ref (x + 20), .ref (x + 21), .ref (x + 22), .int (nI n_31), .ref (x + 23), .ref (x + 24), .int (nI n_32), .ref (x + 25), .int (nI il), .int (nI nx), .int ec, .int v_127, .int kn, .int v_128, .int nu, .long va]) := h_47
        refine z_get (ref := "FlowExporterModel") (C := RX12) (T := TX12) (N := 54) (ci := 14) (v := .ref (x + 11)) B (by decide +kernel) rfl 27 (by decide) (by decide +kernel) rfl h_48 rfl dX12_account_97 ?_
        refine z_iconst (v := 1) B dX12_account_100 rfl ?_
        refine z_dup2_11 B dX12_account_101 rfl rfl ?_
        obtain ⟨f_9, h_49⟩ := imk (k := 11) hI14
        have h_50 : Φj2 (x + 11) = some (al_ G 9 f_9) := h_49
        refine z_lald B h_50 (vin rfl) dX12_account_102 ?_
        refine z_fl (fun v_129 => ?_)
        refine z_lconst (v := 1) B dX12_account_103 rfl ?_
        refine z_ladd B dX12_account_104 ?_
        refine z_fl (fun v_130 => ?_)
        refine z_last B h_50 (Nat.le_trans hx (Nat.le_add_right x 11)) (vin rfl) dX12_account_105 (fun Φ13 hΦ13 => ?_)
        have h_51 : Φ13 (x + 11) = some (al_ G 9 (vp_updL f_9 (1 : Int32).toNatClampNeg v_130)) := fset_at hΦ13
        have hI17 : Im G x (rd, NN, fl, pe, le, nx, il, qu, kn, ec, nu, va) Φ13 := Im.put (k := 11) hI14 hΦ13 ⟨_, rfl⟩
        refine z_aload_n B dX12_account_106 rfl 0 rfl ?_
        have h_52 : Φ13 x = some (o_ 14 [.int v_114, .ref (x + 1), .ref (x + 2), .int v_115, .int v_116, .int (nI n_29), .int v_117, .int v_118, .ref (x + 3), .ref (x + 4), .int v_119, .long v_120, .ref (x + 5), .int (nI fl), .int v_121, .long v_122, .long v_123, .long v_124, .long v_125, .ref (x + 6), .ref (x + 7), .int (nI pe), .ref (x + 8), .int (nI le), .ref (x + 9), .ref (x + 10), .int (nI qu), .ref (x + 11), .ref (x + 12), .ref (x + 13), .ref (x + 14), .ref (x + 15), .ref (x + 16), .int (nI n_30), .long v_126, .ref (x + 17), .ref (x + 18), .ref (x + 19), .ref (x + 20), .ref (x + 21), .ref (x + 22), .int (nI n_31), .ref (x + 23), .ref (x + 24), .int (nI n_32), .ref (x + 25), .int (nI il), .int (nI nx), .int ec, .int v_127, .int kn, .int v_128, .int nu, .long va]) := ((fset_fr hΦ13 (ne_off (x := x) (i := 0) (j := 11) rfl)).trans h_48)
        refine z_get (ref := "FlowExporterModel") (C := RX12) (T := TX12) (N := 54) (ci := 14) (v := .ref (x + 11)) B (by decide +kernel) rfl 27 (by decide) (by decide +kernel) rfl h_52 rfl dX12_account_107 ?_
        refine z_iconst (v := 0) B dX12_account_110 rfl ?_
        refine z_aload_n B dX12_account_111 rfl 0 rfl ?_
        refine z_get (ref := "FlowExporterModel") (C := RX12) (T := TX12) (N := 54) (ci := 14) (v := .ref (x + 11)) B (by decide +kernel) rfl 27 (by decide) (by decide +kernel) rfl h_52 rfl dX12_account_112 ?_
        refine z_iconst (v := 0) B dX12_account_115 rfl ?_
        obtain ⟨f_10, h_53⟩ := imk (k := 11) hI17
        have h_54 : Φ13 (x + 11) = some (al_ G 9 f_10) := h_53
        refine z_lald B h_54 (vin rfl) dX12_account_116 ?_
        refine z_fl (fun v_131 => ?_)
        refine z_lload B dX12_account_117 3 rfl ?_
        refine z_lcmp B dX12_account_119 ?_
        refine z_fi (fun v_132 => ?_)
        refine z_if_le (tgt := 135) B dX12_account_120 rfl (fun c_6 => ?_) (fun c_6 => ?_)
        · refine z_lconst (v := 0) B dX12_account_135 rfl ?_
          refine z_last B h_54 (Nat.le_trans hx (Nat.le_add_right x 11)) (vin rfl) dX12_account_136 (fun Φ14 hΦ14 => ?_)
          have h_55 : Φ14 (x + 11) = some (al_ G 9 (vp_updL f_10 (0 : Int32).toNatClampNeg 0)) := fset_at hΦ14
          have hI18 : Im G x (rd, NN, fl, pe, le, nx, il, qu, kn, ec, nu, va) Φ14 := Im.put (k := 11) hI17 hΦ14 ⟨_, rfl⟩
          refine z_goto (tgt := 152) B dX12_account_137 rfl ?_
          refine z_lv [0, 1, 2] rfl ?_
          exact J152 () Φ14 ⟨hI18, (fun b9 h9 => ((fset_fr hΦ14 (fun h8 => h9 (11) h8 (show 11 = 0 ∨ 11 = 11 ∨ 11 = 15 ∨ 11 = 16 by omega))).trans ((fset_fr hΦ13 (fun h8 => h9 (11) h8 (show 11 = 0 ∨ 11 = 11 ∨ 11 = 15 ∨ 11 = 16 by omega))).trans ((hF4 b9 (fun j9 h8 h7 => h9 j9 h8 (show j9 = 0 ∨ j9 = 11 ∨ j9 = 15 ∨ j9 = 16 by have h6 : j9 = 0 ∨ j9 = 11 ∨ j9 = 15 ∨ j9 = 16 := h7; omega))).trans rfl)))), trivial⟩
        · obtain ⟨n_33, e_8, e_7, rfl⟩ := nI_ofp c_6
          refine z_aload_n B dX12_account_123 rfl 0 rfl ?_
          refine z_get (ref := "FlowExporterModel") (C := RX12) (T := TX12) (N := 54) (ci := 14) (v := .ref (x + 11)) B (by decide +kernel) rfl 27 (by decide) (by decide +kernel) rfl h_52 rfl dX12_account_124 ?_
          refine z_iconst (v := 0) B dX12_account_127 rfl ?_
          refine z_lald B h_54 (vin rfl) dX12_account_128 ?_
          refine z_fl (fun v_133 => ?_)
          refine z_lload B dX12_account_129 3 rfl ?_
          refine z_lsub B dX12_account_131 ?_
          refine z_fl (fun v_134 => ?_)
          refine z_goto (tgt := 136) B dX12_account_132 rfl ?_
          refine z_last B h_54 (Nat.le_trans hx (Nat.le_add_right x 11)) (vin rfl) dX12_account_136 (fun Φ15 hΦ15 => ?_)
          have h_56 : Φ15 (x + 11) = some (al_ G 9 (vp_updL f_10 (0 : Int32).toNatClampNeg v_134)) := fset_at hΦ15
          have hI19 : Im G x (rd, NN, fl, pe, le, nx, il, qu, kn, ec, nu, va) Φ15 := Im.put (k := 11) hI17 hΦ15 ⟨_, rfl⟩
          refine z_goto (tgt := 152) B dX12_account_137 rfl ?_
          refine z_lv [0, 1, 2] rfl ?_
          exact J152 () Φ15 ⟨hI19, (fun b9 h9 => ((fset_fr hΦ15 (fun h8 => h9 (11) h8 (show 11 = 0 ∨ 11 = 11 ∨ 11 = 15 ∨ 11 = 16 by omega))).trans ((fset_fr hΦ13 (fun h8 => h9 (11) h8 (show 11 = 0 ∨ 11 = 11 ∨ 11 = 15 ∨ 11 = 16 by omega))).trans ((hF4 b9 (fun j9 h8 h7 => h9 j9 h8 (show j9 = 0 ∨ j9 = 11 ∨ j9 = 15 ∨ j9 = 16 by have h6 : j9 = 0 ∨ j9 = 11 ∨ j9 = 15 ∨ j9 = 16 := h7; omega))).trans rfl)))), trivial⟩
  refine z_join (α := Int32 × Int32) (fun (a9 : Int32 × Int32) Φi => Im G x (rd, NN, fl, pe, le, nx, il, qu, kn, ec, nu, va) Φi ∧ Fr x (fun j9 => j9 = 0 ∨ j9 = 11 ∨ j9 = 15 ∨ j9 = 16) Φ Φi ∧ True) (fun a9 => [(0, .ref x), (1, .long a), (3, .long b), (5, .long d), (7, .int a9.1), (8, .int a9.2)]) 54 ?_ (fun J54 => ?_)
  · rintro ⟨j_3, j_4⟩ Φj3 ⟨hI20, hF5, -⟩
    replace hI20 : Im G x (rd, NN, fl, pe, le, nx, il, qu, kn, ec, nu, va) Φj3 := hI20
    show Z p9 l e9 _ s9 m9 _ w9 t9 k9 _ G 10 54 [(0, .ref x), (1, .long a), (3, .long b), (5, .long d), (7, .int j_3), (8, .int j_4)] [] Φj3 _ _ _
    refine z_iload B dX12_account_54 4 rfl ?_
    refine z_if_le (tgt := 71) B dX12_account_56 rfl (fun c_7 => ?_) (fun c_7 => ?_)
    · refine z_iload B dX12_account_71 5 rfl ?_
      refine z_if_eq (tgt := 86) B dX12_account_73 rfl (fun c_8 => ?_) (fun c_8 => ?_)
      · refine z_lv [0, 1, 2, 3, 4, 5] rfl ?_
        exact J86 (j_3, j_4) Φj3 ⟨hI20, (fun b9 h9 => ((hF5 b9 (fun j9 h8 h7 => h9 j9 h8 (show j9 = 0 ∨ j9 = 11 ∨ j9 = 15 ∨ j9 = 16 by have h6 : j9 = 0 ∨ j9 = 11 ∨ j9 = 15 ∨ j9 = 16 := h7; omega))).trans rfl)), trivial⟩
      · refine z_aload_n B dX12_account_76 rfl 0 rfl ?_
        obtain ⟨v_135, v_136, v_137, n_34, v_138, v_139, v_140, v_141, v_142, v_143, v_144, v_145, v_146, n_35, v_147, n_36, n_37, v_148, v_149, h_57, b_110, b_99, b_100, b_101, b_102, b_103, b_104, b_105, b_106, b_107, b_108, b_109⟩ := im0 hI20
        replace b_99 : 1 ≤ n_34 := b_99
        replace b_100 : n_34 ≤ 1024 := b_100
        replace b_101 : fl ≤ 12 := b_101
        replace b_102 : pe ≤ 24 := b_102
        replace b_103 : le ≤ 700 := b_103
        replace b_104 : qu ≤ 12 := b_104
        replace b_105 : n_35 ≤ 8 := b_105
        replace b_106 : n_36 ≤ 24 := b_106
        replace b_107 : n_37 ≤ 24 := b_107
        replace b_108 : il ≤ 700 := b_108
        replace b_109 : nx ≤ 701 := b_109
        have h_58 : Φj3 x = some (o_ 14 [.int v_135, .ref (x + 1), .ref (x + 2), .int v_136, .int v_137, .int (nI n_34), .int v_138, .int v_139, .ref (x + 3), .ref (x + 4), .int v_140, .long v_141, .ref (x + 5), .int (nI fl), .int v_142, .long v_143, .long v_144, .long v_145, .long v_146, .ref (x + 6), .ref (x + 7), .int (nI pe), .ref (x + 8), .int (nI le), .ref (x + 9), .ref (x + 10), .int (nI qu), .ref (x + 11), .ref (x + 12), .ref (x + 13), .ref (x + 14), .ref (x + 15), .ref (x + 16), .int (nI n_35), .long v_147, .ref (x + 17), .ref (x + 18), .ref (x + 19), .ref (x + 20), .ref (x + 21), .ref (x + 22), .int (nI n_36), .ref (x + 23), .ref (x + 24), .int (nI n_37), .ref (x + 25), .int (nI il), .int (nI nx), .int ec, .int v_148, .int kn, .int v_149, .int nu, .long va]) := h_57
        refine z_get (ref := "FlowExporterModel") (C := RX12) (T := TX12) (N := 54) (ci := 14) (v := .ref (x + 11)) B (by decide +kernel) rfl 27 (by decide) (by decide +kernel) rfl h_58 rfl dX12_account_77 ?_
        refine z_iconst (v := 5) B dX12_account_80 rfl ?_
        refine z_dup2_11 B dX12_account_81 rfl rfl ?_
        obtain ⟨f_11, h_59⟩ := imk (k := 11) hI20
        have h_60 : Φj3 (x + 11) = some (al_ G 9 f_11) := h_59
        refine z_lald B h_60 (vin rfl) dX12_account_82 ?_
        refine z_fl (fun v_150 => ?_)
        refine z_lconst (v := 1) B dX12_account_83 rfl ?_
        refine z_ladd B dX12_account_84 ?_
        refine z_fl (fun v_151 => ?_)
        refine z_last B h_60 (Nat.le_trans hx (Nat.le_add_right x 11)) (vin rfl) dX12_account_85 (fun Φ16 hΦ16 => ?_)
        have h_61 : Φ16 (x + 11) = some (al_ G 9 (vp_updL f_11 (5 : Int32).toNatClampNeg v_151)) := fset_at hΦ16
        have hI21 : Im G x (rd, NN, fl, pe, le, nx, il, qu, kn, ec, nu, va) Φ16 := Im.put (k := 11) hI20 hΦ16 ⟨_, rfl⟩
        refine z_lv [0, 1, 2, 3, 4, 5] rfl ?_
        exact J86 (j_3, j_4) Φ16 ⟨hI21, (fun b9 h9 => ((fset_fr hΦ16 (fun h8 => h9 (11) h8 (show 11 = 0 ∨ 11 = 11 ∨ 11 = 15 ∨ 11 = 16 by omega))).trans ((hF5 b9 (fun j9 h8 h7 => h9 j9 h8 (show j9 = 0 ∨ j9 = 11 ∨ j9 = 15 ∨ j9 = 16 by have h6 : j9 = 0 ∨ j9 = 11 ∨ j9 = 15 ∨ j9 = 16 := h7; omega))).trans rfl))), trivial⟩
    · obtain ⟨n_38, e_10, e_9, rfl⟩ := nI_ofp c_7
      refine z_aload_n B dX12_account_59 rfl 0 rfl ?_
      obtain ⟨v_152, v_153, v_154, n_39, v_155, v_156, v_157, v_158, v_159, v_160, v_161, v_162, v_163, n_40, v_164, n_41, n_42, v_165, v_166, h_62, b_122, b_111, b_112, b_113, b_114, b_115, b_116, b_117, b_118, b_119, b_120, b_121⟩ := im0 hI20
      replace b_111 : 1 ≤ n_39 := b_111
      replace b_112 : n_39 ≤ 1024 := b_112
      replace b_113 : fl ≤ 12 := b_113
      replace b_114 : pe ≤ 24 := b_114
      replace b_115 : le ≤ 700 := b_115
      replace b_116 : qu ≤ 12 := b_116
      replace b_117 : n_40 ≤ 8 := b_117
      replace b_118 : n_41 ≤ 24 := b_118
      replace b_119 : n_42 ≤ 24 := b_119
      replace b_120 : il ≤ 700 := b_120
      replace b_121 : nx ≤ 701 := b_121
      have h_63 : Φj3 x = some (o_ 14 [.int v_152, .ref (x + 1), .ref (x + 2), .int v_153, .int v_154, .int (nI n_39), .int v_155, .int v_156, .ref (x + 3), .ref (x + 4), .int v_157, .long v_158, .ref (x + 5), .int (nI fl), .int v_159, .long v_160, .long v_161, .long v_162, .long v_163, .ref (x + 6), .ref (x + 7), .int (nI pe), .ref (x + 8), .int (nI le), .ref (x + 9), .ref (x + 10), .int (nI qu), .ref (x + 11), .ref (x + 12), .ref (x + 13), .ref (x + 14), .ref (x + 15), .ref (x + 16), .int (nI n_40), .long v_164, .ref (x + 17), .ref (x + 18), .ref (x + 19), .ref (x + 20), .ref (x + 21), .ref (x + 22), .int (nI n_41), .ref (x + 23), .ref (x + 24), .int (nI n_42), .ref (x + 25), .int (nI il), .int (nI nx), .int ec, .int v_165, .int kn, .int v_166, .int nu, .long va]) := h_62
      refine z_get (ref := "FlowExporterModel") (C := RX12) (T := TX12) (N := 54) (ci := 14) (v := .ref (x + 11)) B (by decide +kernel) rfl 27 (by decide) (by decide +kernel) rfl h_63 rfl dX12_account_60 ?_
      refine z_iconst (v := 0) B dX12_account_63 rfl ?_
      refine z_dup2_11 B dX12_account_64 rfl rfl ?_
      obtain ⟨f_12, h_64⟩ := imk (k := 11) hI20
      have h_65 : Φj3 (x + 11) = some (al_ G 9 f_12) := h_64
      refine z_lald B h_65 (vin rfl) dX12_account_65 ?_
      refine z_fl (fun v_167 => ?_)
      refine z_iload B dX12_account_66 4 rfl ?_
      refine z_i2l (v := (nI n_38).toInt64) B dX12_account_68 rfl ?_
      refine z_ladd B dX12_account_69 ?_
      refine z_fl (fun v_168 => ?_)
      refine z_last B h_65 (Nat.le_trans hx (Nat.le_add_right x 11)) (vin rfl) dX12_account_70 (fun Φ17 hΦ17 => ?_)
      have h_66 : Φ17 (x + 11) = some (al_ G 9 (vp_updL f_12 (0 : Int32).toNatClampNeg v_168)) := fset_at hΦ17
      have hI22 : Im G x (rd, NN, fl, pe, le, nx, il, qu, kn, ec, nu, va) Φ17 := Im.put (k := 11) hI20 hΦ17 ⟨_, rfl⟩
      refine z_iload B dX12_account_71 5 rfl ?_
      refine z_if_eq (tgt := 86) B dX12_account_73 rfl (fun c_9 => ?_) (fun c_9 => ?_)
      · refine z_lv [0, 1, 2, 3, 4, 5] rfl ?_
        exact J86 (nI n_38, j_4) Φ17 ⟨hI22, (fun b9 h9 => ((fset_fr hΦ17 (fun h8 => h9 (11) h8 (show 11 = 0 ∨ 11 = 11 ∨ 11 = 15 ∨ 11 = 16 by omega))).trans ((hF5 b9 (fun j9 h8 h7 => h9 j9 h8 (show j9 = 0 ∨ j9 = 11 ∨ j9 = 15 ∨ j9 = 16 by have h6 : j9 = 0 ∨ j9 = 11 ∨ j9 = 15 ∨ j9 = 16 := h7; omega))).trans rfl))), trivial⟩
      · refine z_aload_n B dX12_account_76 rfl 0 rfl ?_
        have h_67 : Φ17 x = some (o_ 14 [.int v_152, .ref (x + 1), .ref (x + 2), .int v_153, .int v_154, .int (nI n_39), .int v_155, .int v_156, .ref (x + 3), .ref (x + 4), .int v_157, .long v_158, .ref (x + 5), .int (nI fl), .int v_159, .long v_160, .long v_161, .long v_162, .long v_163, .ref (x + 6), .ref (x + 7), .int (nI pe), .ref (x + 8), .int (nI le), .ref (x + 9), .ref (x + 10), .int (nI qu), .ref (x + 11), .ref (x + 12), .ref (x + 13), .ref (x + 14), .ref (x + 15), .ref (x + 16), .int (nI n_40), .long v_164, .ref (x + 17), .ref (x + 18), .ref (x + 19), .ref (x + 20), .ref (x + 21), .ref (x + 22), .int (nI n_41), .ref (x + 23), .ref (x + 24), .int (nI n_42), .ref (x + 25), .int (nI il), .int (nI nx), .int ec, .int v_165, .int kn, .int v_166, .int nu, .long va]) := ((fset_fr hΦ17 (ne_off (x := x) (i := 0) (j := 11) rfl)).trans h_63)
        refine z_get (ref := "FlowExporterModel") (C := RX12) (T := TX12) (N := 54) (ci := 14) (v := .ref (x + 11)) B (by decide +kernel) rfl 27 (by decide) (by decide +kernel) rfl h_67 rfl dX12_account_77 ?_
        refine z_iconst (v := 5) B dX12_account_80 rfl ?_
        refine z_dup2_11 B dX12_account_81 rfl rfl ?_
        obtain ⟨f_13, h_68⟩ := imk (k := 11) hI22
        have h_69 : Φ17 (x + 11) = some (al_ G 9 f_13) := h_68
        refine z_lald B h_69 (vin rfl) dX12_account_82 ?_
        refine z_fl (fun v_169 => ?_)
        refine z_lconst (v := 1) B dX12_account_83 rfl ?_
        refine z_ladd B dX12_account_84 ?_
        refine z_fl (fun v_170 => ?_)
        refine z_last B h_69 (Nat.le_trans hx (Nat.le_add_right x 11)) (vin rfl) dX12_account_85 (fun Φ18 hΦ18 => ?_)
        have h_70 : Φ18 (x + 11) = some (al_ G 9 (vp_updL f_13 (5 : Int32).toNatClampNeg v_170)) := fset_at hΦ18
        have hI23 : Im G x (rd, NN, fl, pe, le, nx, il, qu, kn, ec, nu, va) Φ18 := Im.put (k := 11) hI22 hΦ18 ⟨_, rfl⟩
        refine z_lv [0, 1, 2, 3, 4, 5] rfl ?_
        exact J86 (nI n_38, j_4) Φ18 ⟨hI23, (fun b9 h9 => ((fset_fr hΦ18 (fun h8 => h9 (11) h8 (show 11 = 0 ∨ 11 = 11 ∨ 11 = 15 ∨ 11 = 16 by omega))).trans ((fset_fr hΦ17 (fun h8 => h9 (11) h8 (show 11 = 0 ∨ 11 = 11 ∨ 11 = 15 ∨ 11 = 16 by omega))).trans ((hF5 b9 (fun j9 h8 h7 => h9 j9 h8 (show j9 = 0 ∨ j9 = 11 ∨ j9 = 15 ∨ j9 = 16 by have h6 : j9 = 0 ∨ j9 = 11 ∨ j9 = 15 ∨ j9 = 16 := h7; omega))).trans rfl)))), trivial⟩
  refine z_aload_n B dX12_account_0 rfl 0 rfl ?_
  obtain ⟨v_171, v_172, v_173, n_43, v_174, v_175, v_176, v_177, v_178, v_179, v_180, v_181, v_182, n_44, v_183, n_45, n_46, v_184, v_185, h_71, b_134, b_123, b_124, b_125, b_126, b_127, b_128, b_129, b_130, b_131, b_132, b_133⟩ := im0 hI
  replace b_123 : 1 ≤ n_43 := b_123
  replace b_124 : n_43 ≤ 1024 := b_124
  replace b_125 : fl ≤ 12 := b_125
  replace b_126 : pe ≤ 24 := b_126
  replace b_127 : le ≤ 700 := b_127
  replace b_128 : qu ≤ 12 := b_128
  replace b_129 : n_44 ≤ 8 := b_129
  replace b_130 : n_45 ≤ 24 := b_130
  replace b_131 : n_46 ≤ 24 := b_131
  replace b_132 : il ≤ 700 := b_132
  replace b_133 : nx ≤ 701 := b_133
  have h_72 : Φ x = some (o_ 14 [.int v_171, .ref (x + 1), .ref (x + 2), .int v_172, .int v_173, .int (nI n_43), .int v_174, .int v_175, .ref (x + 3), .ref (x + 4), .int v_176, .long v_177, .ref (x + 5), .int (nI fl), .int v_178, .long v_179, .long v_180, .long v_181, .long v_182, .ref (x + 6), .ref (x + 7), .int (nI pe), .ref (x + 8), .int (nI le), .ref (x + 9), .ref (x + 10), .int (nI qu), .ref (x + 11), .ref (x + 12), .ref (x + 13), .ref (x + 14), .ref (x + 15), .ref (x + 16), .int (nI n_44), .long v_183, .ref (x + 17), .ref (x + 18), .ref (x + 19), .ref (x + 20), .ref (x + 21), .ref (x + 22), .int (nI n_45), .ref (x + 23), .ref (x + 24), .int (nI n_46), .ref (x + 25), .int (nI il), .int (nI nx), .int ec, .int v_184, .int kn, .int v_185, .int nu, .long va]) := h_71
  refine z_get (ref := "FlowExporterModel") (C := RX12) (T := TX12) (N := 54) (ci := 14) (v := .long v_183) B (by decide +kernel) rfl 34 (by decide) (by decide +kernel) rfl h_72 rfl dX12_account_1 ?_
  refine z_ldc2 (v := (-1)) B (by decide +kernel) dX12_account_4 ?_
  refine z_lcmp B dX12_account_7 ?_
  refine z_fi (fun v_186 => ?_)
  refine z_if_ne (tgt := 15) B dX12_account_8 rfl (fun c_10 => ?_) (fun c_10 => ?_)
  · refine z_lload_n B dX12_account_15 rfl 1 rfl ?_
    refine z_aload_n B dX12_account_16 rfl 0 rfl ?_
    refine z_get (ref := "FlowExporterModel") (C := RX12) (T := TX12) (N := 54) (ci := 14) (v := .long v_183) B (by decide +kernel) rfl 34 (by decide) (by decide +kernel) rfl h_72 rfl dX12_account_17 ?_
    refine z_lsub B dX12_account_20 ?_
    refine z_fl (fun v_187 => ?_)
    refine z_l2i (v := v_187.toInt32) B dX12_account_21 rfl ?_
    refine z_fi (fun v_188 => ?_)
    refine z_istore (lv' := [(7, .int v_188), (0, .ref x), (1, .long a), (3, .long b), (5, .long d)]) B dX12_account_22 (Nat.le_of_ble_eq_true rfl) rfl ?_
    refine z_iload B dX12_account_24 0 rfl ?_
    refine z_if_ge (tgt := 51) B dX12_account_26 rfl (fun c_11 => ?_) (fun c_11 => ?_)
    · refine z_iconst (v := 0) B dX12_account_51 rfl ?_
      refine z_istore (lv' := [(8, .int 0), (7, .int v_188), (0, .ref x), (1, .long a), (3, .long b), (5, .long d)]) B dX12_account_52 (Nat.le_of_ble_eq_true rfl) rfl ?_
      refine z_lv [2, 3, 4, 5, 1, 0] rfl ?_
      exact J54 (v_188, 0) Φ ⟨hI, (fun b9 h9 => rfl), trivial⟩
    · refine z_lload_n B dX12_account_29 rfl 2 rfl ?_
      refine z_lconst (v := 0) B dX12_account_30 rfl ?_
      refine z_lcmp B dX12_account_31 ?_
      refine z_fi (fun v_189 => ?_)
      refine z_if_ne (tgt := 51) B dX12_account_32 rfl (fun c_12 => ?_) (fun c_12 => ?_)
      · refine z_iconst (v := 0) B dX12_account_51 rfl ?_
        refine z_istore (lv' := [(8, .int 0), (7, .int v_188), (0, .ref x), (1, .long a), (3, .long b), (5, .long d)]) B dX12_account_52 (Nat.le_of_ble_eq_true rfl) rfl ?_
        refine z_lv [2, 3, 4, 5, 1, 0] rfl ?_
        exact J54 (v_188, 0) Φ ⟨hI, (fun b9 h9 => rfl), trivial⟩
      · refine z_lload_n B dX12_account_35 rfl 3 rfl ?_
        refine z_l2i (v := b.toInt32) B dX12_account_36 rfl ?_
        refine z_fi (fun v_190 => ?_)
        refine z_aload_n B dX12_account_37 rfl 1 rfl ?_
        refine z_get (ref := "FlowExporterModel") (C := RX12) (T := TX12) (N := 54) (ci := 14) (v := .ref (x + 16)) B (by decide +kernel) rfl 32 (by decide) (by decide +kernel) rfl h_72 rfl dX12_account_38 ?_
        refine z_iconst (v := 0) B dX12_account_41 rfl ?_
        obtain ⟨f_14, h_73⟩ := imk (k := 16) hI
        have h_74 : Φ (x + 16) = some (al_ G 8 f_14) := h_73
        refine z_lald B h_74 (vin rfl) dX12_account_42 ?_
        refine z_fl (fun v_191 => ?_)
        refine z_l2i (v := v_191.toInt32) B dX12_account_43 rfl ?_
        refine z_fi (fun v_192 => ?_)
        refine z_icmp_le (tgt := 51) B dX12_account_44 rfl (fun c_13 => ?_) (fun c_13 => ?_)
        · refine z_iconst (v := 0) B dX12_account_51 rfl ?_
          refine z_istore (lv' := [(8, .int 0), (7, .int v_188), (0, .ref x), (1, .long a), (3, .long b), (5, .long d)]) B dX12_account_52 (Nat.le_of_ble_eq_true rfl) rfl ?_
          refine z_lv [2, 3, 4, 5, 1, 0] rfl ?_
          exact J54 (v_188, 0) Φ ⟨hI, (fun b9 h9 => rfl), trivial⟩
        · refine z_iconst (v := 1) B dX12_account_47 rfl ?_
          refine z_goto (tgt := 52) B dX12_account_48 rfl ?_
          refine z_istore (lv' := [(8, .int 1), (7, .int v_188), (0, .ref x), (1, .long a), (3, .long b), (5, .long d)]) B dX12_account_52 (Nat.le_of_ble_eq_true rfl) rfl ?_
          refine z_lv [2, 3, 4, 5, 1, 0] rfl ?_
          exact J54 (v_188, 1) Φ ⟨hI, (fun b9 h9 => rfl), trivial⟩
  · refine z_iconst (v := 0) B dX12_account_11 rfl ?_
    refine z_goto (tgt := 22) B dX12_account_12 rfl ?_
    refine z_istore (lv' := [(7, .int 0), (0, .ref x), (1, .long a), (3, .long b), (5, .long d)]) B dX12_account_22 (Nat.le_of_ble_eq_true rfl) rfl ?_
    refine z_iload B dX12_account_24 0 rfl ?_
    refine z_if_ge (tgt := 51) B dX12_account_26 rfl (fun c_14 => ?_) (fun h9 => absurd (by decide) h9)
    refine z_iconst (v := 0) B dX12_account_51 rfl ?_
    refine z_istore (lv' := [(8, .int 0), (7, .int 0), (0, .ref x), (1, .long a), (3, .long b), (5, .long d)]) B dX12_account_52 (Nat.le_of_ble_eq_true rfl) rfl ?_
    refine z_lv [2, 3, 4, 5, 1, 0] rfl ?_
    exact J54 (0, 0) Φ ⟨hI, (fun b9 h9 => rfl), trivial⟩

theorem zval_nn {d : Jvm.FP.Core.Datum} (h : pD d) : 0 ≤ Jvm.FP.Core.zval Jvm.FP.Core.b64 d := by
  cases d with
  | nan => exact h.elim
  | inf s =>
    have hs : s = false := h
    subst hs
    exact Int.natCast_nonneg _
  | fin s c q =>
    rcases h with hs | hs
    · subst hs
      exact Int.natCast_nonneg _
    · subst hs
      show 0 ≤ Jvm.FP.Core.signed s (Jvm.FP.Core.inUnits 0 q _)
      unfold Jvm.FP.Core.inUnits Jvm.FP.Core.signed
      rw [Nat.zero_mul]
      cases s <;> decide
theorem root_k {a : UInt64} (h : pd64 a) (h0 : ¬ Op.cmpValue (FP.dcmp a FP.dconst0) .l = 0) : a.toNat < 2 ^ 63 := by
  have hn : Jvm.FP.Core.val64 a ≠ .nan := pd_nn h
  have hz : Jvm.FP.Core.val64 FP.dconst0 ≠ .nan := by decide +kernel
  have hk := Jvm.FP.Core.dcmp_key hn hz
  have hd0 : Jvm.FP.Core.dkey FP.dconst0 = 0 := by decide +kernel
  rw [hd0] at hk
  refine Nat.lt_of_not_le (fun hc => ?_)
  have hd : Jvm.FP.Core.dkey a = ((2 ^ 63 : Nat) : Int) - (a.toNat : Int) := by
    unfold Jvm.FP.Core.dkey
    rw [if_pos hc]
  by_cases he : Jvm.FP.Core.dkey a = 0
  · apply h0
    show Op.cmpValue (Jvm.FP.Core.dcmp a FP.dconst0) .l = 0
    rw [hk, he]
    rfl
  · have hlt : Jvm.FP.Core.dkey a < 0 := by omega
    have h1 : Jvm.FP.Core.dcmp a FP.dconst0 = some .lt := by
      rw [hk, Int.compare_eq_lt.mpr hlt]
    have h2 := (Jvm.FP.Core.dcmp_lt.mp h1).2.2
    have h3 := zval_nn h
    have h4 : Jvm.FP.Core.zval Jvm.FP.Core.b64 (Jvm.FP.Core.val64 FP.dconst0) = 0 := by decide +kernel
    omega
def isW : Jvm.FP.Core.Datum → Bool
  | .fin _ c _ => c != 0
  | _ => false
theorem isW_w {d : Jvm.FP.Core.Datum} (h : isW d = true) : wD d := by
  cases d with
  | nan => cases h
  | inf s => cases h
  | fin s c q =>
    show c ≠ 0
    simpa [isW] using h
/-- the double by whose power of two a root is scaled, out of the exponent of its square -/
def rtq (e : Int32) : Int64 := ((e / 2 - 26 + 1023).toInt64) <<< ((52 : Int32).toInt64 &&& 63)
def rtok (k : Nat) : Bool := if (nI k - 1075) &&& 1 = 1 then vn_snl2d (rtq (nI k - 1075 + (-1))) == false && isW (Jvm.FP.Core.val64 (rtq (nI k - 1075 + (-1))).toUInt64) else vn_snl2d (rtq (nI k - 1075)) == false && isW (Jvm.FP.Core.val64 (rtq (nI k - 1075)).toUInt64)
theorem rtok_all : ∀ k, k < 2048 → rtok k = true := by decide +kernel
theorem rt_odd {k : Nat} (hk : k < 2048) (h : (nI k - 1075) &&& 1 = 1) : vn_snl2d (rtq (nI k - 1075 + (-1))) = false ∧ wD (Jvm.FP.Core.val64 (rtq (nI k - 1075 + (-1))).toUInt64) := by
  have h1 := rtok_all k hk
  unfold rtok at h1
  rw [if_pos h, Bool.and_eq_true] at h1
  exact ⟨by simpa using h1.1, isW_w h1.2⟩
theorem rt_even {k : Nat} (hk : k < 2048) (h : ¬ (nI k - 1075) &&& 1 = 1) : vn_snl2d (rtq (nI k - 1075)) = false ∧ wD (Jvm.FP.Core.val64 (rtq (nI k - 1075)).toUInt64) := by
  have h1 := rtok_all k hk
  unfold rtok at h1
  rw [if_neg h, Bool.and_eq_true] at h1
  exact ⟨by simpa using h1.1, isW_w h1.2⟩
theorem root_e {a : UInt64} (h : a.toNat < 2 ^ 63) : ∃ k : Nat, k < 2048 ∧ (a.toInt64 >>> ((52 : Int32).toInt64 &&& 63)).toInt32 = nI k := by
  have e52 : ((52 : Int32).toInt64 &&& 63) = 52 := by decide
  rw [e52]
  have ha : a.toInt64.toInt = (a.toNat : Int) := by
    show (a.toBitVec).toInt = _
    rw [BitVec.toInt_eq_toNat_of_lt (show 2 * a.toBitVec.toNat < 2 ^ 64 by have : a.toBitVec.toNat = a.toNat := rfl; omega)]
    rfl
  have h1 : (a.toInt64 >>> (52 : Int64)).toInt = ((a.toNat / 2 ^ 52 : Nat) : Int) := by
    show (a.toInt64 >>> (52 : Int64)).toBitVec.toInt = _
    rw [Int64.toBitVec_shiftRight]
    have h52 : ((52 : Int64).toBitVec.smod 64) = 52#64 := by decide
    rw [h52]
    show (BitVec.sshiftRight a.toInt64.toBitVec 52).toInt = _
    rw [BitVec.toInt_sshiftRight]
    show a.toInt64.toInt >>> (52 : Nat) = _
    rw [ha, Int.shiftRight_eq_div_pow]
    first | rfl | norm_cast | omega
  have hk : a.toNat / 2 ^ 52 < 2048 := by omega
  refine ⟨a.toNat / 2 ^ 52, hk, ?_⟩
  have h2 : a.toInt64 >>> (52 : Int64) = Int64.ofNat (a.toNat / 2 ^ 52) := by
    apply Int64.toInt_inj.mp
    rw [h1, Int64.toInt_ofNat_of_lt (by omega)]
  rw [h2, ofL (by omega)]
theorem cmp_self {q : UInt64} (h : nn64 q) : Op.cmpValue (FP.dcmp q q) .l = 0 := by
  show Op.cmpValue (Jvm.FP.Core.dcmp q q) .l = 0
  rw [Jvm.FP.Core.dcmp_self h]
  rfl
theorem c_J_isNaNd (G : EnvG) (l : Launch) (Φ : Hm) (sz : Nat) (q : UInt64) (h1 : nn64 q) (P : Option Value → Hm → Nat → Prop) (hP : P (some (.int 0)) Φ sz) : Ct G l yJxe99ae_isNaN_b9ae7 wsJxe99ae_isNaN_b9ae7 ({ frames := 0, cells := 0, slots := 0, locals := 0 }) 0 0 [.double q] Φ sz P := by
  refine Ct.ofF (cc := cJxe99ae_isNaN_b9ae7) (maxL := 2) (ret := (some .boolean)) (by decide +kernel) rfl (Nat.le_of_ble_eq_true rfl) ?_
  intro p9 e9 s9 m9 w9 t9 k9 B
  show Z p9 l e9 _ s9 m9 _ w9 t9 k9 _ G 2 0 [(0, .double q)] [] Φ (sz) 0 0
  refine z_dload_n B dJxe99ae_isNaN_b9ae7_0 rfl 0 rfl ?_
  refine z_dload_n B dJxe99ae_isNaN_b9ae7_1 rfl 0 rfl ?_
  refine z_dcmp B dJxe99ae_isNaN_b9ae7_2 ?_
  refine z_if_eq (tgt := 10) B dJxe99ae_isNaN_b9ae7_3 rfl (fun c_1 => ?_) (fun h9 => absurd (cmp_self h1) h9)
  refine z_iconst (v := 0) B dJxe99ae_isNaN_b9ae7_10 rfl ?_
  exact z_ret_z B dJxe99ae_isNaN_b9ae7_11 (by decide) hP
theorem c_J_d2l (G : EnvG) (l : Launch) (Φ : Hm) (sz : Nat) (q : UInt64) (h1 : nn64 q) (P : Option Value → Hm → Nat → Prop) (hP : P (some (.long q.toInt64)) Φ sz) : Ct G l yJxe99ae_doubleToLongBits_ccdee wsJxe99ae_doubleToLongBits_ccdee ({ frames := 1, cells := 0, slots := 0, locals := 21 }) 0 0 [.double q] Φ sz P := by
  refine Ct.ofF (cc := cJxe99ae_doubleToLongBits_ccdee) (maxL := 2) (ret := (some .long)) (by decide +kernel) rfl (Nat.le_of_ble_eq_true rfl) ?_
  intro p9 e9 s9 m9 w9 t9 k9 B
  show Z p9 l e9 _ s9 m9 _ w9 t9 k9 _ G 2 0 [(0, .double q)] [] Φ (sz) 0 0
  refine z_dload_n B dJxe99ae_doubleToLongBits_ccdee_0 rfl 0 rfl ?_
  refine z_callS (As := [.double q]) (rest := []) B (c_J_isNaNd G l Φ sz q h1 (fun v Φ1 sz1 => v = some (.int 0) ∧ Φ1 = Φ ∧ sz1 = sz) ⟨rfl, rfl, rfl⟩) (va_cwS 1 B.1.2.2.2.2 gJxe99ae_doubleToLongBits_ccdee_Jxe99ae_isNaN_b9ae7 rfl rfl rfl (by decide +kernel) ⟨Nat.le_of_ble_eq_true rfl, Nat.le_of_ble_eq_true rfl⟩) rfl rfl (Nat.le_of_ble_eq_true rfl) dJxe99ae_doubleToLongBits_ccdee_1 ⟨Nat.le_of_ble_eq_true rfl, Nat.le_of_ble_eq_true rfl⟩ (fun v1 Φ1 sz1 st1 hp1 hs1 => ?_)
  obtain ⟨h4, h2, h3⟩ := hp1
  subst h4
  subst h2
  subst h3
  subst hs1
  refine z_if_ne (tgt := 12) B dJxe99ae_doubleToLongBits_ccdee_4 rfl (fun h9 => absurd rfl h9) (fun c_1 => ?_)
  refine z_dload_n B dJxe99ae_doubleToLongBits_ccdee_7 rfl 0 rfl ?_
  refine z_dbits B (by decide +kernel) (by decide +kernel) (by decide +kernel) (by decide +kernel) ⟨Nat.le_of_ble_eq_true rfl, Nat.le_of_ble_eq_true rfl⟩ dJxe99ae_doubleToLongBits_ccdee_8 ?_
  exact z_ret_l B dJxe99ae_doubleToLongBits_ccdee_11 hP
theorem down28 {i : Int32} (h : ¬ i < (-27)) : ((i + (-1)).toInt + 28).toNat < (i.toInt + 28).toNat := by
  have h0 := Int32.le_toInt i
  have h1 := Int32.toInt_lt i
  rw [Int32.lt_iff_toInt_lt] at h
  have h2 : (-27 : Int32).toInt = -27 := by decide
  rw [h2] at h
  have h3 : (i + (-1)).toInt = i.toInt - 1 := by
    rw [Int32.toInt_add]
    have h4 : (-1 : Int32).toInt = -1 := by decide
    rw [h4, Int.bmod_eq_of_le (by omega) (by omega)]
    omega
  omega

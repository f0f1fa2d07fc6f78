set_option maxHeartbeats 4000000 in
set_option maxRecDepth 100000 in
theorem r_totalMargin (G : EnvG) (l : Launch) (Φ : Hm) (sz x : Nat) (rd : (Nat → Int32) → Prop) (fl : Nat) (pe : Nat) (le : Nat) (nx : Nat) (il : Nat) (qu : Nat) (kn : Int32) (ec : Int32) (nu : Int32) (va : Int64) (a : Int32) (hx : G.2.2.2 ≤ x) (hI : Im G x (rd, NN, fl, pe, le, nx, il, qu, kn, ec, nu, va) Φ)  : Ct G l yX12_totalMargin wsX12_totalMargin ({ frames := 4, cells := 0, slots := 0, locals := 94 }) 0 0 [.ref x, .int a] Φ sz (fun v Φ1 sz1 => (∃ r9 : UInt64, v = some (.double r9) ∧ nn64 r9) ∧ sz1 = sz ∧ (Im G x (rd, NN, fl, pe, le, nx, il, qu, kn, ec, nu, va) Φ1) ∧ Fr x (fun j9 => j9 = 0) Φ Φ1) := by
  refine Ct.of (cc := cX12_totalMargin) (maxL := 5) (ret := (some .double)) (by decide) rfl (Nat.le_of_ble_eq_true rfl) ?_
  intro p9 e9 s9 m9 w9 t9 k9 B
  show Z p9 l e9 _ s9 m9 _ w9 t9 k9 _ G 5 0 [(0, .ref x), (1, .int a)] [] Φ sz 0 0
  refine z_aload_n B dX12_totalMargin_0 rfl 0 rfl ?_
  refine z_iconst (v := 0) B dX12_totalMargin_1 rfl ?_
  obtain ⟨v_1, v_2, v_3, n_1, v_4, v_5, v_6, v_7, v_8, v_9, v_10, v_11, v_12, n_2, v_13, n_3, n_4, v_14, v_15, h_1, b_12, b_1, b_2, b_3, b_4, b_5, b_6, b_7, b_8, b_9, b_10, b_11⟩ := im0 hI
  replace b_1 : 1 ≤ n_1 := b_1
  replace b_2 : n_1 ≤ 1024 := b_2
  replace b_3 : fl ≤ 12 := b_3
  replace b_4 : pe ≤ 24 := b_4
  replace b_5 : le ≤ 700 := b_5
  replace b_6 : qu ≤ 12 := b_6
  replace b_7 : n_2 ≤ 8 := b_7
  replace b_8 : n_3 ≤ 24 := b_8
  replace b_9 : n_4 ≤ 24 := b_9
  replace b_10 : il ≤ 700 := b_10
  replace b_11 : nx ≤ 701 := b_11
  have h_2 : Φ x = some (o_ 14 [.int v_1, .ref (x + 1), .ref (x + 2), .int v_2, .int v_3, .int (nI n_1), .int v_4, .int v_5, .ref (x + 3), .ref (x + 4), .int v_6, .long v_7, .ref (x + 5), .int (nI fl), .int v_8, .long v_9, .long v_10, .long v_11, .long v_12, .ref (x + 6), .ref (x + 7), .int (nI pe), .ref (x + 8), .int (nI le), .ref (x + 9), .ref (x + 10), .int (nI qu), .ref (x + 11), .ref (x + 12), .ref (x + 13), .ref (x + 14), .ref (x + 15), .ref (x + 16), .int (nI n_2), .long v_13, .ref (x + 17), .ref (x + 18), .ref (x + 19), .ref (x + 20), .ref (x + 21), .ref (x + 22), .int (nI n_3), .ref (x + 23), .ref (x + 24), .int (nI n_4), .ref (x + 25), .int (nI il), .int (nI nx), .int ec, .int v_14, .int kn, .int v_15, .int nu, .long va]) := h_1
  refine z_put (ref := "FlowExporterModel") (C := RX12) (T := TX12) (N := 54) (ci := 14) (v := .int 0) B (by decide +kernel) tyX12 tyX12_ok nmX12 rfl 0 (by decide) (by decide +kernel) rfl (Or.inl rfl) h_2 hx rfl rfl (Nat.le_of_ble_eq_true rfl) dX12_totalMargin_2 (fun Φ1 hΦ1 => ?_)
  have h_3 : Φ1 x = some (o_ 14 [.int 0, .ref (x + 1), .ref (x + 2), .int v_2, .int v_3, .int (nI n_1), .int v_4, .int v_5, .ref (x + 3), .ref (x + 4), .int v_6, .long v_7, .ref (x + 5), .int (nI fl), .int v_8, .long v_9, .long v_10, .long v_11, .long v_12, .ref (x + 6), .ref (x + 7), .int (nI pe), .ref (x + 8), .int (nI le), .ref (x + 9), .ref (x + 10), .int (nI qu), .ref (x + 11), .ref (x + 12), .ref (x + 13), .ref (x + 14), .ref (x + 15), .ref (x + 16), .int (nI n_2), .long v_13, .ref (x + 17), .ref (x + 18), .ref (x + 19), .ref (x + 20), .ref (x + 21), .ref (x + 22), .int (nI n_3), .ref (x + 23), .ref (x + 24), .int (nI n_4), .ref (x + 25), .int (nI il), .int (nI nx), .int ec, .int v_14, .int kn, .int v_15, .int nu, .long va]) := fset_at hΦ1
  have hI1 : Im G x (rd, NN, fl, pe, le, nx, il, qu, kn, ec, nu, va) Φ1 := Im.put0 hI hΦ1 ⟨0, v_2, v_3, n_1, v_4, v_5, v_6, v_7, v_8, v_9, v_10, v_11, v_12, n_2, v_13, n_3, n_4, v_14, v_15, rfl, b_12, (show 1 ≤ n_1 by omega), (show n_1 ≤ 1024 by omega), (show fl ≤ 12 by omega), (show pe ≤ 24 by omega), (show le ≤ 700 by omega), (show qu ≤ 12 by omega), (show n_2 ≤ 8 by omega), (show n_3 ≤ 24 by omega), (show n_4 ≤ 24 by omega), (show il ≤ 700 by omega), (show nx ≤ 701 by omega)⟩
  refine z_aload_n B dX12_totalMargin_5 rfl 0 rfl ?_
  refine z_iload_n B dX12_totalMargin_6 rfl 1 rfl ?_
  refine z_callS (As := [.int a]) (rest := [.ref x]) B (r_isWhat G l Φ1 sz x rd fl pe le nx il qu kn ec nu va a hx hI1 ) (va_cwS 1 B.1.2.2.2.2 gX12_totalMargin_X12_isWhat rfl rfl rfl (by decide +kernel) ⟨Nat.le_of_ble_eq_true rfl, Nat.le_of_ble_eq_true rfl⟩) rfl rfl (Nat.le_of_ble_eq_true rfl) dX12_totalMargin_7 ⟨Nat.le_of_ble_eq_true rfl, Nat.le_of_ble_eq_true rfl⟩ (fun r_1 Φ2 sz1 st1 hp1 hs1 => ?_)
  obtain ⟨ha1, hq1, hI2, hF1⟩ := hp1
  subst sz1
  replace hI2 : Im G x (rd, NN, fl, pe, le, nx, il, qu, kn, ec, nu, va) Φ2 := hI2
  rcases ha1 with rfl | ⟨rfl, n_5, b_13, rfl⟩
  · replace hs1 : st1 = [.int 0, .ref x] := hs1
    subst st1
    refine z_if_ne (tgt := 17) B dX12_totalMargin_10 rfl (fun h9 => absurd (by decide) h9) (fun c_1 => ?_)
    refine z_iconst (v := 1) B dX12_totalMargin_13 rfl ?_
    refine z_goto (tgt := 18) B dX12_totalMargin_14 rfl ?_
    refine z_iconst (v := 1) B dX12_totalMargin_18 rfl ?_
    have h_4 : Φ2 x = some (o_ 14 [.int 0, .ref (x + 1), .ref (x + 2), .int v_2, .int v_3, .int (nI n_1), .int v_4, .int v_5, .ref (x + 3), .ref (x + 4), .int v_6, .long v_7, .ref (x + 5), .int (nI fl), .int v_8, .long v_9, .long v_10, .long v_11, .long v_12, .ref (x + 6), .ref (x + 7), .int (nI pe), .ref (x + 8), .int (nI le), .ref (x + 9), .ref (x + 10), .int (nI qu), .ref (x + 11), .ref (x + 12), .ref (x + 13), .ref (x + 14), .ref (x + 15), .ref (x + 16), .int (nI n_2), .long v_13, .ref (x + 17), .ref (x + 18), .ref (x + 19), .ref (x + 20), .ref (x + 21), .ref (x + 22), .int (nI n_3), .ref (x + 23), .ref (x + 24), .int (nI n_4), .ref (x + 25), .int (nI il), .int (nI nx), .int ec, .int v_14, .int kn, .int v_15, .int nu, .long va]) := ((hF1 x (fun j9 h8 h7 => (show False from h7).elim)).trans h_3)
    refine z_callV (As := [.int 1, .int 1]) (rest := []) B (r_throwsIf G l Φ2 sz x rd fl pe le nx il qu kn ec nu va 1 1 hx hI2 (by decide)) (cwV 2 B.1.2.2.2.2 gX12_totalMargin_X12_throwsIf rfl rfl rfl (by decide +kernel) ⟨Nat.le_of_ble_eq_true rfl, Nat.le_of_ble_eq_true rfl⟩) h_4 rfl rfl rfl rfl (Nat.le_of_ble_eq_true rfl) dX12_totalMargin_19 ⟨Nat.le_of_ble_eq_true rfl, Nat.le_of_ble_eq_true rfl⟩ (fun r_2 Φ3 sz2 st2 hp2 hs2 => ?_)
    obtain ⟨rfl, hq2, hI3, hF2⟩ := hp2
    subst sz2
    replace hs2 : st2 = [.int 1] := hs2
    subst st2
    replace hI3 : Im G x (rd, NN, fl, pe, le, nx, il, qu, kn, ec, nu, va) Φ3 := hI3
    refine z_if_eq (tgt := 27) B dX12_totalMargin_22 rfl (fun h9 => absurd h9 (by decide)) (fun c_2 => ?_)
    refine z_dconst0 B dX12_totalMargin_25 ?_
    exact z_ret_d B dX12_totalMargin_26 ⟨⟨_, rfl, (sm_nn sm_zero)⟩, rfl, hI3, (fun b9 h9 => ((hF2 b9 (fun j9 h8 h7 => h9 j9 h8 (show j9 = 0 by have h6 : j9 = 0 := h7; omega))).trans ((hF1 b9 (fun j9 h8 h7 => (show False from h7).elim)).trans ((fset_fr hΦ1 (fun h8 => h9 (0) h8 (show 0 = 0 by omega))).trans rfl))))⟩
  · replace hs1 : st1 = [.int 1, .ref x] := hs1
    subst st1
    replace b_13 : n_5 < 2 := b_13
    refine z_if_ne (tgt := 17) B dX12_totalMargin_10 rfl (fun c_3 => ?_) (fun h9 => absurd h9 (by decide))
    refine z_iconst (v := 0) B dX12_totalMargin_17 rfl ?_
    refine z_iconst (v := 1) B dX12_totalMargin_18 rfl ?_
    have h_5 : Φ2 x = some (o_ 14 [.int 0, .ref (x + 1), .ref (x + 2), .int v_2, .int v_3, .int (nI n_1), .int v_4, .int v_5, .ref (x + 3), .ref (x + 4), .int v_6, .long v_7, .ref (x + 5), .int (nI fl), .int v_8, .long v_9, .long v_10, .long v_11, .long v_12, .ref (x + 6), .ref (x + 7), .int (nI pe), .ref (x + 8), .int (nI le), .ref (x + 9), .ref (x + 10), .int (nI qu), .ref (x + 11), .ref (x + 12), .ref (x + 13), .ref (x + 14), .ref (x + 15), .ref (x + 16), .int (nI n_2), .long v_13, .ref (x + 17), .ref (x + 18), .ref (x + 19), .ref (x + 20), .ref (x + 21), .ref (x + 22), .int (nI n_3), .ref (x + 23), .ref (x + 24), .int (nI n_4), .ref (x + 25), .int (nI il), .int (nI nx), .int ec, .int v_14, .int kn, .int v_15, .int nu, .long va]) := ((hF1 x (fun j9 h8 h7 => (show False from h7).elim)).trans h_3)
    refine z_callV (As := [.int 0, .int 1]) (rest := []) B (r_throwsIf G l Φ2 sz x rd fl pe le nx il qu kn ec nu va 0 1 hx hI2 (by decide)) (cwV 2 B.1.2.2.2.2 gX12_totalMargin_X12_throwsIf rfl rfl rfl (by decide +kernel) ⟨Nat.le_of_ble_eq_true rfl, Nat.le_of_ble_eq_true rfl⟩) h_5 rfl rfl rfl rfl (Nat.le_of_ble_eq_true rfl) dX12_totalMargin_19 ⟨Nat.le_of_ble_eq_true rfl, Nat.le_of_ble_eq_true rfl⟩ (fun r_3 Φ4 sz3 st3 hp3 hs3 => ?_)
    obtain ⟨rfl, hq3, hI4, hF3⟩ := hp3
    subst sz3
    replace hs3 : st3 = [.int 0] := hs3
    subst st3
    replace hI4 : Im G x (rd, NN, fl, pe, le, nx, il, qu, kn, ec, nu, va) Φ4 := hI4
    refine z_if_eq (tgt := 27) B dX12_totalMargin_22 rfl (fun c_4 => ?_) (fun h9 => absurd (by decide) h9)
    refine z_dconst0 B dX12_totalMargin_27 ?_
    refine z_dstore_n (lv' := [(2, .double FP.dconst0), (0, .ref x), (1, .int (nI n_5))]) B dX12_totalMargin_28 rfl (Nat.le_of_ble_eq_true rfl) rfl ?_
    refine z_iconst (v := 0) B dX12_totalMargin_29 rfl ?_
    refine z_istore (lv' := [(4, .int 0), (2, .double FP.dconst0), (0, .ref x), (1, .int (nI n_5))]) B dX12_totalMargin_30 (Nat.le_of_ble_eq_true rfl) rfl ?_
    refine z_lv [0, 1, 2, 3] rfl ?_
    refine z_loop (α := Nat × UInt64) (fun (a9 : Nat × UInt64) Φi => Im G x (rd, NN, fl, pe, le, nx, il, qu, kn, ec, nu, va) Φi ∧ Fr x (fun j9 => False) Φ4 Φi ∧ (a9.1 ≤ 24) ∧ (pd64 a9.2) ∧ True) (fun a9 => [(4, .int (nI (a9.1))), (2, .double a9.2), (0, .ref x), (1, .int (nI n_5))]) (fun a9 => 24 - a9.1) ?_ (0, FP.dconst0) ⟨hI4, fun _ _ => rfl, (show 0 ≤ 24 by omega), pd_zero, trivial⟩
    rintro ⟨i_1, i_2⟩ Φl1 ⟨hI5, hF4, b_14, b_15, -⟩ ih1
    replace hI5 : Im G x (rd, NN, fl, pe, le, nx, il, qu, kn, ec, nu, va) Φl1 := hI5
    replace b_14 : i_1 ≤ 24 := b_14
    replace b_15 : pd64 i_2 := b_15
    show Z p9 l e9 _ s9 m9 _ w9 t9 k9 _ G 5 32 [(4, .int (nI i_1)), (2, .double i_2), (0, .ref x), (1, .int (nI n_5))] [] Φl1 _ _ _
    refine z_iload B dX12_totalMargin_32 0 rfl ?_
    refine z_aload_n B dX12_totalMargin_34 rfl 2 rfl ?_
    obtain ⟨v_16, v_17, v_18, n_6, v_19, v_20, v_21, v_22, v_23, v_24, v_25, v_26, v_27, n_7, v_28, n_8, n_9, v_29, v_30, h_6, b_27, b_16, b_17, b_18, b_19, b_20, b_21, b_22, b_23, b_24, b_25, b_26⟩ := im0 hI5
    replace b_16 : 1 ≤ n_6 := b_16
    replace b_17 : n_6 ≤ 1024 := b_17
    replace b_18 : fl ≤ 12 := b_18
    replace b_19 : pe ≤ 24 := b_19
    replace b_20 : le ≤ 700 := b_20
    replace b_21 : qu ≤ 12 := b_21
    replace b_22 : n_7 ≤ 8 := b_22
    replace b_23 : n_8 ≤ 24 := b_23
    replace b_24 : n_9 ≤ 24 := b_24
    replace b_25 : il ≤ 700 := b_25
    replace b_26 : nx ≤ 701 := b_26
    have h_7 : Φl1 x = some (o_ 14 [.int v_16, .ref (x + 1), .ref (x + 2), .int v_17, .int v_18, .int (nI n_6), .int v_19, .int v_20, .ref (x + 3), .ref (x + 4), .int v_21, .long v_22, .ref (x + 5), .int (nI fl), .int v_23, .long v_24, .long v_25, .long v_26, .long v_27, .ref (x + 6), .ref (x + 7), .int (nI pe), .ref (x + 8), .int (nI le), .ref (x + 9), .ref (x + 10), .int (nI qu), .ref (x + 11), .ref (x + 12), .ref (x + 13), .ref (x + 14), .ref (x + 15), .ref (x + 16), .int (nI n_7), .long v_28, .ref (x + 17), .ref (x + 18), .ref (x + 19), .ref (x + 20), .ref (x + 21), .ref (x + 22), .int (nI n_8), .ref (x + 23), .ref (x + 24), .int (nI n_9), .ref (x + 25), .int (nI il), .int (nI nx), .int ec, .int v_29, .int kn, .int v_30, .int nu, .long va]) := h_6
    refine z_get (ref := "FlowExporterModel") (C := RX12) (T := TX12) (N := 54) (ci := 14) (v := .int (nI n_8)) B (by decide +kernel) rfl 41 (by decide) (by decide +kernel) rfl h_7 rfl dX12_totalMargin_35 ?_
    refine z_icmp_ge (tgt := 61) B dX12_totalMargin_38 rfl (fun c_5 => ?_) (fun c_5 => ?_)
    · have e_1 : n_8 ≤ i_1 := (nI_leI (a := n_8) (b := i_1) (by omega) (by omega)).mp c_5
      refine z_dload_n B dX12_totalMargin_61 rfl 1 rfl ?_
      refine z_callS (As := [.double i_2]) (rest := []) B (r_marginOf G l Φl1 sz x rd fl pe le nx il qu kn ec nu va i_2 hx hI5 b_15) (va_cwS 1 B.1.2.2.2.2 gX12_totalMargin_X12_marginOf rfl rfl rfl (by decide +kernel) ⟨Nat.le_of_ble_eq_true rfl, Nat.le_of_ble_eq_true rfl⟩) rfl rfl (Nat.le_of_ble_eq_true rfl) dX12_totalMargin_62 ⟨Nat.le_of_ble_eq_true rfl, Nat.le_of_ble_eq_true rfl⟩ (fun r_4 Φ5 sz4 st4 hp4 hs4 => ?_)
      obtain ⟨⟨v_31, rfl, q_1⟩, hq4, hI6, hF5⟩ := hp4
      subst sz4
      replace hs4 : st4 = [.double v_31] := hs4
      subst st4
      replace hI6 : Im G x (rd, NN, fl, pe, le, nx, il, qu, kn, ec, nu, va) Φ5 := hI6
      exact z_ret_d B dX12_totalMargin_65 ⟨⟨_, rfl, q_1⟩, rfl, hI6, (fun b9 h9 => ((hF5 b9 (fun j9 h8 h7 => (show False from h7).elim)).trans ((hF4 b9 (fun j9 h8 h7 => (show False from h7).elim)).trans ((hF3 b9 (fun j9 h8 h7 => h9 j9 h8 (show j9 = 0 by have h6 : j9 = 0 := h7; omega))).trans ((hF1 b9 (fun j9 h8 h7 => (show False from h7).elim)).trans ((fset_fr hΦ1 (fun h8 => h9 (0) h8 (show 0 = 0 by omega))).trans rfl))))))⟩
    · have e_2 : ¬ (n_8 ≤ i_1) := fun h9 => c_5 ((nI_leI (a := n_8) (b := i_1) (by omega) (by omega)).mpr h9)
      refine z_dload_n B dX12_totalMargin_41 rfl 1 rfl ?_
      refine z_aload_n B dX12_totalMargin_42 rfl 2 rfl ?_
      refine z_get (ref := "FlowExporterModel") (C := RX12) (T := TX12) (N := 54) (ci := 14) (v := .ref (x + 22)) B (by decide +kernel) rfl 40 (by decide) (by decide +kernel) rfl h_7 rfl dX12_totalMargin_43 ?_
      refine z_iconst (v := 2) B dX12_totalMargin_46 rfl ?_
      refine z_iload B dX12_totalMargin_47 0 rfl ?_
      refine z_imul B dX12_totalMargin_49 ?_
      refine z_top (st1 := [.int (nI (2 * i_1)), .ref (x + 22), .double i_2]) (congrArg (fun w9 : Int32 => ([.int w9, .ref (x + 22), .double i_2] : List Value)) (nI_mul 2 i_1)) ?_
      refine z_iload_n B dX12_totalMargin_50 rfl 3 rfl ?_
      refine z_iadd B dX12_totalMargin_51 ?_
      refine z_top (st1 := [.int (nI (2 * i_1 + n_5)), .ref (x + 22), .double i_2]) (congrArg (fun w9 : Int32 => ([.int w9, .ref (x + 22), .double i_2] : List Value)) (nI_add (2 * i_1) n_5)) ?_
      obtain ⟨f_1, h_8, r_5⟩ := imk (k := 22) hI5
      have h_9 : Φl1 (x + 22) = some (ad_ G 48 f_1) := h_8
      refine z_dald B h_9 (vp_in_nI (by omega) (by omega)) dX12_totalMargin_52 ?_
      refine z_fdq (P := fun u9 : UInt64 => pd64 u9) (r_5 _) (fun v_33 q_3 => ?_)
      replace q_3 : pd64 v_33 := q_3
      have q_5 : pd64 (FP.dadd i_2 v_33) := (pd_add b_15 q_3)
      refine z_dadd B dX12_totalMargin_53 (vf_of (pd_nn q_5)) ?_
      refine z_fdq (P := fun u9 : UInt64 => pd64 u9) q_5 (fun v_34 q_7 => ?_)
      replace q_7 : pd64 v_34 := q_7
      refine z_dstore_n (lv' := [(2, .double v_34), (4, .int (nI i_1)), (0, .ref x), (1, .int (nI n_5))]) B dX12_totalMargin_54 rfl (Nat.le_of_ble_eq_true rfl) rfl ?_
      refine z_iinc (k := 1) (v := nI (i_1 + 1)) (lv' := [(4, .int (nI (i_1 + 1))), (2, .double v_34), (0, .ref x), (1, .int (nI n_5))]) B dX12_totalMargin_55 rfl (nI_add i_1 1) (Nat.le_of_ble_eq_true rfl) rfl ?_
      refine z_goto (tgt := 32) B dX12_totalMargin_58 rfl ?_
      refine z_lv [0, 1, 2, 3] rfl ?_
      exact ih1 (i_1 + 1, v_34) Φl1 (show 24 - (i_1 + 1) < 24 - i_1 by omega) ⟨hI5, (fun b9 h9 => ((hF4 b9 (fun j9 h8 h7 => (show False from h7).elim)).trans rfl)), (show (i_1 + 1) ≤ 24 by omega), q_7, trivial⟩

set_option maxHeartbeats 4000000 in
set_option maxRecDepth 100000 in
theorem r_ranked (G : EnvG) (l : Launch) (Φ : Hm) (sz x : Nat) (rd : (Nat → Int32) → Prop) (fl : Nat) (pe : Nat) (le : Nat) (nx : Nat) (il : Nat) (qu : Nat) (kn : Int32) (ec : Int32) (nu : Int32) (va : Int64) (a : Int32) (b : Int32) (hx : G.2.2.2 ≤ x) (hI : Im G x (rd, NN, fl, pe, le, nx, il, qu, kn, ec, nu, va) Φ)  : Ct G l yX12_ranked wsX12_ranked ({ frames := 2, cells := 0, slots := 0, locals := 45 }) 0 0 [.ref x, .int a, .int b] Φ sz (fun v Φ1 sz1 => (∃ r9 : Int32, v = some (.int r9)) ∧ sz1 = sz ∧ (Im G x (rd, NN, fl, pe, le, nx, il, qu, kn, ec, nu, va) Φ1) ∧ Fr x (fun j9 => j9 = 0) Φ Φ1) := by
  refine Ct.of (cc := cX12_ranked) (maxL := 10) (ret := (some .int)) (by decide) rfl (Nat.le_of_ble_eq_true rfl) ?_
  intro p9 e9 s9 m9 w9 t9 k9 B
  show Z p9 l e9 _ s9 m9 _ w9 t9 k9 _ G 10 0 [(0, .ref x), (1, .int a), (2, .int b)] [] Φ sz 0 0
  refine z_aload_n B dX12_ranked_0 rfl 0 rfl ?_
  refine z_iconst (v := 0) B dX12_ranked_1 rfl ?_
  obtain ⟨v_1, v_2, v_3, n_1, v_4, v_5, v_6, v_7, v_8, v_9, v_10, v_11, v_12, n_2, v_13, n_3, n_4, v_14, v_15, h_1, b_12, b_1, b_2, b_3, b_4, b_5, b_6, b_7, b_8, b_9, b_10, b_11⟩ := im0 hI
  replace b_1 : 1 ≤ n_1 := b_1
  replace b_2 : n_1 ≤ 1024 := b_2
  replace b_3 : fl ≤ 12 := b_3
  replace b_4 : pe ≤ 24 := b_4
  replace b_5 : le ≤ 700 := b_5
  replace b_6 : qu ≤ 12 := b_6
  replace b_7 : n_2 ≤ 8 := b_7
  replace b_8 : n_3 ≤ 24 := b_8
  replace b_9 : n_4 ≤ 24 := b_9
  replace b_10 : il ≤ 700 := b_10
  replace b_11 : nx ≤ 701 := b_11
  have h_2 : Φ x = some (o_ 14 [.int v_1, .ref (x + 1), .ref (x + 2), .int v_2, .int v_3, .int (nI n_1), .int v_4, .int v_5, .ref (x + 3), .ref (x + 4), .int v_6, .long v_7, .ref (x + 5), .int (nI fl), .int v_8, .long v_9, .long v_10, .long v_11, .long v_12, .ref (x + 6), .ref (x + 7), .int (nI pe), .ref (x + 8), .int (nI le), .ref (x + 9), .ref (x + 10), .int (nI qu), .ref (x + 11), .ref (x + 12), .ref (x + 13), .ref (x + 14), .ref (x + 15), .ref (x + 16), .int (nI n_2), .long v_13, .ref (x + 17), .ref (x + 18), .ref (x + 19), .ref (x + 20), .ref (x + 21), .ref (x + 22), .int (nI n_3), .ref (x + 23), .ref (x + 24), .int (nI n_4), .ref (x + 25), .int (nI il), .int (nI nx), .int ec, .int v_14, .int kn, .int v_15, .int nu, .long va]) := h_1
  refine z_put (ref := "FlowExporterModel") (C := RX12) (T := TX12) (N := 54) (ci := 14) (v := .int 0) B (by decide +kernel) tyX12 tyX12_ok nmX12 rfl 0 (by decide) (by decide +kernel) rfl (Or.inl rfl) h_2 hx rfl rfl (Nat.le_of_ble_eq_true rfl) dX12_ranked_2 (fun Φ1 hΦ1 => ?_)
  have h_3 : Φ1 x = some (o_ 14 [.int 0, .ref (x + 1), .ref (x + 2), .int v_2, .int v_3, .int (nI n_1), .int v_4, .int v_5, .ref (x + 3), .ref (x + 4), .int v_6, .long v_7, .ref (x + 5), .int (nI fl), .int v_8, .long v_9, .long v_10, .long v_11, .long v_12, .ref (x + 6), .ref (x + 7), .int (nI pe), .ref (x + 8), .int (nI le), .ref (x + 9), .ref (x + 10), .int (nI qu), .ref (x + 11), .ref (x + 12), .ref (x + 13), .ref (x + 14), .ref (x + 15), .ref (x + 16), .int (nI n_2), .long v_13, .ref (x + 17), .ref (x + 18), .ref (x + 19), .ref (x + 20), .ref (x + 21), .ref (x + 22), .int (nI n_3), .ref (x + 23), .ref (x + 24), .int (nI n_4), .ref (x + 25), .int (nI il), .int (nI nx), .int ec, .int v_14, .int kn, .int v_15, .int nu, .long va]) := fset_at hΦ1
  have hI1 : Im G x (rd, NN, fl, pe, le, nx, il, qu, kn, ec, nu, va) Φ1 := Im.put0 hI hΦ1 ⟨0, v_2, v_3, n_1, v_4, v_5, v_6, v_7, v_8, v_9, v_10, v_11, v_12, n_2, v_13, n_3, n_4, v_14, v_15, rfl, b_12, (show 1 ≤ n_1 by omega), (show n_1 ≤ 1024 by omega), (show fl ≤ 12 by omega), (show pe ≤ 24 by omega), (show le ≤ 700 by omega), (show qu ≤ 12 by omega), (show n_2 ≤ 8 by omega), (show n_3 ≤ 24 by omega), (show n_4 ≤ 24 by omega), (show il ≤ 700 by omega), (show nx ≤ 701 by omega)⟩
  refine z_aload_n B dX12_ranked_5 rfl 0 rfl ?_
  refine z_iload_n B dX12_ranked_6 rfl 2 rfl ?_
  refine z_callS (As := [.int b]) (rest := [.ref x]) B (r_isWhat G l Φ1 sz x rd fl pe le nx il qu kn ec nu va b hx hI1 ) (va_cwS 1 B.1.2.2.2.2 gX12_ranked_X12_isWhat rfl rfl rfl (by decide +kernel) ⟨Nat.le_of_ble_eq_true rfl, Nat.le_of_ble_eq_true rfl⟩) rfl rfl (Nat.le_of_ble_eq_true rfl) dX12_ranked_7 ⟨Nat.le_of_ble_eq_true rfl, Nat.le_of_ble_eq_true rfl⟩ (fun r_1 Φ2 sz1 st1 hp1 hs1 => ?_)
  obtain ⟨ha1, hq1, hI2, hF1⟩ := hp1
  subst sz1
  replace hI2 : Im G x (rd, NN, fl, pe, le, nx, il, qu, kn, ec, nu, va) Φ2 := hI2
  rcases ha1 with rfl | ⟨rfl, n_5, b_13, rfl⟩
  · replace hs1 : st1 = [.int 0, .ref x] := hs1
    subst st1
    refine z_if_ne (tgt := 17) B dX12_ranked_10 rfl (fun h9 => absurd (by decide) h9) (fun c_1 => ?_)
    refine z_iconst (v := 1) B dX12_ranked_13 rfl ?_
    refine z_goto (tgt := 18) B dX12_ranked_14 rfl ?_
    refine z_iconst (v := 1) B dX12_ranked_18 rfl ?_
    have h_4 : Φ2 x = some (o_ 14 [.int 0, .ref (x + 1), .ref (x + 2), .int v_2, .int v_3, .int (nI n_1), .int v_4, .int v_5, .ref (x + 3), .ref (x + 4), .int v_6, .long v_7, .ref (x + 5), .int (nI fl), .int v_8, .long v_9, .long v_10, .long v_11, .long v_12, .ref (x + 6), .ref (x + 7), .int (nI pe), .ref (x + 8), .int (nI le), .ref (x + 9), .ref (x + 10), .int (nI qu), .ref (x + 11), .ref (x + 12), .ref (x + 13), .ref (x + 14), .ref (x + 15), .ref (x + 16), .int (nI n_2), .long v_13, .ref (x + 17), .ref (x + 18), .ref (x + 19), .ref (x + 20), .ref (x + 21), .ref (x + 22), .int (nI n_3), .ref (x + 23), .ref (x + 24), .int (nI n_4), .ref (x + 25), .int (nI il), .int (nI nx), .int ec, .int v_14, .int kn, .int v_15, .int nu, .long va]) := ((hF1 x (fun j9 h8 h7 => (show False from h7).elim)).trans h_3)
    refine z_callV (As := [.int 1, .int 1]) (rest := []) B (r_throwsIf G l Φ2 sz x rd fl pe le nx il qu kn ec nu va 1 1 hx hI2 (by decide)) (cwV 2 B.1.2.2.2.2 gX12_ranked_X12_throwsIf rfl rfl rfl (by decide +kernel) ⟨Nat.le_of_ble_eq_true rfl, Nat.le_of_ble_eq_true rfl⟩) h_4 rfl rfl rfl rfl (Nat.le_of_ble_eq_true rfl) dX12_ranked_19 ⟨Nat.le_of_ble_eq_true rfl, Nat.le_of_ble_eq_true rfl⟩ (fun r_2 Φ3 sz2 st2 hp2 hs2 => ?_)
    obtain ⟨rfl, hq2, hI3, hF2⟩ := hp2
    subst sz2
    replace hs2 : st2 = [.int 1] := hs2
    subst st2
    replace hI3 : Im G x (rd, NN, fl, pe, le, nx, il, qu, kn, ec, nu, va) Φ3 := hI3
    refine z_if_eq (tgt := 27) B dX12_ranked_22 rfl (fun h9 => absurd h9 (by decide)) (fun c_2 => ?_)
    refine z_iconst (v := 0) B dX12_ranked_25 rfl ?_
    exact z_ret_i B dX12_ranked_26 ⟨⟨_, rfl⟩, rfl, hI3, (fun b9 h9 => ((hF2 b9 (fun j9 h8 h7 => h9 j9 h8 (show j9 = 0 by have h6 : j9 = 0 := h7; omega))).trans ((hF1 b9 (fun j9 h8 h7 => (show False from h7).elim)).trans ((fset_fr hΦ1 (fun h8 => h9 (0) h8 (show 0 = 0 by omega))).trans rfl))))⟩
  · replace hs1 : st1 = [.int 1, .ref x] := hs1
    subst st1
    replace b_13 : n_5 < 2 := b_13
    refine z_if_ne (tgt := 17) B dX12_ranked_10 rfl (fun c_3 => ?_) (fun h9 => absurd h9 (by decide))
    refine z_iconst (v := 0) B dX12_ranked_17 rfl ?_
    refine z_iconst (v := 1) B dX12_ranked_18 rfl ?_
    have h_5 : Φ2 x = some (o_ 14 [.int 0, .ref (x + 1), .ref (x + 2), .int v_2, .int v_3, .int (nI n_1), .int v_4, .int v_5, .ref (x + 3), .ref (x + 4), .int v_6, .long v_7, .ref (x + 5), .int (nI fl), .int v_8, .long v_9, .long v_10, .long v_11, .long v_12, .ref (x + 6), .ref (x + 7), .int (nI pe), .ref (x + 8), .int (nI le), .ref (x + 9), .ref (x + 10), .int (nI qu), .ref (x + 11), .ref (x + 12), .ref (x + 13), .ref (x + 14), .ref (x + 15), .ref (x + 16), .int (nI n_2), .long v_13, .ref (x + 17), .ref (x + 18), .ref (x + 19), .ref (x + 20), .ref (x + 21), .ref (x + 22), .int (nI n_3), .ref (x + 23), .ref (x + 24), .int (nI n_4), .ref (x + 25), .int (nI il), .int (nI nx), .int ec, .int v_14, .int kn, .int v_15, .int nu, .long va]) := ((hF1 x (fun j9 h8 h7 => (show False from h7).elim)).trans h_3)
    refine z_callV (As := [.int 0, .int 1]) (rest := []) B (r_throwsIf G l Φ2 sz x rd fl pe le nx il qu kn ec nu va 0 1 hx hI2 (by decide)) (cwV 2 B.1.2.2.2.2 gX12_ranked_X12_throwsIf rfl rfl rfl (by decide +kernel) ⟨Nat.le_of_ble_eq_true rfl, Nat.le_of_ble_eq_true rfl⟩) h_5 rfl rfl rfl rfl (Nat.le_of_ble_eq_true rfl) dX12_ranked_19 ⟨Nat.le_of_ble_eq_true rfl, Nat.le_of_ble_eq_true rfl⟩ (fun r_3 Φ4 sz3 st3 hp3 hs3 => ?_)
    obtain ⟨rfl, hq3, hI4, hF3⟩ := hp3
    subst sz3
    replace hs3 : st3 = [.int 0] := hs3
    subst st3
    replace hI4 : Im G x (rd, NN, fl, pe, le, nx, il, qu, kn, ec, nu, va) Φ4 := hI4
    refine z_if_eq (tgt := 27) B dX12_ranked_22 rfl (fun c_4 => ?_) (fun h9 => absurd (by decide) h9)
    refine z_iconst (v := 0) B dX12_ranked_27 rfl ?_
    refine z_istore_n (lv' := [(3, .int 0), (0, .ref x), (1, .int a), (2, .int (nI n_5))]) B dX12_ranked_28 rfl (Nat.le_of_ble_eq_true rfl) rfl ?_
    refine z_lv [0, 1, 2, 3] rfl ?_
    refine z_loop (α := Nat) (fun (a9 : Nat) Φi => Im G x (rd, NN, fl, pe, le, nx, il, qu, kn, ec, nu, va) Φi ∧ Fr x (fun j9 => False) Φ4 Φi ∧ (a9 ≤ 24) ∧ True) (fun a9 => [(3, .int (nI a9)), (0, .ref x), (1, .int a), (2, .int (nI n_5))]) (fun a9 => 24 - a9) ?_ (0) ⟨hI4, fun _ _ => rfl, (show 0 ≤ 24 by omega), trivial⟩
    rintro i_1 Φl1 ⟨hI5, hF4, b_14, -⟩ ih1
    replace hI5 : Im G x (rd, NN, fl, pe, le, nx, il, qu, kn, ec, nu, va) Φl1 := hI5
    replace b_14 : i_1 ≤ 24 := b_14
    show Z p9 l e9 _ s9 m9 _ w9 t9 k9 _ G 10 29 [(3, .int (nI i_1)), (0, .ref x), (1, .int a), (2, .int (nI n_5))] [] Φl1 _ _ _
    refine z_iload_n B dX12_ranked_29 rfl 0 rfl ?_
    refine z_aload_n B dX12_ranked_30 rfl 1 rfl ?_
    obtain ⟨v_16, v_17, v_18, n_6, v_19, v_20, v_21, v_22, v_23, v_24, v_25, v_26, v_27, n_7, v_28, n_8, n_9, v_29, v_30, h_6, b_26, b_15, b_16, b_17, b_18, b_19, b_20, b_21, b_22, b_23, b_24, b_25⟩ := im0 hI5
    replace b_15 : 1 ≤ n_6 := b_15
    replace b_16 : n_6 ≤ 1024 := b_16
    replace b_17 : fl ≤ 12 := b_17
    replace b_18 : pe ≤ 24 := b_18
    replace b_19 : le ≤ 700 := b_19
    replace b_20 : qu ≤ 12 := b_20
    replace b_21 : n_7 ≤ 8 := b_21
    replace b_22 : n_8 ≤ 24 := b_22
    replace b_23 : n_9 ≤ 24 := b_23
    replace b_24 : il ≤ 700 := b_24
    replace b_25 : nx ≤ 701 := b_25
    have h_7 : Φl1 x = some (o_ 14 [.int v_16, .ref (x + 1), .ref (x + 2), .int v_17, .int v_18, .int (nI n_6), .int v_19, .int v_20, .ref (x + 3), .ref (x + 4), .int v_21, .long v_22, .ref (x + 5), .int (nI fl), .int v_23, .long v_24, .long v_25, .long v_26, .long v_27, .ref (x + 6), .ref (x + 7), .int (nI pe), .ref (x + 8), .int (nI le), .ref (x + 9), .ref (x + 10), .int (nI qu), .ref (x + 11), .ref (x + 12), .ref (x + 13), .ref (x + 14), .ref (x + 15), .ref (x + 16), .int (nI n_7), .long v_28, .ref (x + 17), .ref (x + 18), .ref (x + 19), .ref (x + 20), .ref (x + 21), .ref (x + 22), .int (nI n_8), .ref (x + 23), .ref (x + 24), .int (nI n_9), .ref (x + 25), .int (nI il), .int (nI nx), .int ec, .int v_29, .int kn, .int v_30, .int nu, .long va]) := h_6
    refine z_get (ref := "FlowExporterModel") (C := RX12) (T := TX12) (N := 54) (ci := 14) (v := .int (nI n_8)) B (by decide +kernel) rfl 41 (by decide) (by decide +kernel) rfl h_7 rfl dX12_ranked_31 ?_
    refine z_icmp_ge (tgt := 129) B dX12_ranked_34 rfl (fun c_5 => ?_) (fun c_5 => ?_)
    · have e_1 : n_8 ≤ i_1 := (nI_leI (a := n_8) (b := i_1) (by omega) (by omega)).mp c_5
      refine z_iconst (v := (-1)) B dX12_ranked_129 rfl ?_
      exact z_ret_i B dX12_ranked_130 ⟨⟨_, rfl⟩, rfl, hI5, (fun b9 h9 => ((hF4 b9 (fun j9 h8 h7 => (show False from h7).elim)).trans ((hF3 b9 (fun j9 h8 h7 => h9 j9 h8 (show j9 = 0 by have h6 : j9 = 0 := h7; omega))).trans ((hF1 b9 (fun j9 h8 h7 => (show False from h7).elim)).trans ((fset_fr hΦ1 (fun h8 => h9 (0) h8 (show 0 = 0 by omega))).trans rfl)))))⟩
    · have e_2 : ¬ (n_8 ≤ i_1) := fun h9 => c_5 ((nI_leI (a := n_8) (b := i_1) (by omega) (by omega)).mpr h9)
      refine z_iconst (v := 0) B dX12_ranked_37 rfl ?_
      refine z_istore (lv' := [(4, .int 0), (3, .int (nI i_1)), (0, .ref x), (1, .int a), (2, .int (nI n_5))]) B dX12_ranked_38 (Nat.le_of_ble_eq_true rfl) rfl ?_
      refine z_iconst (v := 0) B dX12_ranked_40 rfl ?_
      refine z_istore (lv' := [(5, .int 0), (4, .int 0), (3, .int (nI i_1)), (0, .ref x), (1, .int a), (2, .int (nI n_5))]) B dX12_ranked_41 (Nat.le_of_ble_eq_true rfl) rfl ?_
      refine z_lv [0, 1, 2, 3, 4, 5] rfl ?_
      refine z_loop (α := Nat × Int32) (fun (a9 : Nat × Int32) Φi => Im G x (rd, NN, fl, pe, le, nx, il, qu, kn, ec, nu, va) Φi ∧ Fr x (fun j9 => False) Φl1 Φi ∧ (a9.1 ≤ 24) ∧ True) (fun a9 => [(5, .int (nI (a9.1))), (4, .int a9.2), (3, .int (nI i_1)), (0, .ref x), (1, .int a), (2, .int (nI n_5))]) (fun a9 => 24 - a9.1) ?_ (0, 0) ⟨hI5, fun _ _ => rfl, (show 0 ≤ 24 by omega), trivial⟩
      rintro ⟨i_2, i_3⟩ Φl2 ⟨hI6, hF5, b_27, -⟩ ih2
      replace hI6 : Im G x (rd, NN, fl, pe, le, nx, il, qu, kn, ec, nu, va) Φl2 := hI6
      replace b_27 : i_2 ≤ 24 := b_27
      show Z p9 l e9 _ s9 m9 _ w9 t9 k9 _ G 10 43 [(5, .int (nI i_2)), (4, .int i_3), (3, .int (nI i_1)), (0, .ref x), (1, .int a), (2, .int (nI n_5))] [] Φl2 _ _ _
      refine z_iload B dX12_ranked_43 0 rfl ?_
      refine z_aload_n B dX12_ranked_45 rfl 3 rfl ?_
      have h_8 : Φl2 x = some (o_ 14 [.int v_16, .ref (x + 1), .ref (x + 2), .int v_17, .int v_18, .int (nI n_6), .int v_19, .int v_20, .ref (x + 3), .ref (x + 4), .int v_21, .long v_22, .ref (x + 5), .int (nI fl), .int v_23, .long v_24, .long v_25, .long v_26, .long v_27, .ref (x + 6), .ref (x + 7), .int (nI pe), .ref (x + 8), .int (nI le), .ref (x + 9), .ref (x + 10), .int (nI qu), .ref (x + 11), .ref (x + 12), .ref (x + 13), .ref (x + 14), .ref (x + 15), .ref (x + 16), .int (nI n_7), .long v_28, .ref (x + 17), .ref (x + 18), .ref (x + 19), .ref (x + 20), .ref (x + 21), .ref (x + 22), .int (nI n_8), .ref (x + 23), .ref (x + 24), .int (nI n_9), .ref (x + 25), .int (nI il), .int (nI nx), .int ec, .int v_29, .int kn, .int v_30, .int nu, .long va]) := ((hF5 x (fun j9 h8 h7 => (show False from h7).elim)).trans h_7)
      refine z_get (ref := "FlowExporterModel") (C := RX12) (T := TX12) (N := 54) (ci := 14) (v := .int (nI n_8)) B (by decide +kernel) rfl 41 (by decide) (by decide +kernel) rfl h_8 rfl dX12_ranked_46 ?_
      refine z_icmp_ge (tgt := 115) B dX12_ranked_49 rfl (fun c_6 => ?_) (fun c_6 => ?_)
      · have e_3 : n_8 ≤ i_2 := (nI_leI (a := n_8) (b := i_2) (by omega) (by omega)).mp c_6
        refine z_iload B dX12_ranked_115 1 rfl ?_
        refine z_iload_n B dX12_ranked_117 rfl 4 rfl ?_
        refine z_icmp_ne (tgt := 123) B dX12_ranked_118 rfl (fun c_7 => ?_) (fun c_7 => ?_)
        · refine z_iinc (k := 2) (v := nI (i_1 + 1)) (lv' := [(3, .int (nI (i_1 + 1))), (5, .int (nI i_2)), (4, .int i_3), (0, .ref x), (1, .int a), (2, .int (nI n_5))]) B dX12_ranked_123 rfl (nI_add i_1 1) (Nat.le_of_ble_eq_true rfl) rfl ?_
          refine z_goto (tgt := 29) B dX12_ranked_126 rfl ?_
          refine z_lv [0, 3, 4, 5] rfl ?_
          exact ih1 (i_1 + 1) Φl2 (show 24 - (i_1 + 1) < 24 - i_1 by omega) ⟨hI6, (fun b9 h9 => ((hF5 b9 (fun j9 h8 h7 => (show False from h7).elim)).trans ((hF4 b9 (fun j9 h8 h7 => (show False from h7).elim)).trans rfl))), (show (i_1 + 1) ≤ 24 by omega), trivial⟩
        · refine z_iload_n B dX12_ranked_121 rfl 2 rfl ?_
          exact z_ret_i B dX12_ranked_122 ⟨⟨_, rfl⟩, rfl, hI6, (fun b9 h9 => ((hF5 b9 (fun j9 h8 h7 => (show False from h7).elim)).trans ((hF4 b9 (fun j9 h8 h7 => (show False from h7).elim)).trans ((hF3 b9 (fun j9 h8 h7 => h9 j9 h8 (show j9 = 0 by have h6 : j9 = 0 := h7; omega))).trans ((hF1 b9 (fun j9 h8 h7 => (show False from h7).elim)).trans ((fset_fr hΦ1 (fun h8 => h9 (0) h8 (show 0 = 0 by omega))).trans rfl))))))⟩
      · have e_4 : ¬ (n_8 ≤ i_2) := fun h9 => c_6 ((nI_leI (a := n_8) (b := i_2) (by omega) (by omega)).mpr h9)
        refine z_aload_n B dX12_ranked_52 rfl 3 rfl ?_
        refine z_get (ref := "FlowExporterModel") (C := RX12) (T := TX12) (N := 54) (ci := 14) (v := .ref (x + 21)) B (by decide +kernel) rfl 39 (by decide) (by decide +kernel) rfl h_8 rfl dX12_ranked_53 ?_
        refine z_iconst (v := 2) B dX12_ranked_56 rfl ?_
        refine z_iload B dX12_ranked_57 0 rfl ?_
        refine z_imul B dX12_ranked_59 ?_
        refine z_top (st1 := [.int (nI (2 * i_2)), .ref (x + 21)]) (congrArg (fun w9 : Int32 => ([.int w9, .ref (x + 21)] : List Value)) (nI_mul 2 i_2)) ?_
        refine z_iload_n B dX12_ranked_60 rfl 5 rfl ?_
        refine z_iadd B dX12_ranked_61 ?_
        refine z_top (st1 := [.int (nI (2 * i_2 + n_5)), .ref (x + 21)]) (congrArg (fun w9 : Int32 => ([.int w9, .ref (x + 21)] : List Value)) (nI_add (2 * i_2) n_5)) ?_
        obtain ⟨f_1, h_9⟩ := imk (k := 21) hI6
        have h_10 : Φl2 (x + 21) = some (al_ G 48 f_1) := h_9
        refine z_lald B h_10 (vp_in_nI (by omega) (by omega)) dX12_ranked_62 ?_
        refine z_fl (fun v_31 => ?_)
        refine z_lstore (lv' := [(6, .long v_31), (5, .int (nI i_2)), (4, .int i_3), (3, .int (nI i_1)), (0, .ref x), (1, .int a), (2, .int (nI n_5))]) B dX12_ranked_63 (Nat.le_of_ble_eq_true rfl) rfl ?_
        refine z_aload_n B dX12_ranked_65 rfl 4 rfl ?_
        refine z_get (ref := "FlowExporterModel") (C := RX12) (T := TX12) (N := 54) (ci := 14) (v := .ref (x + 21)) B (by decide +kernel) rfl 39 (by decide) (by decide +kernel) rfl h_8 rfl dX12_ranked_66 ?_
        refine z_iconst (v := 2) B dX12_ranked_69 rfl ?_
        refine z_iload_n B dX12_ranked_70 rfl 3 rfl ?_
        refine z_imul B dX12_ranked_71 ?_
        refine z_top (st1 := [.int (nI (2 * i_1)), .ref (x + 21)]) (congrArg (fun w9 : Int32 => ([.int w9, .ref (x + 21)] : List Value)) (nI_mul 2 i_1)) ?_
        refine z_iload_n B dX12_ranked_72 rfl 6 rfl ?_
        refine z_iadd B dX12_ranked_73 ?_
        refine z_top (st1 := [.int (nI (2 * i_1 + n_5)), .ref (x + 21)]) (congrArg (fun w9 : Int32 => ([.int w9, .ref (x + 21)] : List Value)) (nI_add (2 * i_1) n_5)) ?_
        refine z_lald B h_10 (vp_in_nI (by omega) (by omega)) dX12_ranked_74 ?_
        refine z_fl (fun v_32 => ?_)
        refine z_lstore (lv' := [(8, .long v_32), (6, .long v_31), (5, .int (nI i_2)), (4, .int i_3), (3, .int (nI i_1)), (0, .ref x), (1, .int a), (2, .int (nI n_5))]) B dX12_ranked_75 (Nat.le_of_ble_eq_true rfl) rfl ?_
        refine z_iload B dX12_ranked_77 3 rfl ?_
        refine z_lload B dX12_ranked_79 1 rfl ?_
        refine z_lload B dX12_ranked_81 0 rfl ?_
        refine z_lcmp B dX12_ranked_83 ?_
        refine z_fi (fun v_33 => ?_)
        refine z_if_gt (tgt := 101) B dX12_ranked_84 rfl (fun c_8 => ?_) (fun c_8 => ?_)
        · obtain ⟨n_10, e_6, e_5, rfl⟩ := nI_ofp (Int32.not_le.mpr c_8)
          refine z_iconst (v := 1) B dX12_ranked_101 rfl ?_
          refine z_goto (tgt := 106) B dX12_ranked_102 rfl ?_
          refine z_iadd B dX12_ranked_106 ?_
          refine z_fi (fun v_34 => ?_)
          refine z_istore (lv' := [(4, .int v_34), (8, .long v_32), (6, .long v_31), (5, .int (nI i_2)), (3, .int (nI i_1)), (0, .ref x), (1, .int a), (2, .int (nI n_5))]) B dX12_ranked_107 (Nat.le_of_ble_eq_true rfl) rfl ?_
          refine z_iinc (k := 3) (v := nI (i_2 + 1)) (lv' := [(5, .int (nI (i_2 + 1))), (4, .int v_34), (8, .long v_32), (6, .long v_31), (3, .int (nI i_1)), (0, .ref x), (1, .int a), (2, .int (nI n_5))]) B dX12_ranked_109 rfl (nI_add i_2 1) (Nat.le_of_ble_eq_true rfl) rfl ?_
          refine z_goto (tgt := 43) B dX12_ranked_112 rfl ?_
          refine z_lv [0, 1, 4, 5, 6, 7] rfl ?_
          exact ih2 (i_2 + 1, v_34) Φl2 (show 24 - (i_2 + 1) < 24 - i_2 by omega) ⟨hI6, (fun b9 h9 => ((hF5 b9 (fun j9 h8 h7 => (show False from h7).elim)).trans rfl)), (show (i_2 + 1) ≤ 24 by omega), trivial⟩
        · refine z_lload B dX12_ranked_87 1 rfl ?_
          refine z_lload B dX12_ranked_89 0 rfl ?_
          refine z_lcmp B dX12_ranked_91 ?_
          refine z_fi (fun v_35 => ?_)
          refine z_if_ne (tgt := 105) B dX12_ranked_92 rfl (fun c_9 => ?_) (fun c_9 => ?_)
          · refine z_iconst (v := 0) B dX12_ranked_105 rfl ?_
            refine z_iadd B dX12_ranked_106 ?_
            refine z_fi (fun v_36 => ?_)
            refine z_istore (lv' := [(4, .int v_36), (8, .long v_32), (6, .long v_31), (5, .int (nI i_2)), (3, .int (nI i_1)), (0, .ref x), (1, .int a), (2, .int (nI n_5))]) B dX12_ranked_107 (Nat.le_of_ble_eq_true rfl) rfl ?_
            refine z_iinc (k := 3) (v := nI (i_2 + 1)) (lv' := [(5, .int (nI (i_2 + 1))), (4, .int v_36), (8, .long v_32), (6, .long v_31), (3, .int (nI i_1)), (0, .ref x), (1, .int a), (2, .int (nI n_5))]) B dX12_ranked_109 rfl (nI_add i_2 1) (Nat.le_of_ble_eq_true rfl) rfl ?_
            refine z_goto (tgt := 43) B dX12_ranked_112 rfl ?_
            refine z_lv [0, 1, 4, 5, 6, 7] rfl ?_
            exact ih2 (i_2 + 1, v_36) Φl2 (show 24 - (i_2 + 1) < 24 - i_2 by omega) ⟨hI6, (fun b9 h9 => ((hF5 b9 (fun j9 h8 h7 => (show False from h7).elim)).trans rfl)), (show (i_2 + 1) ≤ 24 by omega), trivial⟩
          · refine z_iload B dX12_ranked_95 2 rfl ?_
            refine z_iload_n B dX12_ranked_97 rfl 4 rfl ?_
            refine z_icmp_ge (tgt := 105) B dX12_ranked_98 rfl (fun c_10 => ?_) (fun c_10 => ?_)
            · have e_7 : i_1 ≤ i_2 := (nI_leI (a := i_1) (b := i_2) (by omega) (by omega)).mp c_10
              refine z_iconst (v := 0) B dX12_ranked_105 rfl ?_
              refine z_iadd B dX12_ranked_106 ?_
              refine z_fi (fun v_37 => ?_)
              refine z_istore (lv' := [(4, .int v_37), (8, .long v_32), (6, .long v_31), (5, .int (nI i_2)), (3, .int (nI i_1)), (0, .ref x), (1, .int a), (2, .int (nI n_5))]) B dX12_ranked_107 (Nat.le_of_ble_eq_true rfl) rfl ?_
              refine z_iinc (k := 3) (v := nI (i_2 + 1)) (lv' := [(5, .int (nI (i_2 + 1))), (4, .int v_37), (8, .long v_32), (6, .long v_31), (3, .int (nI i_1)), (0, .ref x), (1, .int a), (2, .int (nI n_5))]) B dX12_ranked_109 rfl (nI_add i_2 1) (Nat.le_of_ble_eq_true rfl) rfl ?_
              refine z_goto (tgt := 43) B dX12_ranked_112 rfl ?_
              refine z_lv [0, 1, 4, 5, 6, 7] rfl ?_
              exact ih2 (i_2 + 1, v_37) Φl2 (show 24 - (i_2 + 1) < 24 - i_2 by omega) ⟨hI6, (fun b9 h9 => ((hF5 b9 (fun j9 h8 h7 => (show False from h7).elim)).trans rfl)), (show (i_2 + 1) ≤ 24 by omega), trivial⟩
            · have e_8 : ¬ (i_1 ≤ i_2) := fun h9 => c_10 ((nI_leI (a := i_1) (b := i_2) (by omega) (by omega)).mpr h9)
              refine z_iconst (v := 1) B dX12_ranked_101 rfl ?_
              refine z_goto (tgt := 106) B dX12_ranked_102 rfl ?_
              refine z_iadd B dX12_ranked_106 ?_
              refine z_fi (fun v_38 => ?_)
              refine z_istore (lv' := [(4, .int v_38), (8, .long v_32), (6, .long v_31), (5, .int (nI i_2)), (3, .int (nI i_1)), (0, .ref x), (1, .int a), (2, .int (nI n_5))]) B dX12_ranked_107 (Nat.le_of_ble_eq_true rfl) rfl ?_
              refine z_iinc (k := 3) (v := nI (i_2 + 1)) (lv' := [(5, .int (nI (i_2 + 1))), (4, .int v_38), (8, .long v_32), (6, .long v_31), (3, .int (nI i_1)), (0, .ref x), (1, .int a), (2, .int (nI n_5))]) B dX12_ranked_109 rfl (nI_add i_2 1) (Nat.le_of_ble_eq_true rfl) rfl ?_
              refine z_goto (tgt := 43) B dX12_ranked_112 rfl ?_
              refine z_lv [0, 1, 4, 5, 6, 7] rfl ?_
              exact ih2 (i_2 + 1, v_38) Φl2 (show 24 - (i_2 + 1) < 24 - i_2 by omega) ⟨hI6, (fun b9 h9 => ((hF5 b9 (fun j9 h8 h7 => (show False from h7).elim)).trans rfl)), (show (i_2 + 1) ≤ 24 by omega), trivial⟩

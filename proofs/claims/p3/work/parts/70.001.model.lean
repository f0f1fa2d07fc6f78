set_option maxHeartbeats 4000000 in
set_option maxRecDepth 100000 in
theorem r_appendBytes (G : EnvG) (l : Launch) (Φ : Hm) (sz x : Nat) (rd : (Nat → Int32) → Prop) (fl : Nat) (pe : Nat) (le : Nat) (nx : Nat) (il : Nat) (qu : Nat) (kn : Int32) (ec : Int32) (nu : Int32) (va : Int64) (a : Int32) (hx : G.2.2.2 ≤ x) (hI : Im G x (rd, NN, fl, pe, le, nx, il, qu, kn, ec, nu, va) Φ) (hl : il + 4 ≤ 700) : Ct G l yX12_appendBytes wsX12_appendBytes ({ frames := 0, cells := 0, slots := 0, locals := 0 }) 0 0 [.ref x, .int a] Φ sz (fun v Φ1 sz1 => (v = none) ∧ sz1 = sz ∧ (∃ (il1 : Nat), (il1 = il + 4) ∧ Im G x (rd, NN, fl, pe, le, nx, il1, qu, kn, ec, nu, va) Φ1) ∧ Fr x (fun j9 => j9 = 0 ∨ j9 = 25) Φ Φ1) := by
  refine Ct.of (cc := cX12_appendBytes) (maxL := 3) (ret := none) (by decide) rfl (Nat.le_of_ble_eq_true rfl) ?_
  intro p9 e9 s9 m9 w9 t9 k9 B
  show Z p9 l e9 _ s9 m9 _ w9 t9 k9 _ G 3 0 [(0, .ref x), (1, .int a)] [] Φ sz 0 0
  refine z_bipush (v := 24) B dX12_appendBytes_0 rfl ?_
  refine z_istore_n (lv' := [(2, .int 24), (0, .ref x), (1, .int a)]) B dX12_appendBytes_2 rfl (Nat.le_of_ble_eq_true rfl) rfl ?_
  refine z_lv (lv' := [(2, .int (nI (8 * 4) - 8)), (0, .ref x), (1, .int a)]) [0, 1, 2] (by rw [show nI (8 * 4) - 8 = (24 : Int32) by decide]; first | done | rfl) ?_
  refine z_loop (α := Nat × Nat) (fun (a9 : Nat × Nat) Φi => Im G x (rd, NN, fl, pe, le, nx, a9.2, qu, kn, ec, nu, va) Φi ∧ Fr x (fun j9 => j9 = 0 ∨ j9 = 25) Φ Φi ∧ (a9.1 ≤ 4) ∧ (a9.2 + a9.1 = il + 4) ∧ True) (fun a9 => [(2, .int (nI (8 * (a9.1)) - 8)), (0, .ref x), (1, .int a)]) (fun a9 => a9.1) ?_ (4, il) ⟨hI, fun _ _ => rfl, (show 4 ≤ 4 by omega), (show il + 4 = il + 4 by omega), trivial⟩
  rintro ⟨i_1, i_2⟩ Φl1 ⟨hI1, hF1, b_1, b_2, -⟩ ih1
  replace hI1 : Im G x (rd, NN, fl, pe, le, nx, i_2, qu, kn, ec, nu, va) Φl1 := hI1
  replace b_1 : i_1 ≤ 4 := b_1
  replace b_2 : i_2 + i_1 = il + 4 := b_2
  show Z p9 l e9 _ s9 m9 _ w9 t9 k9 _ G 3 3 [(2, .int (nI (8 * i_1) - 8)), (0, .ref x), (1, .int a)] [] Φl1 _ _ _
  refine z_iload_n B dX12_appendBytes_3 rfl 0 rfl ?_
  refine z_if_lt (tgt := 36) B dX12_appendBytes_4 rfl (fun c_1 => ?_) (fun c_1 => ?_)
  · have e_1 : i_1 = 0 := (m8_lt (j := i_1) (by omega)).1 c_1
    exact z_ret_v B dX12_appendBytes_36 ⟨rfl, rfl, ⟨i_2, (show i_2 = il + 4 by omega), hI1⟩, (fun b9 h9 => ((hF1 b9 (fun j9 h8 h7 => h9 j9 h8 (show j9 = 0 ∨ j9 = 25 by have h6 : j9 = 0 ∨ j9 = 25 := h7; omega))).trans rfl))⟩
  · have e_2 : 1 ≤ i_1 := (m8_lt (j := i_1) (by omega)).2 c_1
    refine z_aload_n B dX12_appendBytes_7 rfl 1 rfl ?_
    obtain ⟨v_1, v_2, v_3, n_1, v_4, v_5, v_6, v_7, v_8, v_9, v_10, v_11, v_12, n_2, v_13, n_3, n_4, v_14, v_15, h_1, b_14, b_3, b_4, b_5, b_6, b_7, b_8, b_9, b_10, b_11, b_12, b_13⟩ := im0 hI1
    replace b_3 : 1 ≤ n_1 := b_3
    replace b_4 : n_1 ≤ 1024 := b_4
    replace b_5 : fl ≤ 12 := b_5
    replace b_6 : pe ≤ 24 := b_6
    replace b_7 : le ≤ 700 := b_7
    replace b_8 : qu ≤ 12 := b_8
    replace b_9 : n_2 ≤ 8 := b_9
    replace b_10 : n_3 ≤ 24 := b_10
    replace b_11 : n_4 ≤ 24 := b_11
    replace b_12 : i_2 ≤ 700 := b_12
    replace b_13 : nx ≤ 701 := b_13
    have h_2 : Φl1 x = some (o_ 14 [.int v_1, .ref (x + 1), .ref (x + 2), .int v_2, .int v_3, .int (nI n_1), .int v_4, .int v_5, .ref (x + 3), .ref (x + 4), .int v_6, .long v_7, .ref (x + 5), .int (nI fl), .int v_8, .long v_9, .long v_10, .long v_11, .long v_12, .ref (x + 6), .ref (x + 7), .int (nI pe), .ref (x + 8), .int (nI le), .ref (x + 9), .ref (x + 10), .int (nI qu), .ref (x + 11), .ref (x + 12), .ref (x + 13), .ref (x + 14), .ref (x + 15), .ref (x + 16), .int (nI n_2), .long v_13, .ref (x + 17), .ref (x + 18), .ref (x + 19), .ref (x + 20), .ref (x + 21), .ref (x + 22), .int (nI n_3), .ref (x + 23), .ref (x + 24), .int (nI n_4), .ref (x + 25), .int (nI i_2), .int (nI nx), .int ec, .int v_14, .int kn, .int v_15, .int nu, .long va]) := h_1
    refine z_get (ref := "FlowExporterModel") (C := RX12) (T := TX12) (N := 54) (ci := 14) (v := .ref (x + 25)) B (by decide +kernel) rfl 45 (by decide) (by decide +kernel) rfl h_2 rfl dX12_appendBytes_8 ?_
    refine z_aload_n B dX12_appendBytes_11 rfl 1 rfl ?_
    refine z_get (ref := "FlowExporterModel") (C := RX12) (T := TX12) (N := 54) (ci := 14) (v := .int (nI i_2)) B (by decide +kernel) rfl 46 (by decide) (by decide +kernel) rfl h_2 rfl dX12_appendBytes_12 ?_
    refine z_iload_n B dX12_appendBytes_15 rfl 2 rfl ?_
    refine z_iload_n B dX12_appendBytes_16 rfl 0 rfl ?_
    refine z_ishr B dX12_appendBytes_17 ?_
    refine z_fi (fun v_16 => ?_)
    refine z_i2b (v := v_16.toInt8.toInt32) B dX12_appendBytes_18 rfl ?_
    refine z_fi (fun v_17 => ?_)
    obtain ⟨f_1, h_3, r_1⟩ := imk (k := 25) hI1
    have h_4 : Φl1 (x + 25) = some (ab_ G 700 f_1) := h_3
    refine z_bast B h_4 (Nat.le_trans hx (Nat.le_add_right x 25)) (vp_in_nI (by omega) (by omega)) dX12_appendBytes_19 (fun Φ1 hΦ1 => ?_)
    have h_5 : Φ1 (x + 25) = some (ab_ G 700 (upd f_1 (nI i_2).toNatClampNeg (vp_nar .byte v_17))) := fset_at hΦ1
    have hI2 : Im G x (rd, NN, fl, pe, le, nx, i_2, qu, kn, ec, nu, va) Φ1 := Im.put (k := 25) hI1 hΦ1 ⟨_, rfl, upd_fit r_1⟩
    refine z_aload_n B dX12_appendBytes_20 rfl 1 rfl ?_
    refine z_dup B dX12_appendBytes_21 rfl ?_
    have h_6 : Φ1 x = some (o_ 14 [.int v_1, .ref (x + 1), .ref (x + 2), .int v_2, .int v_3, .int (nI n_1), .int v_4, .int v_5, .ref (x + 3), .ref (x + 4), .int v_6, .long v_7, .ref (x + 5), .int (nI fl), .int v_8, .long v_9, .long v_10, .long v_11, .long v_12, .ref (x + 6), .ref (x + 7), .int (nI pe), .ref (x + 8), .int (nI le), .ref (x + 9), .ref (x + 10), .int (nI qu), .ref (x + 11), .ref (x + 12), .ref (x + 13), .ref (x + 14), .ref (x + 15), .ref (x + 16), .int (nI n_2), .long v_13, .ref (x + 17), .ref (x + 18), .ref (x + 19), .ref (x + 20), .ref (x + 21), .ref (x + 22), .int (nI n_3), .ref (x + 23), .ref (x + 24), .int (nI n_4), .ref (x + 25), .int (nI i_2), .int (nI nx), .int ec, .int v_14, .int kn, .int v_15, .int nu, .long va]) := ((fset_fr hΦ1 (ne_off (x := x) (i := 0) (j := 25) rfl)).trans h_2)
    refine z_get (ref := "FlowExporterModel") (C := RX12) (T := TX12) (N := 54) (ci := 14) (v := .int (nI i_2)) B (by decide +kernel) rfl 46 (by decide) (by decide +kernel) rfl h_6 rfl dX12_appendBytes_22 ?_
    refine z_iconst (v := 1) B dX12_appendBytes_25 rfl ?_
    refine z_iadd B dX12_appendBytes_26 ?_
    refine z_top (st1 := [.int (nI (i_2 + 1)), .ref x]) (congrArg (fun w9 : Int32 => ([.int w9, .ref x] : List Value)) (nI_add i_2 1)) ?_
    refine z_put (ref := "FlowExporterModel") (C := RX12) (T := TX12) (N := 54) (ci := 14) (v := .int (nI (i_2 + 1))) B (by decide +kernel) tyX12 tyX12_ok nmX12 rfl 46 (by decide) (by decide +kernel) rfl (Or.inl rfl) h_6 hx rfl rfl (Nat.le_of_ble_eq_true rfl) dX12_appendBytes_27 (fun Φ2 hΦ2 => ?_)
    have h_7 : Φ2 x = some (o_ 14 [.int v_1, .ref (x + 1), .ref (x + 2), .int v_2, .int v_3, .int (nI n_1), .int v_4, .int v_5, .ref (x + 3), .ref (x + 4), .int v_6, .long v_7, .ref (x + 5), .int (nI fl), .int v_8, .long v_9, .long v_10, .long v_11, .long v_12, .ref (x + 6), .ref (x + 7), .int (nI pe), .ref (x + 8), .int (nI le), .ref (x + 9), .ref (x + 10), .int (nI qu), .ref (x + 11), .ref (x + 12), .ref (x + 13), .ref (x + 14), .ref (x + 15), .ref (x + 16), .int (nI n_2), .long v_13, .ref (x + 17), .ref (x + 18), .ref (x + 19), .ref (x + 20), .ref (x + 21), .ref (x + 22), .int (nI n_3), .ref (x + 23), .ref (x + 24), .int (nI n_4), .ref (x + 25), .int (nI (i_2 + 1)), .int (nI nx), .int ec, .int v_14, .int kn, .int v_15, .int nu, .long va]) := fset_at hΦ2
    have hI3 : Im G x (rd, NN, fl, pe, le, nx, i_2 + 1, qu, kn, ec, nu, va) Φ2 := Im.put0 hI2 hΦ2 ⟨v_1, v_2, v_3, n_1, v_4, v_5, v_6, v_7, v_8, v_9, v_10, v_11, v_12, n_2, v_13, n_3, n_4, v_14, v_15, rfl, b_14, (show 1 ≤ n_1 by omega), (show n_1 ≤ 1024 by omega), (show fl ≤ 12 by omega), (show pe ≤ 24 by omega), (show le ≤ 700 by omega), (show qu ≤ 12 by omega), (show n_2 ≤ 8 by omega), (show n_3 ≤ 24 by omega), (show n_4 ≤ 24 by omega), (show (i_2 + 1) ≤ 700 by omega), (show nx ≤ 701 by omega)⟩
    refine z_iinc (k := 0) (v := nI (8 * (i_1 - 1)) - 8) (lv' := [(2, .int (nI (8 * (i_1 - 1)) - 8)), (0, .ref x), (1, .int a)]) B dX12_appendBytes_30 rfl (m8_dec (show 1 ≤ i_1 by omega)) (Nat.le_of_ble_eq_true rfl) rfl ?_
    refine z_goto (tgt := 3) B dX12_appendBytes_33 rfl ?_
    refine z_lv [0, 1, 2] rfl ?_
    exact ih1 (i_1 - 1, i_2 + 1) Φ2 (show (i_1 - 1) < i_1 by omega) ⟨hI3, (fun b9 h9 => ((fset_fr hΦ2 (fun h8 => h9 (0) h8 (show 0 = 0 ∨ 0 = 25 by omega))).trans ((fset_fr hΦ1 (fun h8 => h9 (25) h8 (show 25 = 0 ∨ 25 = 25 by omega))).trans ((hF1 b9 (fun j9 h8 h7 => h9 j9 h8 (show j9 = 0 ∨ j9 = 25 by have h6 : j9 = 0 ∨ j9 = 25 := h7; omega))).trans rfl)))), (show (i_1 - 1) ≤ 4 by omega), (show (i_2 + 1) + (i_1 - 1) = il + 4 by omega), trivial⟩

set_option maxHeartbeats 4000000 in
set_option maxRecDepth 100000 in
theorem r_appendInput (G : EnvG) (l : Launch) (Φ : Hm) (sz x : Nat) (rd : (Nat → Int32) → Prop) (fl : Nat) (pe : Nat) (le : Nat) (nx : Nat) (il : Nat) (qu : Nat) (kn : Int32) (ec : Int32) (nu : Int32) (va : Int64) (a : Int32) (b : Int32) (d : Int32) (f : Int32) (g : Int32) (hx : G.2.2.2 ≤ x) (hI : Im G x (rd, NN, fl, pe, le, nx, il, qu, kn, ec, nu, va) Φ)  : Ct G l yX12_appendInput wsX12_appendInput ({ frames := 1, cells := 0, slots := 0, locals := 22 }) 0 0 [.ref x, .int a, .int b, .int d, .int f, .int g] Φ sz (fun v Φ1 sz1 => (∃ r9 : Int32, v = some (.int r9)) ∧ sz1 = sz ∧ (∃ (il1 : Nat), (apV il v il1) ∧ Im G x (rd, NN, fl, pe, le, nx, il1, qu, kn, ec, nu, va) Φ1) ∧ Fr x (fun j9 => j9 = 0 ∨ j9 = 25) Φ Φ1) := by
  refine Ct.of (cc := cX12_appendInput) (maxL := 6) (ret := (some .int)) (by decide) rfl (Nat.le_of_ble_eq_true rfl) ?_
  intro p9 e9 s9 m9 w9 t9 k9 B
  show Z p9 l e9 _ s9 m9 _ w9 t9 k9 _ G 6 0 [(0, .ref x), (1, .int a), (2, .int b), (3, .int d), (4, .int f), (5, .int g)] [] Φ sz 0 0
  refine z_aload_n B dX12_appendInput_0 rfl 0 rfl ?_
  refine z_iconst (v := 0) B dX12_appendInput_1 rfl ?_
  obtain ⟨v_1, v_2, v_3, n_1, v_4, v_5, v_6, v_7, v_8, v_9, v_10, v_11, v_12, n_2, v_13, n_3, n_4, v_14, v_15, h_1, b_12, b_1, b_2, b_3, b_4, b_5, b_6, b_7, b_8, b_9, b_10, b_11⟩ := im0 hI
  replace b_1 : 1 ≤ n_1 := b_1
  replace b_2 : n_1 ≤ 1024 := b_2
  replace b_3 : fl ≤ 12 := b_3
  replace b_4 : pe ≤ 24 := b_4
  replace b_5 : le ≤ 700 := b_5
  replace b_6 : qu ≤ 12 := b_6
  replace b_7 : n_2 ≤ 8 := b_7
  replace b_8 : n_3 ≤ 24 := b_8
  replace b_9 : n_4 ≤ 24 := b_9
  replace b_10 : il ≤ 700 := b_10
  replace b_11 : nx ≤ 701 := b_11
  have h_2 : Φ x = some (o_ 14 [.int v_1, .ref (x + 1), .ref (x + 2), .int v_2, .int v_3, .int (nI n_1), .int v_4, .int v_5, .ref (x + 3), .ref (x + 4), .int v_6, .long v_7, .ref (x + 5), .int (nI fl), .int v_8, .long v_9, .long v_10, .long v_11, .long v_12, .ref (x + 6), .ref (x + 7), .int (nI pe), .ref (x + 8), .int (nI le), .ref (x + 9), .ref (x + 10), .int (nI qu), .ref (x + 11), .ref (x + 12), .ref (x + 13), .ref (x + 14), .ref (x + 15), .ref (x + 16), .int (nI n_2), .long v_13, .ref (x + 17), .ref (x + 18), .ref (x + 19), .ref (x + 20), .ref (x + 21), .ref (x + 22), .int (nI n_3), .ref (x + 23), .ref (x + 24), .int (nI n_4), .ref (x + 25), .int (nI il), .int (nI nx), .int ec, .int v_14, .int kn, .int v_15, .int nu, .long va]) := h_1
  refine z_put (ref := "FlowExporterModel") (C := RX12) (T := TX12) (N := 54) (ci := 14) (v := .int 0) B (by decide +kernel) tyX12 tyX12_ok nmX12 rfl 0 (by decide) (by decide +kernel) rfl (Or.inl rfl) h_2 hx rfl rfl (Nat.le_of_ble_eq_true rfl) dX12_appendInput_2 (fun Φ1 hΦ1 => ?_)
  have h_3 : Φ1 x = some (o_ 14 [.int 0, .ref (x + 1), .ref (x + 2), .int v_2, .int v_3, .int (nI n_1), .int v_4, .int v_5, .ref (x + 3), .ref (x + 4), .int v_6, .long v_7, .ref (x + 5), .int (nI fl), .int v_8, .long v_9, .long v_10, .long v_11, .long v_12, .ref (x + 6), .ref (x + 7), .int (nI pe), .ref (x + 8), .int (nI le), .ref (x + 9), .ref (x + 10), .int (nI qu), .ref (x + 11), .ref (x + 12), .ref (x + 13), .ref (x + 14), .ref (x + 15), .ref (x + 16), .int (nI n_2), .long v_13, .ref (x + 17), .ref (x + 18), .ref (x + 19), .ref (x + 20), .ref (x + 21), .ref (x + 22), .int (nI n_3), .ref (x + 23), .ref (x + 24), .int (nI n_4), .ref (x + 25), .int (nI il), .int (nI nx), .int ec, .int v_14, .int kn, .int v_15, .int nu, .long va]) := fset_at hΦ1
  have hI1 : Im G x (rd, NN, fl, pe, le, nx, il, qu, kn, ec, nu, va) Φ1 := Im.put0 hI hΦ1 ⟨0, v_2, v_3, n_1, v_4, v_5, v_6, v_7, v_8, v_9, v_10, v_11, v_12, n_2, v_13, n_3, n_4, v_14, v_15, rfl, b_12, (show 1 ≤ n_1 by omega), (show n_1 ≤ 1024 by omega), (show fl ≤ 12 by omega), (show pe ≤ 24 by omega), (show le ≤ 700 by omega), (show qu ≤ 12 by omega), (show n_2 ≤ 8 by omega), (show n_3 ≤ 24 by omega), (show n_4 ≤ 24 by omega), (show il ≤ 700 by omega), (show nx ≤ 701 by omega)⟩
  refine z_aload_n B dX12_appendInput_5 rfl 0 rfl ?_
  refine z_get (ref := "FlowExporterModel") (C := RX12) (T := TX12) (N := 54) (ci := 14) (v := .int (nI il)) B (by decide +kernel) rfl 46 (by decide) (by decide +kernel) rfl h_3 rfl dX12_appendInput_6 ?_
  refine z_bipush (v := 20) B dX12_appendInput_9 rfl ?_
  refine z_iadd B dX12_appendInput_11 ?_
  refine z_top (st1 := [.int (nI (il + 20))]) (congrArg (fun w9 : Int32 => ([.int w9] : List Value)) (nI_add il 20)) ?_
  refine z_sipush (v := 700) B dX12_appendInput_12 rfl ?_
  refine z_icmp_le (tgt := 20) B dX12_appendInput_15 rfl (fun c_1 => ?_) (fun c_1 => ?_)
  · have e_1 : il + 20 ≤ 700 := (nI_leI (a := il + 20) (b := 700) (by omega) (by omega)).mp c_1
    refine z_aload_n B dX12_appendInput_20 rfl 0 rfl ?_
    refine z_iload_n B dX12_appendInput_21 rfl 1 rfl ?_
    refine z_callV (As := [.int a]) (rest := []) B (r_appendBytes G l Φ1 sz x rd fl pe le nx il qu kn ec nu va a hx hI1 (show il + 4 ≤ 700 by omega)) (cwV 1 B.1.2.2.2.2 gX12_appendInput_X12_appendBytes rfl rfl rfl (by decide +kernel) ⟨Nat.le_of_ble_eq_true rfl, Nat.le_of_ble_eq_true rfl⟩) h_3 rfl rfl rfl rfl (Nat.le_of_ble_eq_true rfl) dX12_appendInput_22 ⟨Nat.le_of_ble_eq_true rfl, Nat.le_of_ble_eq_true rfl⟩ (fun r_1 Φ2 sz1 st1 hp1 hs1 => ?_)
    obtain ⟨rfl, hq1, ⟨n_5, b_13, hI2⟩, hF1⟩ := hp1
    subst sz1
    replace hs1 : st1 = [] := hs1
    subst st1
    replace hI2 : Im G x (rd, NN, fl, pe, le, nx, n_5, qu, kn, ec, nu, va) Φ2 := hI2
    replace b_13 : n_5 = il + 4 := b_13
    refine z_aload_n B dX12_appendInput_25 rfl 0 rfl ?_
    refine z_iload_n B dX12_appendInput_26 rfl 2 rfl ?_
    obtain ⟨v_16, v_17, v_18, n_6, v_19, v_20, v_21, v_22, v_23, v_24, v_25, v_26, v_27, n_7, v_28, n_8, n_9, v_29, v_30, h_4, b_25, b_14, b_15, b_16, b_17, b_18, b_19, b_20, b_21, b_22, b_23, b_24⟩ := im0 hI2
    replace b_14 : 1 ≤ n_6 := b_14
    replace b_15 : n_6 ≤ 1024 := b_15
    replace b_16 : fl ≤ 12 := b_16
    replace b_17 : pe ≤ 24 := b_17
    replace b_18 : le ≤ 700 := b_18
    replace b_19 : qu ≤ 12 := b_19
    replace b_20 : n_7 ≤ 8 := b_20
    replace b_21 : n_8 ≤ 24 := b_21
    replace b_22 : n_9 ≤ 24 := b_22
    replace b_23 : n_5 ≤ 700 := b_23
    replace b_24 : nx ≤ 701 := b_24
    have h_5 : Φ2 x = some (o_ 14 [.int v_16, .ref (x + 1), .ref (x + 2), .int v_17, .int v_18, .int (nI n_6), .int v_19, .int v_20, .ref (x + 3), .ref (x + 4), .int v_21, .long v_22, .ref (x + 5), .int (nI fl), .int v_23, .long v_24, .long v_25, .long v_26, .long v_27, .ref (x + 6), .ref (x + 7), .int (nI pe), .ref (x + 8), .int (nI le), .ref (x + 9), .ref (x + 10), .int (nI qu), .ref (x + 11), .ref (x + 12), .ref (x + 13), .ref (x + 14), .ref (x + 15), .ref (x + 16), .int (nI n_7), .long v_28, .ref (x + 17), .ref (x + 18), .ref (x + 19), .ref (x + 20), .ref (x + 21), .ref (x + 22), .int (nI n_8), .ref (x + 23), .ref (x + 24), .int (nI n_9), .ref (x + 25), .int (nI n_5), .int (nI nx), .int ec, .int v_29, .int kn, .int v_30, .int nu, .long va]) := h_4
    refine z_callV (As := [.int b]) (rest := []) B (r_appendBytes G l Φ2 sz x rd fl pe le nx n_5 qu kn ec nu va b hx hI2 (show n_5 + 4 ≤ 700 by omega)) (cwV 1 B.1.2.2.2.2 gX12_appendInput_X12_appendBytes rfl rfl rfl (by decide +kernel) ⟨Nat.le_of_ble_eq_true rfl, Nat.le_of_ble_eq_true rfl⟩) h_5 rfl rfl rfl rfl (Nat.le_of_ble_eq_true rfl) dX12_appendInput_27 ⟨Nat.le_of_ble_eq_true rfl, Nat.le_of_ble_eq_true rfl⟩ (fun r_2 Φ3 sz2 st2 hp2 hs2 => ?_)
    obtain ⟨rfl, hq2, ⟨n_10, b_26, hI3⟩, hF2⟩ := hp2
    subst sz2
    replace hs2 : st2 = [] := hs2
    subst st2
    replace hI3 : Im G x (rd, NN, fl, pe, le, nx, n_10, qu, kn, ec, nu, va) Φ3 := hI3
    replace b_26 : n_10 = n_5 + 4 := b_26
    refine z_aload_n B dX12_appendInput_30 rfl 0 rfl ?_
    refine z_iload_n B dX12_appendInput_31 rfl 3 rfl ?_
    obtain ⟨v_31, v_32, v_33, n_11, v_34, v_35, v_36, v_37, v_38, v_39, v_40, v_41, v_42, n_12, v_43, n_13, n_14, v_44, v_45, h_6, b_38, b_27, b_28, b_29, b_30, b_31, b_32, b_33, b_34, b_35, b_36, b_37⟩ := im0 hI3
    replace b_27 : 1 ≤ n_11 := b_27
    replace b_28 : n_11 ≤ 1024 := b_28
    replace b_29 : fl ≤ 12 := b_29
    replace b_30 : pe ≤ 24 := b_30
    replace b_31 : le ≤ 700 := b_31
    replace b_32 : qu ≤ 12 := b_32
    replace b_33 : n_12 ≤ 8 := b_33
    replace b_34 : n_13 ≤ 24 := b_34
    replace b_35 : n_14 ≤ 24 := b_35
    replace b_36 : n_10 ≤ 700 := b_36
    replace b_37 : nx ≤ 701 := b_37
    have h_7 : Φ3 x = some (o_ 14 [.int v_31, .ref (x + 1), .ref (x + 2), .int v_32, .int v_33, .int (nI n_11), .int v_34, .int v_35, .ref (x + 3), .ref (x + 4), .int v_36, .long v_37, .ref (x + 5), .int (nI fl), .int v_38, .long v_39, .long v_40, .long v_41, .long v_42, .ref (x + 6), .ref (x + 7), .int (nI pe), .ref (x + 8), .int (nI le), .ref (x + 9), .ref (x + 10), .int (nI qu), .ref (x + 11), .ref (x + 12), .ref (x + 13), .ref (x + 14), .ref (x + 15), .ref (x + 16), .int (nI n_12), .long v_43, .ref (x + 17), .ref (x + 18), .ref (x + 19), .ref (x + 20), .ref (x + 21), .ref (x + 22), .int (nI n_13), .ref (x + 23), .ref (x + 24), .int (nI n_14), .ref (x + 25), .int (nI n_10), .int (nI nx), .int ec, .int v_44, .int kn, .int v_45, .int nu, .long va]) := h_6
    refine z_callV (As := [.int d]) (rest := []) B (r_appendBytes G l Φ3 sz x rd fl pe le nx n_10 qu kn ec nu va d hx hI3 (show n_10 + 4 ≤ 700 by omega)) (cwV 1 B.1.2.2.2.2 gX12_appendInput_X12_appendBytes rfl rfl rfl (by decide +kernel) ⟨Nat.le_of_ble_eq_true rfl, Nat.le_of_ble_eq_true rfl⟩) h_7 rfl rfl rfl rfl (Nat.le_of_ble_eq_true rfl) dX12_appendInput_32 ⟨Nat.le_of_ble_eq_true rfl, Nat.le_of_ble_eq_true rfl⟩ (fun r_3 Φ4 sz3 st3 hp3 hs3 => ?_)
    obtain ⟨rfl, hq3, ⟨n_15, b_39, hI4⟩, hF3⟩ := hp3
    subst sz3
    replace hs3 : st3 = [] := hs3
    subst st3
    replace hI4 : Im G x (rd, NN, fl, pe, le, nx, n_15, qu, kn, ec, nu, va) Φ4 := hI4
    replace b_39 : n_15 = n_10 + 4 := b_39
    refine z_aload_n B dX12_appendInput_35 rfl 0 rfl ?_
    refine z_iload B dX12_appendInput_36 4 rfl ?_
    obtain ⟨v_46, v_47, v_48, n_16, v_49, v_50, v_51, v_52, v_53, v_54, v_55, v_56, v_57, n_17, v_58, n_18, n_19, v_59, v_60, h_8, b_51, b_40, b_41, b_42, b_43, b_44, b_45, b_46, b_47, b_48, b_49, b_50⟩ := im0 hI4
    replace b_40 : 1 ≤ n_16 := b_40
    replace b_41 : n_16 ≤ 1024 := b_41
    replace b_42 : fl ≤ 12 := b_42
    replace b_43 : pe ≤ 24 := b_43
    replace b_44 : le ≤ 700 := b_44
    replace b_45 : qu ≤ 12 := b_45
    replace b_46 : n_17 ≤ 8 := b_46
    replace b_47 : n_18 ≤ 24 := b_47
    replace b_48 : n_19 ≤ 24 := b_48
    replace b_49 : n_15 ≤ 700 := b_49
    replace b_50 : nx ≤ 701 := b_50
    have h_9 : Φ4 x = some (o_ 14 [.int v_46, .ref (x + 1), .ref (x + 2), .int v_47, .int v_48, .int (nI n_16), .int v_49, .int v_50, .ref (x + 3), .ref (x + 4), .int v_51, .long v_52, .ref (x + 5), .int (nI fl), .int v_53, .long v_54, .long v_55, .long v_56, .long v_57, .ref (x + 6), .ref (x + 7), .int (nI pe), .ref (x + 8), .int (nI le), .ref (x + 9), .ref (x + 10), .int (nI qu), .ref (x + 11), .ref (x + 12), .ref (x + 13), .ref (x + 14), .ref (x + 15), .ref (x + 16), .int (nI n_17), .long v_58, .ref (x + 17), .ref (x + 18), .ref (x + 19), .ref (x + 20), .ref (x + 21), .ref (x + 22), .int (nI n_18), .ref (x + 23), .ref (x + 24), .int (nI n_19), .ref (x + 25), .int (nI n_15), .int (nI nx), .int ec, .int v_59, .int kn, .int v_60, .int nu, .long va]) := h_8
    refine z_callV (As := [.int f]) (rest := []) B (r_appendBytes G l Φ4 sz x rd fl pe le nx n_15 qu kn ec nu va f hx hI4 (show n_15 + 4 ≤ 700 by omega)) (cwV 1 B.1.2.2.2.2 gX12_appendInput_X12_appendBytes rfl rfl rfl (by decide +kernel) ⟨Nat.le_of_ble_eq_true rfl, Nat.le_of_ble_eq_true rfl⟩) h_9 rfl rfl rfl rfl (Nat.le_of_ble_eq_true rfl) dX12_appendInput_38 ⟨Nat.le_of_ble_eq_true rfl, Nat.le_of_ble_eq_true rfl⟩ (fun r_4 Φ5 sz4 st4 hp4 hs4 => ?_)
    obtain ⟨rfl, hq4, ⟨n_20, b_52, hI5⟩, hF4⟩ := hp4
    subst sz4
    replace hs4 : st4 = [] := hs4
    subst st4
    replace hI5 : Im G x (rd, NN, fl, pe, le, nx, n_20, qu, kn, ec, nu, va) Φ5 := hI5
    replace b_52 : n_20 = n_15 + 4 := b_52
    refine z_aload_n B dX12_appendInput_41 rfl 0 rfl ?_
    refine z_iload B dX12_appendInput_42 5 rfl ?_
    obtain ⟨v_61, v_62, v_63, n_21, v_64, v_65, v_66, v_67, v_68, v_69, v_70, v_71, v_72, n_22, v_73, n_23, n_24, v_74, v_75, h_10, b_64, b_53, b_54, b_55, b_56, b_57, b_58, b_59, b_60, b_61, b_62, b_63⟩ := im0 hI5
    replace b_53 : 1 ≤ n_21 := b_53
    replace b_54 : n_21 ≤ 1024 := b_54
    replace b_55 : fl ≤ 12 := b_55
    replace b_56 : pe ≤ 24 := b_56
    replace b_57 : le ≤ 700 := b_57
    replace b_58 : qu ≤ 12 := b_58
    replace b_59 : n_22 ≤ 8 := b_59
    replace b_60 : n_23 ≤ 24 := b_60
    replace b_61 : n_24 ≤ 24 := b_61
    replace b_62 : n_20 ≤ 700 := b_62
    replace b_63 : nx ≤ 701 := b_63
    have h_11 : Φ5 x = some (o_ 14 [.int v_61, .ref (x + 1), .ref (x + 2), .int v_62, .int v_63, .int (nI n_21), .int v_64, .int v_65, .ref (x + 3), .ref (x + 4), .int v_66, .long v_67, .ref (x + 5), .int (nI fl), .int v_68, .long v_69, .long v_70, .long v_71, .long v_72, .ref (x + 6), .ref (x + 7), .int (nI pe), .ref (x + 8), .int (nI le), .ref (x + 9), .ref (x + 10), .int (nI qu), .ref (x + 11), .ref (x + 12), .ref (x + 13), .ref (x + 14), .ref (x + 15), .ref (x + 16), .int (nI n_22), .long v_73, .ref (x + 17), .ref (x + 18), .ref (x + 19), .ref (x + 20), .ref (x + 21), .ref (x + 22), .int (nI n_23), .ref (x + 23), .ref (x + 24), .int (nI n_24), .ref (x + 25), .int (nI n_20), .int (nI nx), .int ec, .int v_74, .int kn, .int v_75, .int nu, .long va]) := h_10
    refine z_callV (As := [.int g]) (rest := []) B (r_appendBytes G l Φ5 sz x rd fl pe le nx n_20 qu kn ec nu va g hx hI5 (show n_20 + 4 ≤ 700 by omega)) (cwV 1 B.1.2.2.2.2 gX12_appendInput_X12_appendBytes rfl rfl rfl (by decide +kernel) ⟨Nat.le_of_ble_eq_true rfl, Nat.le_of_ble_eq_true rfl⟩) h_11 rfl rfl rfl rfl (Nat.le_of_ble_eq_true rfl) dX12_appendInput_44 ⟨Nat.le_of_ble_eq_true rfl, Nat.le_of_ble_eq_true rfl⟩ (fun r_5 Φ6 sz5 st5 hp5 hs5 => ?_)
    obtain ⟨rfl, hq5, ⟨n_25, b_65, hI6⟩, hF5⟩ := hp5
    subst sz5
    replace hs5 : st5 = [] := hs5
    subst st5
    replace hI6 : Im G x (rd, NN, fl, pe, le, nx, n_25, qu, kn, ec, nu, va) Φ6 := hI6
    replace b_65 : n_25 = n_20 + 4 := b_65
    refine z_aload_n B dX12_appendInput_47 rfl 0 rfl ?_
    obtain ⟨v_76, v_77, v_78, n_26, v_79, v_80, v_81, v_82, v_83, v_84, v_85, v_86, v_87, n_27, v_88, n_28, n_29, v_89, v_90, h_12, b_77, b_66, b_67, b_68, b_69, b_70, b_71, b_72, b_73, b_74, b_75, b_76⟩ := im0 hI6
    replace b_66 : 1 ≤ n_26 := b_66
    replace b_67 : n_26 ≤ 1024 := b_67
    replace b_68 : fl ≤ 12 := b_68
    replace b_69 : pe ≤ 24 := b_69
    replace b_70 : le ≤ 700 := b_70
    replace b_71 : qu ≤ 12 := b_71
    replace b_72 : n_27 ≤ 8 := b_72
    replace b_73 : n_28 ≤ 24 := b_73
    replace b_74 : n_29 ≤ 24 := b_74
    replace b_75 : n_25 ≤ 700 := b_75
    replace b_76 : nx ≤ 701 := b_76
    have h_13 : Φ6 x = some (o_ 14 [.int v_76, .ref (x + 1), .ref (x + 2), .int v_77, .int v_78, .int (nI n_26), .int v_79, .int v_80, .ref (x + 3), .ref (x + 4), .int v_81, .long v_82, .ref (x + 5), .int (nI fl), .int v_83, .long v_84, .long v_85, .long v_86, .long v_87, .ref (x + 6), .ref (x + 7), .int (nI pe), .ref (x + 8), .int (nI le), .ref (x + 9), .ref (x + 10), .int (nI qu), .ref (x + 11), .ref (x + 12), .ref (x + 13), .ref (x + 14), .ref (x + 15), .ref (x + 16), .int (nI n_27), .long v_88, .ref (x + 17), .ref (x + 18), .ref (x + 19), .ref (x + 20), .ref (x + 21), .ref (x + 22), .int (nI n_28), .ref (x + 23), .ref (x + 24), .int (nI n_29), .ref (x + 25), .int (nI n_25), .int (nI nx), .int ec, .int v_89, .int kn, .int v_90, .int nu, .long va]) := h_12
    refine z_get (ref := "FlowExporterModel") (C := RX12) (T := TX12) (N := 54) (ci := 14) (v := .int (nI n_25)) B (by decide +kernel) rfl 46 (by decide) (by decide +kernel) rfl h_13 rfl dX12_appendInput_48 ?_
    exact z_ret_i B dX12_appendInput_51 ⟨⟨_, rfl⟩, rfl, ⟨n_25, (Or.inr ⟨by omega, congrArg (fun w9 : Nat => some (Value.int (nI w9))) (show n_25 = il + 20 by omega), by omega⟩), hI6⟩, (fun b9 h9 => ((hF5 b9 (fun j9 h8 h7 => h9 j9 h8 (show j9 = 0 ∨ j9 = 25 by have h6 : j9 = 0 ∨ j9 = 25 := h7; omega))).trans ((hF4 b9 (fun j9 h8 h7 => h9 j9 h8 (show j9 = 0 ∨ j9 = 25 by have h6 : j9 = 0 ∨ j9 = 25 := h7; omega))).trans ((hF3 b9 (fun j9 h8 h7 => h9 j9 h8 (show j9 = 0 ∨ j9 = 25 by have h6 : j9 = 0 ∨ j9 = 25 := h7; omega))).trans ((hF2 b9 (fun j9 h8 h7 => h9 j9 h8 (show j9 = 0 ∨ j9 = 25 by have h6 : j9 = 0 ∨ j9 = 25 := h7; omega))).trans ((hF1 b9 (fun j9 h8 h7 => h9 j9 h8 (show j9 = 0 ∨ j9 = 25 by have h6 : j9 = 0 ∨ j9 = 25 := h7; omega))).trans ((fset_fr hΦ1 (fun h8 => h9 (0) h8 (show 0 = 0 ∨ 0 = 25 by omega))).trans rfl)))))))⟩
  · have e_2 : ¬ (il + 20 ≤ 700) := fun h9 => c_1 ((nI_leI (a := il + 20) (b := 700) (by omega) (by omega)).mpr h9)
    refine z_iconst (v := (-1)) B dX12_appendInput_18 rfl ?_
    exact z_ret_i B dX12_appendInput_19 ⟨⟨_, rfl⟩, rfl, ⟨il, (Or.inl ⟨by omega, rfl, by omega⟩), hI1⟩, (fun b9 h9 => ((fset_fr hΦ1 (fun h8 => h9 (0) h8 (show 0 = 0 ∨ 0 = 25 by omega))).trans rfl))⟩

set_option maxHeartbeats 4000000 in
set_option maxRecDepth 100000 in
theorem r_truncateInput (G : EnvG) (l : Launch) (Φ : Hm) (sz x : Nat) (rd : (Nat → Int32) → Prop) (fl : Nat) (pe : Nat) (le : Nat) (nx : Nat) (il : Nat) (qu : Nat) (kn : Int32) (ec : Int32) (nu : Int32) (va : Int64) (a : Int32) (hx : G.2.2.2 ≤ x) (hI : Im G x (rd, NN, fl, pe, le, nx, il, qu, kn, ec, nu, va) Φ)  : Ct G l yX12_truncateInput wsX12_truncateInput ({ frames := 1, cells := 0, slots := 0, locals := 25 }) 0 0 [.ref x, .int a] Φ sz (fun v Φ1 sz1 => (∃ r9 : Int32, v = some (.int r9)) ∧ sz1 = sz ∧ (∃ (il1 : Nat), (trV il a v il1) ∧ Im G x (rd, NN, fl, pe, le, nx, il1, qu, kn, ec, nu, va) Φ1) ∧ Fr x (fun j9 => j9 = 0) Φ Φ1) := by
  refine Ct.of (cc := cX12_truncateInput) (maxL := 2) (ret := (some .int)) (by decide) rfl (Nat.le_of_ble_eq_true rfl) ?_
  intro p9 e9 s9 m9 w9 t9 k9 B
  show Z p9 l e9 _ s9 m9 _ w9 t9 k9 _ G 2 0 [(0, .ref x), (1, .int a)] [] Φ sz 0 0
  refine z_aload_n B dX12_truncateInput_0 rfl 0 rfl ?_
  refine z_iconst (v := 0) B dX12_truncateInput_1 rfl ?_
  obtain ⟨v_1, v_2, v_3, n_1, v_4, v_5, v_6, v_7, v_8, v_9, v_10, v_11, v_12, n_2, v_13, n_3, n_4, v_14, v_15, h_1, b_12, b_1, b_2, b_3, b_4, b_5, b_6, b_7, b_8, b_9, b_10, b_11⟩ := im0 hI
  replace b_1 : 1 ≤ n_1 := b_1
  replace b_2 : n_1 ≤ 1024 := b_2
  replace b_3 : fl ≤ 12 := b_3
  replace b_4 : pe ≤ 24 := b_4
  replace b_5 : le ≤ 700 := b_5
  replace b_6 : qu ≤ 12 := b_6
  replace b_7 : n_2 ≤ 8 := b_7
  replace b_8 : n_3 ≤ 24 := b_8
  replace b_9 : n_4 ≤ 24 := b_9
  replace b_10 : il ≤ 700 := b_10
  replace b_11 : nx ≤ 701 := b_11
  have h_2 : Φ x = some (o_ 14 [.int v_1, .ref (x + 1), .ref (x + 2), .int v_2, .int v_3, .int (nI n_1), .int v_4, .int v_5, .ref (x + 3), .ref (x + 4), .int v_6, .long v_7, .ref (x + 5), .int (nI fl), .int v_8, .long v_9, .long v_10, .long v_11, .long v_12, .ref (x + 6), .ref (x + 7), .int (nI pe), .ref (x + 8), .int (nI le), .ref (x + 9), .ref (x + 10), .int (nI qu), .ref (x + 11), .ref (x + 12), .ref (x + 13), .ref (x + 14), .ref (x + 15), .ref (x + 16), .int (nI n_2), .long v_13, .ref (x + 17), .ref (x + 18), .ref (x + 19), .ref (x + 20), .ref (x + 21), .ref (x + 22), .int (nI n_3), .ref (x + 23), .ref (x + 24), .int (nI n_4), .ref (x + 25), .int (nI il), .int (nI nx), .int ec, .int v_14, .int kn, .int v_15, .int nu, .long va]) := h_1
  refine z_put (ref := "FlowExporterModel") (C := RX12) (T := TX12) (N := 54) (ci := 14) (v := .int 0) B (by decide +kernel) tyX12 tyX12_ok nmX12 rfl 0 (by decide) (by decide +kernel) rfl (Or.inl rfl) h_2 hx rfl rfl (Nat.le_of_ble_eq_true rfl) dX12_truncateInput_2 (fun Φ1 hΦ1 => ?_)
  have h_3 : Φ1 x = some (o_ 14 [.int 0, .ref (x + 1), .ref (x + 2), .int v_2, .int v_3, .int (nI n_1), .int v_4, .int v_5, .ref (x + 3), .ref (x + 4), .int v_6, .long v_7, .ref (x + 5), .int (nI fl), .int v_8, .long v_9, .long v_10, .long v_11, .long v_12, .ref (x + 6), .ref (x + 7), .int (nI pe), .ref (x + 8), .int (nI le), .ref (x + 9), .ref (x + 10), .int (nI qu), .ref (x + 11), .ref (x + 12), .ref (x + 13), .ref (x + 14), .ref (x + 15), .ref (x + 16), .int (nI n_2), .long v_13, .ref (x + 17), .ref (x + 18), .ref (x + 19), .ref (x + 20), .ref (x + 21), .ref (x + 22), .int (nI n_3), .ref (x + 23), .ref (x + 24), .int (nI n_4), .ref (x + 25), .int (nI il), .int (nI nx), .int ec, .int v_14, .int kn, .int v_15, .int nu, .long va]) := fset_at hΦ1
  have hI1 : Im G x (rd, NN, fl, pe, le, nx, il, qu, kn, ec, nu, va) Φ1 := Im.put0 hI hΦ1 ⟨0, v_2, v_3, n_1, v_4, v_5, v_6, v_7, v_8, v_9, v_10, v_11, v_12, n_2, v_13, n_3, n_4, v_14, v_15, rfl, b_12, (show 1 ≤ n_1 by omega), (show n_1 ≤ 1024 by omega), (show fl ≤ 12 by omega), (show pe ≤ 24 by omega), (show le ≤ 700 by omega), (show qu ≤ 12 by omega), (show n_2 ≤ 8 by omega), (show n_3 ≤ 24 by omega), (show n_4 ≤ 24 by omega), (show il ≤ 700 by omega), (show nx ≤ 701 by omega)⟩
  refine z_iload_n B dX12_truncateInput_5 rfl 1 rfl ?_
  refine z_i2l (v := a.toInt64) B dX12_truncateInput_6 rfl ?_
  refine z_lconst (v := 0) B dX12_truncateInput_7 rfl ?_
  refine z_aload_n B dX12_truncateInput_8 rfl 0 rfl ?_
  refine z_get (ref := "FlowExporterModel") (C := RX12) (T := TX12) (N := 54) (ci := 14) (v := .int (nI il)) B (by decide +kernel) rfl 46 (by decide) (by decide +kernel) rfl h_3 rfl dX12_truncateInput_9 ?_
  refine z_i2l (v := (nI il).toInt64) B dX12_truncateInput_12 rfl ?_
  by_cases hR1 : inP a.toInt64 0 ((nI il).toInt64)
  · obtain ⟨n_5, e_1, e_2, e_3, rfl⟩ := in_get (L := 0) (H := ((il : Nat) : Int)) (by decide) (natL (by omega)) hR1
    refine z_callS (As := [.long ((nI n_5).toInt64), .long 0, .long ((nI il).toInt64)]) (rest := []) B (c_inR1 G l Φ1 sz ((nI n_5).toInt64) 0 ((nI il).toInt64) hR1 (fun v8 Φ8 sz8 => v8 = some (.int 1) ∧ sz8 = sz ∧ Im G x (rd, NN, fl, pe, le, nx, il, qu, kn, ec, nu, va) Φ8 ∧ Fr x (fun j9 => False) Φ1 Φ8) ⟨rfl, rfl, hI1, fun _ _ => rfl⟩) (va_cwS 3 B.1.2.2.2.2 gX12_truncateInput_X12_inRange rfl rfl rfl (by decide +kernel) ⟨Nat.le_of_ble_eq_true rfl, Nat.le_of_ble_eq_true rfl⟩) rfl rfl (Nat.le_of_ble_eq_true rfl) dX12_truncateInput_13 ⟨Nat.le_of_ble_eq_true rfl, Nat.le_of_ble_eq_true rfl⟩ (fun r_1 Φ2 sz1 st1 hp1 hs1 => ?_)
    obtain ⟨rfl, hq1, hI2, hF1⟩ := hp1
    subst sz1
    replace hs1 : st1 = [.int 1] := hs1
    subst st1
    refine z_if_ne (tgt := 21) B dX12_truncateInput_16 rfl (fun c_1 => ?_) (fun h9 => absurd h9 (by decide))
    refine z_aload_n B dX12_truncateInput_21 rfl 0 rfl ?_
    refine z_iload_n B dX12_truncateInput_22 rfl 1 rfl ?_
    have h_4 : Φ2 x = some (o_ 14 [.int 0, .ref (x + 1), .ref (x + 2), .int v_2, .int v_3, .int (nI n_1), .int v_4, .int v_5, .ref (x + 3), .ref (x + 4), .int v_6, .long v_7, .ref (x + 5), .int (nI fl), .int v_8, .long v_9, .long v_10, .long v_11, .long v_12, .ref (x + 6), .ref (x + 7), .int (nI pe), .ref (x + 8), .int (nI le), .ref (x + 9), .ref (x + 10), .int (nI qu), .ref (x + 11), .ref (x + 12), .ref (x + 13), .ref (x + 14), .ref (x + 15), .ref (x + 16), .int (nI n_2), .long v_13, .ref (x + 17), .ref (x + 18), .ref (x + 19), .ref (x + 20), .ref (x + 21), .ref (x + 22), .int (nI n_3), .ref (x + 23), .ref (x + 24), .int (nI n_4), .ref (x + 25), .int (nI il), .int (nI nx), .int ec, .int v_14, .int kn, .int v_15, .int nu, .long va]) := ((hF1 x (fun j9 h8 h7 => (show False from h7).elim)).trans h_3)
    refine z_put (ref := "FlowExporterModel") (C := RX12) (T := TX12) (N := 54) (ci := 14) (v := .int (nI n_5)) B (by decide +kernel) tyX12 tyX12_ok nmX12 rfl 46 (by decide) (by decide +kernel) rfl (Or.inl rfl) h_4 hx rfl rfl (Nat.le_of_ble_eq_true rfl) dX12_truncateInput_23 (fun Φ3 hΦ2 => ?_)
    have h_5 : Φ3 x = some (o_ 14 [.int 0, .ref (x + 1), .ref (x + 2), .int v_2, .int v_3, .int (nI n_1), .int v_4, .int v_5, .ref (x + 3), .ref (x + 4), .int v_6, .long v_7, .ref (x + 5), .int (nI fl), .int v_8, .long v_9, .long v_10, .long v_11, .long v_12, .ref (x + 6), .ref (x + 7), .int (nI pe), .ref (x + 8), .int (nI le), .ref (x + 9), .ref (x + 10), .int (nI qu), .ref (x + 11), .ref (x + 12), .ref (x + 13), .ref (x + 14), .ref (x + 15), .ref (x + 16), .int (nI n_2), .long v_13, .ref (x + 17), .ref (x + 18), .ref (x + 19), .ref (x + 20), .ref (x + 21), .ref (x + 22), .int (nI n_3), .ref (x + 23), .ref (x + 24), .int (nI n_4), .ref (x + 25), .int (nI n_5), .int (nI nx), .int ec, .int v_14, .int kn, .int v_15, .int nu, .long va]) := fset_at hΦ2
    have hI3 : Im G x (rd, NN, fl, pe, le, nx, n_5, qu, kn, ec, nu, va) Φ3 := Im.put0 hI2 hΦ2 ⟨0, v_2, v_3, n_1, v_4, v_5, v_6, v_7, v_8, v_9, v_10, v_11, v_12, n_2, v_13, n_3, n_4, v_14, v_15, rfl, b_12, (show 1 ≤ n_1 by omega), (show n_1 ≤ 1024 by omega), (show fl ≤ 12 by omega), (show pe ≤ 24 by omega), (show le ≤ 700 by omega), (show qu ≤ 12 by omega), (show n_2 ≤ 8 by omega), (show n_3 ≤ 24 by omega), (show n_4 ≤ 24 by omega), (show n_5 ≤ 700 by omega), (show nx ≤ 701 by omega)⟩
    refine z_iload_n B dX12_truncateInput_26 rfl 1 rfl ?_
    exact z_ret_i B dX12_truncateInput_27 ⟨⟨_, rfl⟩, rfl, ⟨n_5, (Or.inl ⟨n_5, by omega, rfl, rfl, rfl⟩), hI3⟩, (fun b9 h9 => ((fset_fr hΦ2 (fun h8 => h9 (0) h8 (show 0 = 0 by omega))).trans ((hF1 b9 (fun j9 h8 h7 => (show False from h7).elim)).trans ((fset_fr hΦ1 (fun h8 => h9 (0) h8 (show 0 = 0 by omega))).trans rfl))))⟩
  · refine z_callS (As := [.long a.toInt64, .long 0, .long ((nI il).toInt64)]) (rest := []) B (c_inR0 G l Φ1 sz a.toInt64 0 ((nI il).toInt64) hR1 (fun v8 Φ8 sz8 => v8 = some (.int 0) ∧ sz8 = sz ∧ Im G x (rd, NN, fl, pe, le, nx, il, qu, kn, ec, nu, va) Φ8 ∧ Fr x (fun j9 => False) Φ1 Φ8) ⟨rfl, rfl, hI1, fun _ _ => rfl⟩) (va_cwS 3 B.1.2.2.2.2 gX12_truncateInput_X12_inRange rfl rfl rfl (by decide +kernel) ⟨Nat.le_of_ble_eq_true rfl, Nat.le_of_ble_eq_true rfl⟩) rfl rfl (Nat.le_of_ble_eq_true rfl) dX12_truncateInput_13 ⟨Nat.le_of_ble_eq_true rfl, Nat.le_of_ble_eq_true rfl⟩ (fun r_2 Φ4 sz2 st2 hp2 hs2 => ?_)
    obtain ⟨rfl, hq2, hI4, hF2⟩ := hp2
    subst sz2
    replace hs2 : st2 = [.int 0] := hs2
    subst st2
    refine z_if_ne (tgt := 21) B dX12_truncateInput_16 rfl (fun h9 => absurd (by decide) h9) (fun c_2 => ?_)
    refine z_iconst (v := (-1)) B dX12_truncateInput_19 rfl ?_
    exact z_ret_i B dX12_truncateInput_20 ⟨⟨_, rfl⟩, rfl, ⟨il, (Or.inr ⟨tr_out (by omega) hR1, rfl, rfl⟩), hI4⟩, (fun b9 h9 => ((hF2 b9 (fun j9 h8 h7 => (show False from h7).elim)).trans ((fset_fr hΦ1 (fun h8 => h9 (0) h8 (show 0 = 0 by omega))).trans rfl)))⟩

/-- a byte of the input, -1 behind its end -/
def bA (f : Nat → Int32) (il i : Nat) : Int32 := if i < il then f i &&& 255 else -1
theorem bA_lt {f : Nat → Int32} {il i : Nat} (h : ¬ bA f il i = -1) : i < il := by
  refine Nat.lt_of_not_le (fun hc => h ?_)
  unfold bA
  exact if_neg (by omega)
theorem bA_eq {f : Nat → Int32} {il i : Nat} {c : Int32} (hc : ¬ c = -1) (h : bA f il i = c) : i < il := bA_lt (fun e => hc (h.symm.trans e))
theorem bA_in {f : Nat → Int32} {il i : Nat} {lo hi : Int64} (hlo : 0 ≤ lo.toInt) (h : inP (bA f il i).toInt64 lo hi) : i < il := by
  refine bA_lt (f := f) (fun e => ?_)
  rw [e, inP_iff] at h
  have h2 : (-1 : Int32).toInt = -1 := by decide
  rw [h2] at h
  omega

set_option maxHeartbeats 4000000 in
set_option maxRecDepth 100000 in
theorem r_byteAt (G : EnvG) (l : Launch) (Φ : Hm) (sz x : Nat) (rd : (Nat → Int32) → Prop) (fl : Nat) (pe : Nat) (le : Nat) (nx : Nat) (il : Nat) (qu : Nat) (kn : Int32) (ec : Int32) (nu : Int32) (va : Int64) (fB : Nat → Int32) (i : Nat) (hx : G.2.2.2 ≤ x) (hI : Im G x (rd, NN, fl, pe, le, nx, il, qu, kn, ec, nu, va) Φ) (hc0 : Φ (x + 25) = some (ab_ G 700 fB)) (hi : i ≤ 701) : Ct G l yX12_byteAt wsX12_byteAt ({ frames := 0, cells := 0, slots := 0, locals := 0 }) 0 0 [.ref x, .int (nI i)] Φ sz (fun v Φ1 sz1 => (v = some (.int (bA fB il i))) ∧ sz1 = sz ∧ (Im G x (rd, NN, fl, pe, le, nx, il, qu, kn, ec, nu, va) Φ1) ∧ Fr x (fun j9 => False) Φ Φ1) := by
  refine Ct.of (cc := cX12_byteAt) (maxL := 2) (ret := (some .int)) (by decide) rfl (Nat.le_of_ble_eq_true rfl) ?_
  intro p9 e9 s9 m9 w9 t9 k9 B
  show Z p9 l e9 _ s9 m9 _ w9 t9 k9 _ G 2 0 [(0, .ref x), (1, .int (nI i))] [] Φ sz 0 0
  refine z_iload_n B dX12_byteAt_0 rfl 1 rfl ?_
  refine z_aload_n B dX12_byteAt_1 rfl 0 rfl ?_
  obtain ⟨v_1, v_2, v_3, n_1, v_4, v_5, v_6, v_7, v_8, v_9, v_10, v_11, v_12, n_2, v_13, n_3, n_4, v_14, v_15, h_1, b_12, b_1, b_2, b_3, b_4, b_5, b_6, b_7, b_8, b_9, b_10, b_11⟩ := im0 hI
  replace b_1 : 1 ≤ n_1 := b_1
  replace b_2 : n_1 ≤ 1024 := b_2
  replace b_3 : fl ≤ 12 := b_3
  replace b_4 : pe ≤ 24 := b_4
  replace b_5 : le ≤ 700 := b_5
  replace b_6 : qu ≤ 12 := b_6
  replace b_7 : n_2 ≤ 8 := b_7
  replace b_8 : n_3 ≤ 24 := b_8
  replace b_9 : n_4 ≤ 24 := b_9
  replace b_10 : il ≤ 700 := b_10
  replace b_11 : nx ≤ 701 := b_11
  have h_2 : Φ x = some (o_ 14 [.int v_1, .ref (x + 1), .ref (x + 2), .int v_2, .int v_3, .int (nI n_1), .int v_4, .int v_5, .ref (x + 3), .ref (x + 4), .int v_6, .long v_7, .ref (x + 5), .int (nI fl), .int v_8, .long v_9, .long v_10, .long v_11, .long v_12, .ref (x + 6), .ref (x + 7), .int (nI pe), .ref (x + 8), .int (nI le), .ref (x + 9), .ref (x + 10), .int (nI qu), .ref (x + 11), .ref (x + 12), .ref (x + 13), .ref (x + 14), .ref (x + 15), .ref (x + 16), .int (nI n_2), .long v_13, .ref (x + 17), .ref (x + 18), .ref (x + 19), .ref (x + 20), .ref (x + 21), .ref (x + 22), .int (nI n_3), .ref (x + 23), .ref (x + 24), .int (nI n_4), .ref (x + 25), .int (nI il), .int (nI nx), .int ec, .int v_14, .int kn, .int v_15, .int nu, .long va]) := h_1
  refine z_get (ref := "FlowExporterModel") (C := RX12) (T := TX12) (N := 54) (ci := 14) (v := .int (nI il)) B (by decide +kernel) rfl 46 (by decide) (by decide +kernel) rfl h_2 rfl dX12_byteAt_2 ?_
  refine z_icmp_ge (tgt := 21) B dX12_byteAt_5 rfl (fun c_1 => ?_) (fun c_1 => ?_)
  · have e_1 : il ≤ i := (nI_leI (a := il) (b := i) (by omega) (by omega)).mp c_1
    refine z_iconst (v := (-1)) B dX12_byteAt_21 rfl ?_
    exact z_ret_i B dX12_byteAt_22 ⟨(show some (Value.int (-1)) = some (.int (bA fB il i)) by unfold bA; rw [if_neg (by omega)]), rfl, hI, (fun b9 h9 => rfl)⟩
  · have e_2 : ¬ (il ≤ i) := fun h9 => c_1 ((nI_leI (a := il) (b := i) (by omega) (by omega)).mpr h9)
    refine z_aload_n B dX12_byteAt_8 rfl 0 rfl ?_
    refine z_get (ref := "FlowExporterModel") (C := RX12) (T := TX12) (N := 54) (ci := 14) (v := .ref (x + 25)) B (by decide +kernel) rfl 45 (by decide) (by decide +kernel) rfl h_2 rfl dX12_byteAt_9 ?_
    refine z_iload_n B dX12_byteAt_12 rfl 1 rfl ?_
    refine z_bald B hc0 (vp_in_nI (by omega) (by omega)) dX12_byteAt_13 ?_
    refine z_sipush (v := 255) B dX12_byteAt_14 rfl ?_
    refine z_iand B dX12_byteAt_17 ?_
    refine z_goto (tgt := 22) B dX12_byteAt_18 rfl ?_
    exact z_ret_i B dX12_byteAt_22 ⟨(show some (Value.int ((fB (nI i).toNatClampNeg) &&& 255)) = some (.int (bA fB il i)) by rw [nI_clamp (by omega)]; unfold bA; rw [if_pos (by omega)]), rfl, hI, (fun b9 h9 => rfl)⟩

set_option maxHeartbeats 4000000 in
set_option maxRecDepth 100000 in
theorem r_isLetter (G : EnvG) (l : Launch) (Φ : Hm) (sz x : Nat) (rd : (Nat → Int32) → Prop) (fl : Nat) (pe : Nat) (le : Nat) (nx : Nat) (il : Nat) (qu : Nat) (kn : Int32) (ec : Int32) (nu : Int32) (va : Int64) (a : Int32) (hx : G.2.2.2 ≤ x) (hI : Im G x (rd, NN, fl, pe, le, nx, il, qu, kn, ec, nu, va) Φ)  : Ct G l yX12_isLetter wsX12_isLetter ({ frames := 1, cells := 0, slots := 0, locals := 25 }) 0 0 [.int a] Φ sz (fun v Φ1 sz1 => ((v = some (.int 0) ∧ ¬ inP a.toInt64 97 122) ∨ (v = some (.int 1) ∧ inP a.toInt64 97 122)) ∧ sz1 = sz ∧ (Im G x (rd, NN, fl, pe, le, nx, il, qu, kn, ec, nu, va) Φ1) ∧ Fr x (fun j9 => False) Φ Φ1) := by
  refine Ct.of (cc := cX12_isLetter) (maxL := 1) (ret := (some .boolean)) (by decide) rfl (Nat.le_of_ble_eq_true rfl) ?_
  intro p9 e9 s9 m9 w9 t9 k9 B
  show Z p9 l e9 _ s9 m9 _ w9 t9 k9 _ G 1 0 [(0, .int a)] [] Φ sz 0 0
  refine z_iload_n B dX12_isLetter_0 rfl 0 rfl ?_
  refine z_i2l (v := a.toInt64) B dX12_isLetter_1 rfl ?_
  refine z_ldc2 (v := 97) B (by decide +kernel) dX12_isLetter_2 ?_
  refine z_ldc2 (v := 122) B (by decide +kernel) dX12_isLetter_5 ?_
  by_cases hR1 : inP a.toInt64 97 122
  · obtain ⟨n_1, e_1, e_2, e_3, rfl⟩ := in_get (L := 97) (H := 122) (by decide) (by decide) hR1
    refine z_callS (As := [.long ((nI n_1).toInt64), .long 97, .long 122]) (rest := []) B (c_inR1 G l Φ sz ((nI n_1).toInt64) 97 122 hR1 (fun v8 Φ8 sz8 => v8 = some (.int 1) ∧ sz8 = sz ∧ Im G x (rd, NN, fl, pe, le, nx, il, qu, kn, ec, nu, va) Φ8 ∧ Fr x (fun j9 => False) Φ Φ8) ⟨rfl, rfl, hI, fun _ _ => rfl⟩) (va_cwS 3 B.1.2.2.2.2 gX12_isLetter_X12_inRange rfl rfl rfl (by decide +kernel) ⟨Nat.le_of_ble_eq_true rfl, Nat.le_of_ble_eq_true rfl⟩) rfl rfl (Nat.le_of_ble_eq_true rfl) dX12_isLetter_8 ⟨Nat.le_of_ble_eq_true rfl, Nat.le_of_ble_eq_true rfl⟩ (fun r_1 Φ1 sz1 st1 hp1 hs1 => ?_)
    obtain ⟨rfl, hq1, hI1, hF1⟩ := hp1
    subst sz1
    replace hs1 : st1 = [.int 1] := hs1
    subst st1
    exact z_ret_z B dX12_isLetter_11 (by decide) ⟨(Or.inr ⟨rfl, hR1⟩), rfl, hI1, (fun b9 h9 => ((hF1 b9 (fun j9 h8 h7 => (show False from h7).elim)).trans rfl))⟩
  · refine z_callS (As := [.long a.toInt64, .long 97, .long 122]) (rest := []) B (c_inR0 G l Φ sz a.toInt64 97 122 hR1 (fun v8 Φ8 sz8 => v8 = some (.int 0) ∧ sz8 = sz ∧ Im G x (rd, NN, fl, pe, le, nx, il, qu, kn, ec, nu, va) Φ8 ∧ Fr x (fun j9 => False) Φ Φ8) ⟨rfl, rfl, hI, fun _ _ => rfl⟩) (va_cwS 3 B.1.2.2.2.2 gX12_isLetter_X12_inRange rfl rfl rfl (by decide +kernel) ⟨Nat.le_of_ble_eq_true rfl, Nat.le_of_ble_eq_true rfl⟩) rfl rfl (Nat.le_of_ble_eq_true rfl) dX12_isLetter_8 ⟨Nat.le_of_ble_eq_true rfl, Nat.le_of_ble_eq_true rfl⟩ (fun r_2 Φ2 sz2 st2 hp2 hs2 => ?_)
    obtain ⟨rfl, hq2, hI2, hF2⟩ := hp2
    subst sz2
    replace hs2 : st2 = [.int 0] := hs2
    subst st2
    exact z_ret_z B dX12_isLetter_11 (by decide) ⟨(Or.inl ⟨rfl, hR1⟩), rfl, hI2, (fun b9 h9 => ((hF2 b9 (fun j9 h8 h7 => (show False from h7).elim)).trans rfl))⟩

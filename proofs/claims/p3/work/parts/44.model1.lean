set_option maxHeartbeats 4000000 in
set_option maxRecDepth 100000 in
theorem r_throwsIf (G : EnvG) (l : Launch) (Φ : Hm) (sz x : Nat) (rd : (Nat → Int32) → Prop) (fl : Nat) (pe : Nat) (le : Nat) (nx : Nat) (il : Nat) (qu : Nat) (kn : Int32) (ec : Int32) (nu : Int32) (va : Int64) (a : Int32) (b : Int32) (hx : G.2.2.2 ≤ x) (hI : Im G x (rd, NN, fl, pe, le, nx, il, qu, kn, ec, nu, va) Φ) (ha : a = 0 ∨ a = 1) : Ct G l yX12_throwsIf wsX12_throwsIf ({ frames := 0, cells := 0, slots := 0, locals := 0 }) 0 0 [.ref x, .int a, .int b] Φ sz (fun v Φ1 sz1 => (v = some (.int a)) ∧ sz1 = sz ∧ (Im G x (rd, NN, fl, pe, le, nx, il, qu, kn, ec, nu, va) Φ1) ∧ Fr x (fun j9 => j9 = 0) Φ Φ1) := by
  refine Ct.of (cc := cX12_throwsIf) (maxL := 3) (ret := (some .boolean)) (by decide) rfl (Nat.le_of_ble_eq_true rfl) ?_
  intro p9 e9 s9 m9 w9 t9 k9 B
  show Z p9 l e9 _ s9 m9 _ w9 t9 k9 _ G 3 0 [(0, .ref x), (1, .int a), (2, .int b)] [] Φ sz 0 0
  refine z_iload_n B dX12_throwsIf_0 rfl 1 rfl ?_
  refine z_if_eq (tgt := 9) B dX12_throwsIf_1 rfl (fun c_1 => ?_) (fun c_1 => ?_)
  · refine z_iload_n B dX12_throwsIf_9 rfl 1 rfl ?_
    exact z_ret_z B dX12_throwsIf_10 ha ⟨rfl, rfl, hI, (fun b9 h9 => rfl)⟩
  · refine z_aload_n B dX12_throwsIf_4 rfl 0 rfl ?_
    refine z_iload_n B dX12_throwsIf_5 rfl 2 rfl ?_
    obtain ⟨v_1, v_2, v_3, n_1, v_4, v_5, v_6, v_7, v_8, v_9, v_10, v_11, v_12, n_2, v_13, n_3, n_4, v_14, v_15, h_1, b_12, b_1, b_2, b_3, b_4, b_5, b_6, b_7, b_8, b_9, b_10, b_11⟩ := im0 hI
    replace b_1 : 1 ≤ n_1 := b_1
    replace b_2 : n_1 ≤ 1024 := b_2
    replace b_3 : fl ≤ 12 := b_3
    replace b_4 : pe ≤ 24 := b_4
    replace b_5 : le ≤ 700 := b_5
    replace b_6 : qu ≤ 12 := b_6
    replace b_7 : n_2 ≤ 8 := b_7
    replace b_8 : n_3 ≤ 24 := b_8
    replace b_9 : n_4 ≤ 24 := b_9
    replace b_10 : il ≤ 700 := b_10
    replace b_11 : nx ≤ 701 := b_11
    have h_2 : Φ x = some (o_ 14 [.int v_1, .ref (x + 1), .ref (x + 2), .int v_2, .int v_3, .int (nI n_1), .int v_4, .int v_5, .ref (x + 3), .ref (x + 4), .int v_6, .long v_7, .ref (x + 5), .int (nI fl), .int v_8, .long v_9, .long v_10, .long v_11, .long v_12, .ref (x + 6), .ref (x + 7), .int (nI pe), .ref (x + 8), .int (nI le), .ref (x + 9), .ref (x + 10), .int (nI qu), .ref (x + 11), .ref (x + 12), .ref (x + 13), .ref (x + 14), .ref (x + 15), .ref (x + 16), .int (nI n_2), .long v_13, .ref (x + 17), .ref (x + 18), .ref (x + 19), .ref (x + 20), .ref (x + 21), .ref (x + 22), .int (nI n_3), .ref (x + 23), .ref (x + 24), .int (nI n_4), .ref (x + 25), .int (nI il), .int (nI nx), .int ec, .int v_14, .int kn, .int v_15, .int nu, .long va]) := h_1
    refine z_put (ref := "FlowExporterModel") (C := RX12) (T := TX12) (N := 54) (ci := 14) (v := .int b) B (by decide +kernel) tyX12 tyX12_ok nmX12 rfl 0 (by decide) (by decide +kernel) rfl (Or.inl rfl) h_2 hx rfl rfl (Nat.le_of_ble_eq_true rfl) dX12_throwsIf_6 (fun Φ1 hΦ1 => ?_)
    have h_3 : Φ1 x = some (o_ 14 [.int b, .ref (x + 1), .ref (x + 2), .int v_2, .int v_3, .int (nI n_1), .int v_4, .int v_5, .ref (x + 3), .ref (x + 4), .int v_6, .long v_7, .ref (x + 5), .int (nI fl), .int v_8, .long v_9, .long v_10, .long v_11, .long v_12, .ref (x + 6), .ref (x + 7), .int (nI pe), .ref (x + 8), .int (nI le), .ref (x + 9), .ref (x + 10), .int (nI qu), .ref (x + 11), .ref (x + 12), .ref (x + 13), .ref (x + 14), .ref (x + 15), .ref (x + 16), .int (nI n_2), .long v_13, .ref (x + 17), .ref (x + 18), .ref (x + 19), .ref (x + 20), .ref (x + 21), .ref (x + 22), .int (nI n_3), .ref (x + 23), .ref (x + 24), .int (nI n_4), .ref (x + 25), .int (nI il), .int (nI nx), .int ec, .int v_14, .int kn, .int v_15, .int nu, .long va]) := fset_at hΦ1
    have hI1 : Im G x (rd, NN, fl, pe, le, nx, il, qu, kn, ec, nu, va) Φ1 := Im.put0 hI hΦ1 ⟨b, v_2, v_3, n_1, v_4, v_5, v_6, v_7, v_8, v_9, v_10, v_11, v_12, n_2, v_13, n_3, n_4, v_14, v_15, rfl, b_12, (show 1 ≤ n_1 by omega), (show n_1 ≤ 1024 by omega), (show fl ≤ 12 by omega), (show pe ≤ 24 by omega), (show le ≤ 700 by omega), (show qu ≤ 12 by omega), (show n_2 ≤ 8 by omega), (show n_3 ≤ 24 by omega), (show n_4 ≤ 24 by omega), (show il ≤ 700 by omega), (show nx ≤ 701 by omega)⟩
    refine z_iload_n B dX12_throwsIf_9 rfl 1 rfl ?_
    exact z_ret_z B dX12_throwsIf_10 ha ⟨rfl, rfl, hI1, (fun b9 h9 => ((fset_fr hΦ1 (fun h8 => h9 (0) h8 (show 0 = 0 by omega))).trans rfl))⟩

set_option maxHeartbeats 4000000 in
set_option maxRecDepth 100000 in
theorem r_now (G : EnvG) (l : Launch) (Φ : Hm) (sz x : Nat) (rd : (Nat → Int32) → Prop) (fl : Nat) (pe : Nat) (le : Nat) (nx : Nat) (il : Nat) (qu : Nat) (kn : Int32) (ec : Int32) (nu : Int32) (va : Int64)  (hx : G.2.2.2 ≤ x) (hI : Im G x (rd, NN, fl, pe, le, nx, il, qu, kn, ec, nu, va) Φ)  : Ct G l yX12_now wsX12_now ({ frames := 0, cells := 0, slots := 0, locals := 0 }) 0 0 [.ref x] Φ sz (fun v Φ1 sz1 => (∃ r9 : Int32, v = some (.int r9)) ∧ sz1 = sz ∧ (Im G x (rd, NN, fl, pe, le, nx, il, qu, kn, ec, nu, va) Φ1) ∧ Fr x (fun j9 => j9 = 0) Φ Φ1) := by
  refine Ct.of (cc := cX12_now) (maxL := 1) (ret := (some .int)) (by decide) rfl (Nat.le_of_ble_eq_true rfl) ?_
  intro p9 e9 s9 m9 w9 t9 k9 B
  show Z p9 l e9 _ s9 m9 _ w9 t9 k9 _ G 1 0 [(0, .ref x)] [] Φ sz 0 0
  refine z_aload_n B dX12_now_0 rfl 0 rfl ?_
  refine z_iconst (v := 0) B dX12_now_1 rfl ?_
  obtain ⟨v_1, v_2, v_3, n_1, v_4, v_5, v_6, v_7, v_8, v_9, v_10, v_11, v_12, n_2, v_13, n_3, n_4, v_14, v_15, h_1, b_12, b_1, b_2, b_3, b_4, b_5, b_6, b_7, b_8, b_9, b_10, b_11⟩ := im0 hI
  replace b_1 : 1 ≤ n_1 := b_1
  replace b_2 : n_1 ≤ 1024 := b_2
  replace b_3 : fl ≤ 12 := b_3
  replace b_4 : pe ≤ 24 := b_4
  replace b_5 : le ≤ 700 := b_5
  replace b_6 : qu ≤ 12 := b_6
  replace b_7 : n_2 ≤ 8 := b_7
  replace b_8 : n_3 ≤ 24 := b_8
  replace b_9 : n_4 ≤ 24 := b_9
  replace b_10 : il ≤ 700 := b_10
  replace b_11 : nx ≤ 701 := b_11
  have h_2 : Φ x = some (o_ 14 [.int v_1, .ref (x + 1), .ref (x + 2), .int v_2, .int v_3, .int (nI n_1), .int v_4, .int v_5, .ref (x + 3), .ref (x + 4), .int v_6, .long v_7, .ref (x + 5), .int (nI fl), .int v_8, .long v_9, .long v_10, .long v_11, .long v_12, .ref (x + 6), .ref (x + 7), .int (nI pe), .ref (x + 8), .int (nI le), .ref (x + 9), .ref (x + 10), .int (nI qu), .ref (x + 11), .ref (x + 12), .ref (x + 13), .ref (x + 14), .ref (x + 15), .ref (x + 16), .int (nI n_2), .long v_13, .ref (x + 17), .ref (x + 18), .ref (x + 19), .ref (x + 20), .ref (x + 21), .ref (x + 22), .int (nI n_3), .ref (x + 23), .ref (x + 24), .int (nI n_4), .ref (x + 25), .int (nI il), .int (nI nx), .int ec, .int v_14, .int kn, .int v_15, .int nu, .long va]) := h_1
  refine z_put (ref := "FlowExporterModel") (C := RX12) (T := TX12) (N := 54) (ci := 14) (v := .int 0) B (by decide +kernel) tyX12 tyX12_ok nmX12 rfl 0 (by decide) (by decide +kernel) rfl (Or.inl rfl) h_2 hx rfl rfl (Nat.le_of_ble_eq_true rfl) dX12_now_2 (fun Φ1 hΦ1 => ?_)
  have h_3 : Φ1 x = some (o_ 14 [.int 0, .ref (x + 1), .ref (x + 2), .int v_2, .int v_3, .int (nI n_1), .int v_4, .int v_5, .ref (x + 3), .ref (x + 4), .int v_6, .long v_7, .ref (x + 5), .int (nI fl), .int v_8, .long v_9, .long v_10, .long v_11, .long v_12, .ref (x + 6), .ref (x + 7), .int (nI pe), .ref (x + 8), .int (nI le), .ref (x + 9), .ref (x + 10), .int (nI qu), .ref (x + 11), .ref (x + 12), .ref (x + 13), .ref (x + 14), .ref (x + 15), .ref (x + 16), .int (nI n_2), .long v_13, .ref (x + 17), .ref (x + 18), .ref (x + 19), .ref (x + 20), .ref (x + 21), .ref (x + 22), .int (nI n_3), .ref (x + 23), .ref (x + 24), .int (nI n_4), .ref (x + 25), .int (nI il), .int (nI nx), .int ec, .int v_14, .int kn, .int v_15, .int nu, .long va]) := fset_at hΦ1
  have hI1 : Im G x (rd, NN, fl, pe, le, nx, il, qu, kn, ec, nu, va) Φ1 := Im.put0 hI hΦ1 ⟨0, v_2, v_3, n_1, v_4, v_5, v_6, v_7, v_8, v_9, v_10, v_11, v_12, n_2, v_13, n_3, n_4, v_14, v_15, rfl, b_12, (show 1 ≤ n_1 by omega), (show n_1 ≤ 1024 by omega), (show fl ≤ 12 by omega), (show pe ≤ 24 by omega), (show le ≤ 700 by omega), (show qu ≤ 12 by omega), (show n_2 ≤ 8 by omega), (show n_3 ≤ 24 by omega), (show n_4 ≤ 24 by omega), (show il ≤ 700 by omega), (show nx ≤ 701 by omega)⟩
  refine z_aload_n B dX12_now_5 rfl 0 rfl ?_
  refine z_get (ref := "FlowExporterModel") (C := RX12) (T := TX12) (N := 54) (ci := 14) (v := .int v_2) B (by decide +kernel) rfl 3 (by decide) (by decide +kernel) rfl h_3 rfl dX12_now_6 ?_
  exact z_ret_i B dX12_now_9 ⟨⟨_, rfl⟩, rfl, hI1, (fun b9 h9 => ((fset_fr hΦ1 (fun h8 => h9 (0) h8 (show 0 = 0 by omega))).trans rfl))⟩

set_option maxHeartbeats 4000000 in
set_option maxRecDepth 100000 in
theorem r_rate (G : EnvG) (l : Launch) (Φ : Hm) (sz x : Nat) (rd : (Nat → Int32) → Prop) (fl : Nat) (pe : Nat) (le : Nat) (nx : Nat) (il : Nat) (qu : Nat) (kn : Int32) (ec : Int32) (nu : Int32) (va : Int64)  (hx : G.2.2.2 ≤ x) (hI : Im G x (rd, NN, fl, pe, le, nx, il, qu, kn, ec, nu, va) Φ)  : Ct G l yX12_rate wsX12_rate ({ frames := 0, cells := 0, slots := 0, locals := 0 }) 0 0 [.ref x] Φ sz (fun v Φ1 sz1 => (∃ r9 : Int32, v = some (.int r9)) ∧ sz1 = sz ∧ (Im G x (rd, NN, fl, pe, le, nx, il, qu, kn, ec, nu, va) Φ1) ∧ Fr x (fun j9 => j9 = 0) Φ Φ1) := by
  refine Ct.of (cc := cX12_rate) (maxL := 1) (ret := (some .int)) (by decide) rfl (Nat.le_of_ble_eq_true rfl) ?_
  intro p9 e9 s9 m9 w9 t9 k9 B
  show Z p9 l e9 _ s9 m9 _ w9 t9 k9 _ G 1 0 [(0, .ref x)] [] Φ sz 0 0
  refine z_aload_n B dX12_rate_0 rfl 0 rfl ?_
  refine z_iconst (v := 0) B dX12_rate_1 rfl ?_
  obtain ⟨v_1, v_2, v_3, n_1, v_4, v_5, v_6, v_7, v_8, v_9, v_10, v_11, v_12, n_2, v_13, n_3, n_4, v_14, v_15, h_1, b_12, b_1, b_2, b_3, b_4, b_5, b_6, b_7, b_8, b_9, b_10, b_11⟩ := im0 hI
  replace b_1 : 1 ≤ n_1 := b_1
  replace b_2 : n_1 ≤ 1024 := b_2
  replace b_3 : fl ≤ 12 := b_3
  replace b_4 : pe ≤ 24 := b_4
  replace b_5 : le ≤ 700 := b_5
  replace b_6 : qu ≤ 12 := b_6
  replace b_7 : n_2 ≤ 8 := b_7
  replace b_8 : n_3 ≤ 24 := b_8
  replace b_9 : n_4 ≤ 24 := b_9
  replace b_10 : il ≤ 700 := b_10
  replace b_11 : nx ≤ 701 := b_11
  have h_2 : Φ x = some (o_ 14 [.int v_1, .ref (x + 1), .ref (x + 2), .int v_2, .int v_3, .int (nI n_1), .int v_4, .int v_5, .ref (x + 3), .ref (x + 4), .int v_6, .long v_7, .ref (x + 5), .int (nI fl), .int v_8, .long v_9, .long v_10, .long v_11, .long v_12, .ref (x + 6), .ref (x + 7), .int (nI pe), .ref (x + 8), .int (nI le), .ref (x + 9), .ref (x + 10), .int (nI qu), .ref (x + 11), .ref (x + 12), .ref (x + 13), .ref (x + 14), .ref (x + 15), .ref (x + 16), .int (nI n_2), .long v_13, .ref (x + 17), .ref (x + 18), .ref (x + 19), .ref (x + 20), .ref (x + 21), .ref (x + 22), .int (nI n_3), .ref (x + 23), .ref (x + 24), .int (nI n_4), .ref (x + 25), .int (nI il), .int (nI nx), .int ec, .int v_14, .int kn, .int v_15, .int nu, .long va]) := h_1
  refine z_put (ref := "FlowExporterModel") (C := RX12) (T := TX12) (N := 54) (ci := 14) (v := .int 0) B (by decide +kernel) tyX12 tyX12_ok nmX12 rfl 0 (by decide) (by decide +kernel) rfl (Or.inl rfl) h_2 hx rfl rfl (Nat.le_of_ble_eq_true rfl) dX12_rate_2 (fun Φ1 hΦ1 => ?_)
  have h_3 : Φ1 x = some (o_ 14 [.int 0, .ref (x + 1), .ref (x + 2), .int v_2, .int v_3, .int (nI n_1), .int v_4, .int v_5, .ref (x + 3), .ref (x + 4), .int v_6, .long v_7, .ref (x + 5), .int (nI fl), .int v_8, .long v_9, .long v_10, .long v_11, .long v_12, .ref (x + 6), .ref (x + 7), .int (nI pe), .ref (x + 8), .int (nI le), .ref (x + 9), .ref (x + 10), .int (nI qu), .ref (x + 11), .ref (x + 12), .ref (x + 13), .ref (x + 14), .ref (x + 15), .ref (x + 16), .int (nI n_2), .long v_13, .ref (x + 17), .ref (x + 18), .ref (x + 19), .ref (x + 20), .ref (x + 21), .ref (x + 22), .int (nI n_3), .ref (x + 23), .ref (x + 24), .int (nI n_4), .ref (x + 25), .int (nI il), .int (nI nx), .int ec, .int v_14, .int kn, .int v_15, .int nu, .long va]) := fset_at hΦ1
  have hI1 : Im G x (rd, NN, fl, pe, le, nx, il, qu, kn, ec, nu, va) Φ1 := Im.put0 hI hΦ1 ⟨0, v_2, v_3, n_1, v_4, v_5, v_6, v_7, v_8, v_9, v_10, v_11, v_12, n_2, v_13, n_3, n_4, v_14, v_15, rfl, b_12, (show 1 ≤ n_1 by omega), (show n_1 ≤ 1024 by omega), (show fl ≤ 12 by omega), (show pe ≤ 24 by omega), (show le ≤ 700 by omega), (show qu ≤ 12 by omega), (show n_2 ≤ 8 by omega), (show n_3 ≤ 24 by omega), (show n_4 ≤ 24 by omega), (show il ≤ 700 by omega), (show nx ≤ 701 by omega)⟩
  refine z_aload_n B dX12_rate_5 rfl 0 rfl ?_
  refine z_get (ref := "FlowExporterModel") (C := RX12) (T := TX12) (N := 54) (ci := 14) (v := .int (nI n_1)) B (by decide +kernel) rfl 5 (by decide) (by decide +kernel) rfl h_3 rfl dX12_rate_6 ?_
  exact z_ret_i B dX12_rate_9 ⟨⟨_, rfl⟩, rfl, hI1, (fun b9 h9 => ((fset_fr hΦ1 (fun h8 => h9 (0) h8 (show 0 = 0 by omega))).trans rfl))⟩

set_option maxHeartbeats 4000000 in
set_option maxRecDepth 100000 in
theorem r_templateCount (G : EnvG) (l : Launch) (Φ : Hm) (sz x : Nat) (rd : (Nat → Int32) → Prop) (fl : Nat) (pe : Nat) (le : Nat) (nx : Nat) (il : Nat) (qu : Nat) (kn : Int32) (ec : Int32) (nu : Int32) (va : Int64)  (hx : G.2.2.2 ≤ x) (hI : Im G x (rd, NN, fl, pe, le, nx, il, qu, kn, ec, nu, va) Φ)  : Ct G l yX12_templateCount wsX12_templateCount ({ frames := 0, cells := 0, slots := 0, locals := 0 }) 0 0 [.ref x] Φ sz (fun v Φ1 sz1 => (∃ r9 : Int32, v = some (.int r9)) ∧ sz1 = sz ∧ (Im G x (rd, NN, fl, pe, le, nx, il, qu, kn, ec, nu, va) Φ1) ∧ Fr x (fun j9 => j9 = 0) Φ Φ1) := by
  refine Ct.of (cc := cX12_templateCount) (maxL := 1) (ret := (some .int)) (by decide) rfl (Nat.le_of_ble_eq_true rfl) ?_
  intro p9 e9 s9 m9 w9 t9 k9 B
  show Z p9 l e9 _ s9 m9 _ w9 t9 k9 _ G 1 0 [(0, .ref x)] [] Φ sz 0 0
  refine z_aload_n B dX12_templateCount_0 rfl 0 rfl ?_
  refine z_iconst (v := 0) B dX12_templateCount_1 rfl ?_
  obtain ⟨v_1, v_2, v_3, n_1, v_4, v_5, v_6, v_7, v_8, v_9, v_10, v_11, v_12, n_2, v_13, n_3, n_4, v_14, v_15, h_1, b_12, b_1, b_2, b_3, b_4, b_5, b_6, b_7, b_8, b_9, b_10, b_11⟩ := im0 hI
  replace b_1 : 1 ≤ n_1 := b_1
  replace b_2 : n_1 ≤ 1024 := b_2
  replace b_3 : fl ≤ 12 := b_3
  replace b_4 : pe ≤ 24 := b_4
  replace b_5 : le ≤ 700 := b_5
  replace b_6 : qu ≤ 12 := b_6
  replace b_7 : n_2 ≤ 8 := b_7
  replace b_8 : n_3 ≤ 24 := b_8
  replace b_9 : n_4 ≤ 24 := b_9
  replace b_10 : il ≤ 700 := b_10
  replace b_11 : nx ≤ 701 := b_11
  have h_2 : Φ x = some (o_ 14 [.int v_1, .ref (x + 1), .ref (x + 2), .int v_2, .int v_3, .int (nI n_1), .int v_4, .int v_5, .ref (x + 3), .ref (x + 4), .int v_6, .long v_7, .ref (x + 5), .int (nI fl), .int v_8, .long v_9, .long v_10, .long v_11, .long v_12, .ref (x + 6), .ref (x + 7), .int (nI pe), .ref (x + 8), .int (nI le), .ref (x + 9), .ref (x + 10), .int (nI qu), .ref (x + 11), .ref (x + 12), .ref (x + 13), .ref (x + 14), .ref (x + 15), .ref (x + 16), .int (nI n_2), .long v_13, .ref (x + 17), .ref (x + 18), .ref (x + 19), .ref (x + 20), .ref (x + 21), .ref (x + 22), .int (nI n_3), .ref (x + 23), .ref (x + 24), .int (nI n_4), .ref (x + 25), .int (nI il), .int (nI nx), .int ec, .int v_14, .int kn, .int v_15, .int nu, .long va]) := h_1
  refine z_put (ref := "FlowExporterModel") (C := RX12) (T := TX12) (N := 54) (ci := 14) (v := .int 0) B (by decide +kernel) tyX12 tyX12_ok nmX12 rfl 0 (by decide) (by decide +kernel) rfl (Or.inl rfl) h_2 hx rfl rfl (Nat.le_of_ble_eq_true rfl) dX12_templateCount_2 (fun Φ1 hΦ1 => ?_)
  have h_3 : Φ1 x = some (o_ 14 [.int 0, .ref (x + 1), .ref (x + 2), .int v_2, .int v_3, .int (nI n_1), .int v_4, .int v_5, .ref (x + 3), .ref (x + 4), .int v_6, .long v_7, .ref (x + 5), .int (nI fl), .int v_8, .long v_9, .long v_10, .long v_11, .long v_12, .ref (x + 6), .ref (x + 7), .int (nI pe), .ref (x + 8), .int (nI le), .ref (x + 9), .ref (x + 10), .int (nI qu), .ref (x + 11), .ref (x + 12), .ref (x + 13), .ref (x + 14), .ref (x + 15), .ref (x + 16), .int (nI n_2), .long v_13, .ref (x + 17), .ref (x + 18), .ref (x + 19), .ref (x + 20), .ref (x + 21), .ref (x + 22), .int (nI n_3), .ref (x + 23), .ref (x + 24), .int (nI n_4), .ref (x + 25), .int (nI il), .int (nI nx), .int ec, .int v_14, .int kn, .int v_15, .int nu, .long va]) := fset_at hΦ1
  have hI1 : Im G x (rd, NN, fl, pe, le, nx, il, qu, kn, ec, nu, va) Φ1 := Im.put0 hI hΦ1 ⟨0, v_2, v_3, n_1, v_4, v_5, v_6, v_7, v_8, v_9, v_10, v_11, v_12, n_2, v_13, n_3, n_4, v_14, v_15, rfl, b_12, (show 1 ≤ n_1 by omega), (show n_1 ≤ 1024 by omega), (show fl ≤ 12 by omega), (show pe ≤ 24 by omega), (show le ≤ 700 by omega), (show qu ≤ 12 by omega), (show n_2 ≤ 8 by omega), (show n_3 ≤ 24 by omega), (show n_4 ≤ 24 by omega), (show il ≤ 700 by omega), (show nx ≤ 701 by omega)⟩
  refine z_aload_n B dX12_templateCount_5 rfl 0 rfl ?_
  refine z_get (ref := "FlowExporterModel") (C := RX12) (T := TX12) (N := 54) (ci := 14) (v := .ref (x + 2)) B (by decide +kernel) rfl 2 (by decide) (by decide +kernel) rfl h_3 rfl dX12_templateCount_6 ?_
  refine z_bipush (v := 10) B dX12_templateCount_9 rfl ?_
  obtain ⟨f_1, h_4, r_1⟩ := imk (k := 2) hI1
  replace r_1 : NN f_1 := r_1
  have h_5 : Φ1 (x + 2) = some (ai_ G 307 f_1) := h_4
  refine z_iald B h_5 (vin rfl) dX12_templateCount_11 ?_
  obtain ⟨n_5, b_13, e_1⟩ := r_1.2.2.2.2.1
  refine z_top (st1 := [.int (nI n_5)]) (congrArg (fun w9 : Int32 => ([.int w9] : List Value)) (e_1)) ?_
  exact z_ret_i B dX12_templateCount_12 ⟨⟨_, rfl⟩, rfl, hI1, (fun b9 h9 => ((fset_fr hΦ1 (fun h8 => h9 (0) h8 (show 0 = 0 by omega))).trans rfl))⟩

set_option maxHeartbeats 4000000 in
set_option maxRecDepth 100000 in
theorem r_cacheSize (G : EnvG) (l : Launch) (Φ : Hm) (sz x : Nat) (rd : (Nat → Int32) → Prop) (fl : Nat) (pe : Nat) (le : Nat) (nx : Nat) (il : Nat) (qu : Nat) (kn : Int32) (ec : Int32) (nu : Int32) (va : Int64)  (hx : G.2.2.2 ≤ x) (hI : Im G x (rd, NN, fl, pe, le, nx, il, qu, kn, ec, nu, va) Φ)  : Ct G l yX12_cacheSize wsX12_cacheSize ({ frames := 0, cells := 0, slots := 0, locals := 0 }) 0 0 [.ref x] Φ sz (fun v Φ1 sz1 => (∃ r9 : Int32, v = some (.int r9)) ∧ sz1 = sz ∧ (Im G x (rd, NN, fl, pe, le, nx, il, qu, kn, ec, nu, va) Φ1) ∧ Fr x (fun j9 => j9 = 0) Φ Φ1) := by
  refine Ct.of (cc := cX12_cacheSize) (maxL := 1) (ret := (some .int)) (by decide) rfl (Nat.le_of_ble_eq_true rfl) ?_
  intro p9 e9 s9 m9 w9 t9 k9 B
  show Z p9 l e9 _ s9 m9 _ w9 t9 k9 _ G 1 0 [(0, .ref x)] [] Φ sz 0 0
  refine z_aload_n B dX12_cacheSize_0 rfl 0 rfl ?_
  refine z_iconst (v := 0) B dX12_cacheSize_1 rfl ?_
  obtain ⟨v_1, v_2, v_3, n_1, v_4, v_5, v_6, v_7, v_8, v_9, v_10, v_11, v_12, n_2, v_13, n_3, n_4, v_14, v_15, h_1, b_12, b_1, b_2, b_3, b_4, b_5, b_6, b_7, b_8, b_9, b_10, b_11⟩ := im0 hI
  replace b_1 : 1 ≤ n_1 := b_1
  replace b_2 : n_1 ≤ 1024 := b_2
  replace b_3 : fl ≤ 12 := b_3
  replace b_4 : pe ≤ 24 := b_4
  replace b_5 : le ≤ 700 := b_5
  replace b_6 : qu ≤ 12 := b_6
  replace b_7 : n_2 ≤ 8 := b_7
  replace b_8 : n_3 ≤ 24 := b_8
  replace b_9 : n_4 ≤ 24 := b_9
  replace b_10 : il ≤ 700 := b_10
  replace b_11 : nx ≤ 701 := b_11
  have h_2 : Φ x = some (o_ 14 [.int v_1, .ref (x + 1), .ref (x + 2), .int v_2, .int v_3, .int (nI n_1), .int v_4, .int v_5, .ref (x + 3), .ref (x + 4), .int v_6, .long v_7, .ref (x + 5), .int (nI fl), .int v_8, .long v_9, .long v_10, .long v_11, .long v_12, .ref (x + 6), .ref (x + 7), .int (nI pe), .ref (x + 8), .int (nI le), .ref (x + 9), .ref (x + 10), .int (nI qu), .ref (x + 11), .ref (x + 12), .ref (x + 13), .ref (x + 14), .ref (x + 15), .ref (x + 16), .int (nI n_2), .long v_13, .ref (x + 17), .ref (x + 18), .ref (x + 19), .ref (x + 20), .ref (x + 21), .ref (x + 22), .int (nI n_3), .ref (x + 23), .ref (x + 24), .int (nI n_4), .ref (x + 25), .int (nI il), .int (nI nx), .int ec, .int v_14, .int kn, .int v_15, .int nu, .long va]) := h_1
  refine z_put (ref := "FlowExporterModel") (C := RX12) (T := TX12) (N := 54) (ci := 14) (v := .int 0) B (by decide +kernel) tyX12 tyX12_ok nmX12 rfl 0 (by decide) (by decide +kernel) rfl (Or.inl rfl) h_2 hx rfl rfl (Nat.le_of_ble_eq_true rfl) dX12_cacheSize_2 (fun Φ1 hΦ1 => ?_)
  have h_3 : Φ1 x = some (o_ 14 [.int 0, .ref (x + 1), .ref (x + 2), .int v_2, .int v_3, .int (nI n_1), .int v_4, .int v_5, .ref (x + 3), .ref (x + 4), .int v_6, .long v_7, .ref (x + 5), .int (nI fl), .int v_8, .long v_9, .long v_10, .long v_11, .long v_12, .ref (x + 6), .ref (x + 7), .int (nI pe), .ref (x + 8), .int (nI le), .ref (x + 9), .ref (x + 10), .int (nI qu), .ref (x + 11), .ref (x + 12), .ref (x + 13), .ref (x + 14), .ref (x + 15), .ref (x + 16), .int (nI n_2), .long v_13, .ref (x + 17), .ref (x + 18), .ref (x + 19), .ref (x + 20), .ref (x + 21), .ref (x + 22), .int (nI n_3), .ref (x + 23), .ref (x + 24), .int (nI n_4), .ref (x + 25), .int (nI il), .int (nI nx), .int ec, .int v_14, .int kn, .int v_15, .int nu, .long va]) := fset_at hΦ1
  have hI1 : Im G x (rd, NN, fl, pe, le, nx, il, qu, kn, ec, nu, va) Φ1 := Im.put0 hI hΦ1 ⟨0, v_2, v_3, n_1, v_4, v_5, v_6, v_7, v_8, v_9, v_10, v_11, v_12, n_2, v_13, n_3, n_4, v_14, v_15, rfl, b_12, (show 1 ≤ n_1 by omega), (show n_1 ≤ 1024 by omega), (show fl ≤ 12 by omega), (show pe ≤ 24 by omega), (show le ≤ 700 by omega), (show qu ≤ 12 by omega), (show n_2 ≤ 8 by omega), (show n_3 ≤ 24 by omega), (show n_4 ≤ 24 by omega), (show il ≤ 700 by omega), (show nx ≤ 701 by omega)⟩
  refine z_aload_n B dX12_cacheSize_5 rfl 0 rfl ?_
  refine z_get (ref := "FlowExporterModel") (C := RX12) (T := TX12) (N := 54) (ci := 14) (v := .int (nI fl)) B (by decide +kernel) rfl 13 (by decide) (by decide +kernel) rfl h_3 rfl dX12_cacheSize_6 ?_
  exact z_ret_i B dX12_cacheSize_9 ⟨⟨_, rfl⟩, rfl, hI1, (fun b9 h9 => ((fset_fr hΦ1 (fun h8 => h9 (0) h8 (show 0 = 0 by omega))).trans rfl))⟩

set_option maxHeartbeats 4000000 in
set_option maxRecDepth 100000 in
theorem r_observed (G : EnvG) (l : Launch) (Φ : Hm) (sz x : Nat) (rd : (Nat → Int32) → Prop) (fl : Nat) (pe : Nat) (le : Nat) (nx : Nat) (il : Nat) (qu : Nat) (kn : Int32) (ec : Int32) (nu : Int32) (va : Int64)  (hx : G.2.2.2 ≤ x) (hI : Im G x (rd, NN, fl, pe, le, nx, il, qu, kn, ec, nu, va) Φ)  : Ct G l yX12_observed wsX12_observed ({ frames := 0, cells := 0, slots := 0, locals := 0 }) 0 0 [.ref x] Φ sz (fun v Φ1 sz1 => (∃ r9 : Int64, v = some (.long r9)) ∧ sz1 = sz ∧ (Im G x (rd, NN, fl, pe, le, nx, il, qu, kn, ec, nu, va) Φ1) ∧ Fr x (fun j9 => j9 = 0) Φ Φ1) := by
  refine Ct.of (cc := cX12_observed) (maxL := 1) (ret := (some .long)) (by decide) rfl (Nat.le_of_ble_eq_true rfl) ?_
  intro p9 e9 s9 m9 w9 t9 k9 B
  show Z p9 l e9 _ s9 m9 _ w9 t9 k9 _ G 1 0 [(0, .ref x)] [] Φ sz 0 0
  refine z_aload_n B dX12_observed_0 rfl 0 rfl ?_
  refine z_iconst (v := 0) B dX12_observed_1 rfl ?_
  obtain ⟨v_1, v_2, v_3, n_1, v_4, v_5, v_6, v_7, v_8, v_9, v_10, v_11, v_12, n_2, v_13, n_3, n_4, v_14, v_15, h_1, b_12, b_1, b_2, b_3, b_4, b_5, b_6, b_7, b_8, b_9, b_10, b_11⟩ := im0 hI
  replace b_1 : 1 ≤ n_1 := b_1
  replace b_2 : n_1 ≤ 1024 := b_2
  replace b_3 : fl ≤ 12 := b_3
  replace b_4 : pe ≤ 24 := b_4
  replace b_5 : le ≤ 700 := b_5
  replace b_6 : qu ≤ 12 := b_6
  replace b_7 : n_2 ≤ 8 := b_7
  replace b_8 : n_3 ≤ 24 := b_8
  replace b_9 : n_4 ≤ 24 := b_9
  replace b_10 : il ≤ 700 := b_10
  replace b_11 : nx ≤ 701 := b_11
  have h_2 : Φ x = some (o_ 14 [.int v_1, .ref (x + 1), .ref (x + 2), .int v_2, .int v_3, .int (nI n_1), .int v_4, .int v_5, .ref (x + 3), .ref (x + 4), .int v_6, .long v_7, .ref (x + 5), .int (nI fl), .int v_8, .long v_9, .long v_10, .long v_11, .long v_12, .ref (x + 6), .ref (x + 7), .int (nI pe), .ref (x + 8), .int (nI le), .ref (x + 9), .ref (x + 10), .int (nI qu), .ref (x + 11), .ref (x + 12), .ref (x + 13), .ref (x + 14), .ref (x + 15), .ref (x + 16), .int (nI n_2), .long v_13, .ref (x + 17), .ref (x + 18), .ref (x + 19), .ref (x + 20), .ref (x + 21), .ref (x + 22), .int (nI n_3), .ref (x + 23), .ref (x + 24), .int (nI n_4), .ref (x + 25), .int (nI il), .int (nI nx), .int ec, .int v_14, .int kn, .int v_15, .int nu, .long va]) := h_1
  refine z_put (ref := "FlowExporterModel") (C := RX12) (T := TX12) (N := 54) (ci := 14) (v := .int 0) B (by decide +kernel) tyX12 tyX12_ok nmX12 rfl 0 (by decide) (by decide +kernel) rfl (Or.inl rfl) h_2 hx rfl rfl (Nat.le_of_ble_eq_true rfl) dX12_observed_2 (fun Φ1 hΦ1 => ?_)
  have h_3 : Φ1 x = some (o_ 14 [.int 0, .ref (x + 1), .ref (x + 2), .int v_2, .int v_3, .int (nI n_1), .int v_4, .int v_5, .ref (x + 3), .ref (x + 4), .int v_6, .long v_7, .ref (x + 5), .int (nI fl), .int v_8, .long v_9, .long v_10, .long v_11, .long v_12, .ref (x + 6), .ref (x + 7), .int (nI pe), .ref (x + 8), .int (nI le), .ref (x + 9), .ref (x + 10), .int (nI qu), .ref (x + 11), .ref (x + 12), .ref (x + 13), .ref (x + 14), .ref (x + 15), .ref (x + 16), .int (nI n_2), .long v_13, .ref (x + 17), .ref (x + 18), .ref (x + 19), .ref (x + 20), .ref (x + 21), .ref (x + 22), .int (nI n_3), .ref (x + 23), .ref (x + 24), .int (nI n_4), .ref (x + 25), .int (nI il), .int (nI nx), .int ec, .int v_14, .int kn, .int v_15, .int nu, .long va]) := fset_at hΦ1
  have hI1 : Im G x (rd, NN, fl, pe, le, nx, il, qu, kn, ec, nu, va) Φ1 := Im.put0 hI hΦ1 ⟨0, v_2, v_3, n_1, v_4, v_5, v_6, v_7, v_8, v_9, v_10, v_11, v_12, n_2, v_13, n_3, n_4, v_14, v_15, rfl, b_12, (show 1 ≤ n_1 by omega), (show n_1 ≤ 1024 by omega), (show fl ≤ 12 by omega), (show pe ≤ 24 by omega), (show le ≤ 700 by omega), (show qu ≤ 12 by omega), (show n_2 ≤ 8 by omega), (show n_3 ≤ 24 by omega), (show n_4 ≤ 24 by omega), (show il ≤ 700 by omega), (show nx ≤ 701 by omega)⟩
  refine z_aload_n B dX12_observed_5 rfl 0 rfl ?_
  refine z_get (ref := "FlowExporterModel") (C := RX12) (T := TX12) (N := 54) (ci := 14) (v := .long v_9) B (by decide +kernel) rfl 15 (by decide) (by decide +kernel) rfl h_3 rfl dX12_observed_6 ?_
  exact z_ret_l B dX12_observed_9 ⟨⟨_, rfl⟩, rfl, hI1, (fun b9 h9 => ((fset_fr hΦ1 (fun h8 => h9 (0) h8 (show 0 = 0 by omega))).trans rfl))⟩

set_option maxHeartbeats 4000000 in
set_option maxRecDepth 100000 in
theorem r_sampled (G : EnvG) (l : Launch) (Φ : Hm) (sz x : Nat) (rd : (Nat → Int32) → Prop) (fl : Nat) (pe : Nat) (le : Nat) (nx : Nat) (il : Nat) (qu : Nat) (kn : Int32) (ec : Int32) (nu : Int32) (va : Int64)  (hx : G.2.2.2 ≤ x) (hI : Im G x (rd, NN, fl, pe, le, nx, il, qu, kn, ec, nu, va) Φ)  : Ct G l yX12_sampled wsX12_sampled ({ frames := 0, cells := 0, slots := 0, locals := 0 }) 0 0 [.ref x] Φ sz (fun v Φ1 sz1 => (∃ r9 : Int64, v = some (.long r9)) ∧ sz1 = sz ∧ (Im G x (rd, NN, fl, pe, le, nx, il, qu, kn, ec, nu, va) Φ1) ∧ Fr x (fun j9 => j9 = 0) Φ Φ1) := by
  refine Ct.of (cc := cX12_sampled) (maxL := 1) (ret := (some .long)) (by decide) rfl (Nat.le_of_ble_eq_true rfl) ?_
  intro p9 e9 s9 m9 w9 t9 k9 B
  show Z p9 l e9 _ s9 m9 _ w9 t9 k9 _ G 1 0 [(0, .ref x)] [] Φ sz 0 0
  refine z_aload_n B dX12_sampled_0 rfl 0 rfl ?_
  refine z_iconst (v := 0) B dX12_sampled_1 rfl ?_
  obtain ⟨v_1, v_2, v_3, n_1, v_4, v_5, v_6, v_7, v_8, v_9, v_10, v_11, v_12, n_2, v_13, n_3, n_4, v_14, v_15, h_1, b_12, b_1, b_2, b_3, b_4, b_5, b_6, b_7, b_8, b_9, b_10, b_11⟩ := im0 hI
  replace b_1 : 1 ≤ n_1 := b_1
  replace b_2 : n_1 ≤ 1024 := b_2
  replace b_3 : fl ≤ 12 := b_3
  replace b_4 : pe ≤ 24 := b_4
  replace b_5 : le ≤ 700 := b_5
  replace b_6 : qu ≤ 12 := b_6
  replace b_7 : n_2 ≤ 8 := b_7
  replace b_8 : n_3 ≤ 24 := b_8
  replace b_9 : n_4 ≤ 24 := b_9
  replace b_10 : il ≤ 700 := b_10
  replace b_11 : nx ≤ 701 := b_11
  have h_2 : Φ x = some (o_ 14 [.int v_1, .ref (x + 1), .ref (x + 2), .int v_2, .int v_3, .int (nI n_1), .int v_4, .int v_5, .ref (x + 3), .ref (x + 4), .int v_6, .long v_7, .ref (x + 5), .int (nI fl), .int v_8, .long v_9, .long v_10, .long v_11, .long v_12, .ref (x + 6), .ref (x + 7), .int (nI pe), .ref (x + 8), .int (nI le), .ref (x + 9), .ref (x + 10), .int (nI qu), .ref (x + 11), .ref (x + 12), .ref (x + 13), .ref (x + 14), .ref (x + 15), .ref (x + 16), .int (nI n_2), .long v_13, .ref (x + 17), .ref (x + 18), .ref (x + 19), .ref (x + 20), .ref (x + 21), .ref (x + 22), .int (nI n_3), .ref (x + 23), .ref (x + 24), .int (nI n_4), .ref (x + 25), .int (nI il), .int (nI nx), .int ec, .int v_14, .int kn, .int v_15, .int nu, .long va]) := h_1
  refine z_put (ref := "FlowExporterModel") (C := RX12) (T := TX12) (N := 54) (ci := 14) (v := .int 0) B (by decide +kernel) tyX12 tyX12_ok nmX12 rfl 0 (by decide) (by decide +kernel) rfl (Or.inl rfl) h_2 hx rfl rfl (Nat.le_of_ble_eq_true rfl) dX12_sampled_2 (fun Φ1 hΦ1 => ?_)
  have h_3 : Φ1 x = some (o_ 14 [.int 0, .ref (x + 1), .ref (x + 2), .int v_2, .int v_3, .int (nI n_1), .int v_4, .int v_5, .ref (x + 3), .ref (x + 4), .int v_6, .long v_7, .ref (x + 5), .int (nI fl), .int v_8, .long v_9, .long v_10, .long v_11, .long v_12, .ref (x + 6), .ref (x + 7), .int (nI pe), .ref (x + 8), .int (nI le), .ref (x + 9), .ref (x + 10), .int (nI qu), .ref (x + 11), .ref (x + 12), .ref (x + 13), .ref (x + 14), .ref (x + 15), .ref (x + 16), .int (nI n_2), .long v_13, .ref (x + 17), .ref (x + 18), .ref (x + 19), .ref (x + 20), .ref (x + 21), .ref (x + 22), .int (nI n_3), .ref (x + 23), .ref (x + 24), .int (nI n_4), .ref (x + 25), .int (nI il), .int (nI nx), .int ec, .int v_14, .int kn, .int v_15, .int nu, .long va]) := fset_at hΦ1
  have hI1 : Im G x (rd, NN, fl, pe, le, nx, il, qu, kn, ec, nu, va) Φ1 := Im.put0 hI hΦ1 ⟨0, v_2, v_3, n_1, v_4, v_5, v_6, v_7, v_8, v_9, v_10, v_11, v_12, n_2, v_13, n_3, n_4, v_14, v_15, rfl, b_12, (show 1 ≤ n_1 by omega), (show n_1 ≤ 1024 by omega), (show fl ≤ 12 by omega), (show pe ≤ 24 by omega), (show le ≤ 700 by omega), (show qu ≤ 12 by omega), (show n_2 ≤ 8 by omega), (show n_3 ≤ 24 by omega), (show n_4 ≤ 24 by omega), (show il ≤ 700 by omega), (show nx ≤ 701 by omega)⟩
  refine z_aload_n B dX12_sampled_5 rfl 0 rfl ?_
  refine z_get (ref := "FlowExporterModel") (C := RX12) (T := TX12) (N := 54) (ci := 14) (v := .long v_10) B (by decide +kernel) rfl 16 (by decide) (by decide +kernel) rfl h_3 rfl dX12_sampled_6 ?_
  exact z_ret_l B dX12_sampled_9 ⟨⟨_, rfl⟩, rfl, hI1, (fun b9 h9 => ((fset_fr hΦ1 (fun h8 => h9 (0) h8 (show 0 = 0 by omega))).trans rfl))⟩

set_option maxHeartbeats 4000000 in
set_option maxRecDepth 100000 in
theorem r_sent (G : EnvG) (l : Launch) (Φ : Hm) (sz x : Nat) (rd : (Nat → Int32) → Prop) (fl : Nat) (pe : Nat) (le : Nat) (nx : Nat) (il : Nat) (qu : Nat) (kn : Int32) (ec : Int32) (nu : Int32) (va : Int64)  (hx : G.2.2.2 ≤ x) (hI : Im G x (rd, NN, fl, pe, le, nx, il, qu, kn, ec, nu, va) Φ)  : Ct G l yX12_sent wsX12_sent ({ frames := 0, cells := 0, slots := 0, locals := 0 }) 0 0 [.ref x] Φ sz (fun v Φ1 sz1 => (∃ r9 : Int64, v = some (.long r9)) ∧ sz1 = sz ∧ (Im G x (rd, NN, fl, pe, le, nx, il, qu, kn, ec, nu, va) Φ1) ∧ Fr x (fun j9 => j9 = 0) Φ Φ1) := by
  refine Ct.of (cc := cX12_sent) (maxL := 1) (ret := (some .long)) (by decide) rfl (Nat.le_of_ble_eq_true rfl) ?_
  intro p9 e9 s9 m9 w9 t9 k9 B
  show Z p9 l e9 _ s9 m9 _ w9 t9 k9 _ G 1 0 [(0, .ref x)] [] Φ sz 0 0
  refine z_aload_n B dX12_sent_0 rfl 0 rfl ?_
  refine z_iconst (v := 0) B dX12_sent_1 rfl ?_
  obtain ⟨v_1, v_2, v_3, n_1, v_4, v_5, v_6, v_7, v_8, v_9, v_10, v_11, v_12, n_2, v_13, n_3, n_4, v_14, v_15, h_1, b_12, b_1, b_2, b_3, b_4, b_5, b_6, b_7, b_8, b_9, b_10, b_11⟩ := im0 hI
  replace b_1 : 1 ≤ n_1 := b_1
  replace b_2 : n_1 ≤ 1024 := b_2
  replace b_3 : fl ≤ 12 := b_3
  replace b_4 : pe ≤ 24 := b_4
  replace b_5 : le ≤ 700 := b_5
  replace b_6 : qu ≤ 12 := b_6
  replace b_7 : n_2 ≤ 8 := b_7
  replace b_8 : n_3 ≤ 24 := b_8
  replace b_9 : n_4 ≤ 24 := b_9
  replace b_10 : il ≤ 700 := b_10
  replace b_11 : nx ≤ 701 := b_11
  have h_2 : Φ x = some (o_ 14 [.int v_1, .ref (x + 1), .ref (x + 2), .int v_2, .int v_3, .int (nI n_1), .int v_4, .int v_5, .ref (x + 3), .ref (x + 4), .int v_6, .long v_7, .ref (x + 5), .int (nI fl), .int v_8, .long v_9, .long v_10, .long v_11, .long v_12, .ref (x + 6), .ref (x + 7), .int (nI pe), .ref (x + 8), .int (nI le), .ref (x + 9), .ref (x + 10), .int (nI qu), .ref (x + 11), .ref (x + 12), .ref (x + 13), .ref (x + 14), .ref (x + 15), .ref (x + 16), .int (nI n_2), .long v_13, .ref (x + 17), .ref (x + 18), .ref (x + 19), .ref (x + 20), .ref (x + 21), .ref (x + 22), .int (nI n_3), .ref (x + 23), .ref (x + 24), .int (nI n_4), .ref (x + 25), .int (nI il), .int (nI nx), .int ec, .int v_14, .int kn, .int v_15, .int nu, .long va]) := h_1
  refine z_put (ref := "FlowExporterModel") (C := RX12) (T := TX12) (N := 54) (ci := 14) (v := .int 0) B (by decide +kernel) tyX12 tyX12_ok nmX12 rfl 0 (by decide) (by decide +kernel) rfl (Or.inl rfl) h_2 hx rfl rfl (Nat.le_of_ble_eq_true rfl) dX12_sent_2 (fun Φ1 hΦ1 => ?_)
  have h_3 : Φ1 x = some (o_ 14 [.int 0, .ref (x + 1), .ref (x + 2), .int v_2, .int v_3, .int (nI n_1), .int v_4, .int v_5, .ref (x + 3), .ref (x + 4), .int v_6, .long v_7, .ref (x + 5), .int (nI fl), .int v_8, .long v_9, .long v_10, .long v_11, .long v_12, .ref (x + 6), .ref (x + 7), .int (nI pe), .ref (x + 8), .int (nI le), .ref (x + 9), .ref (x + 10), .int (nI qu), .ref (x + 11), .ref (x + 12), .ref (x + 13), .ref (x + 14), .ref (x + 15), .ref (x + 16), .int (nI n_2), .long v_13, .ref (x + 17), .ref (x + 18), .ref (x + 19), .ref (x + 20), .ref (x + 21), .ref (x + 22), .int (nI n_3), .ref (x + 23), .ref (x + 24), .int (nI n_4), .ref (x + 25), .int (nI il), .int (nI nx), .int ec, .int v_14, .int kn, .int v_15, .int nu, .long va]) := fset_at hΦ1
  have hI1 : Im G x (rd, NN, fl, pe, le, nx, il, qu, kn, ec, nu, va) Φ1 := Im.put0 hI hΦ1 ⟨0, v_2, v_3, n_1, v_4, v_5, v_6, v_7, v_8, v_9, v_10, v_11, v_12, n_2, v_13, n_3, n_4, v_14, v_15, rfl, b_12, (show 1 ≤ n_1 by omega), (show n_1 ≤ 1024 by omega), (show fl ≤ 12 by omega), (show pe ≤ 24 by omega), (show le ≤ 700 by omega), (show qu ≤ 12 by omega), (show n_2 ≤ 8 by omega), (show n_3 ≤ 24 by omega), (show n_4 ≤ 24 by omega), (show il ≤ 700 by omega), (show nx ≤ 701 by omega)⟩
  refine z_aload_n B dX12_sent_5 rfl 0 rfl ?_
  refine z_get (ref := "FlowExporterModel") (C := RX12) (T := TX12) (N := 54) (ci := 14) (v := .long v_11) B (by decide +kernel) rfl 17 (by decide) (by decide +kernel) rfl h_3 rfl dX12_sent_6 ?_
  exact z_ret_l B dX12_sent_9 ⟨⟨_, rfl⟩, rfl, hI1, (fun b9 h9 => ((fset_fr hΦ1 (fun h8 => h9 (0) h8 (show 0 = 0 by omega))).trans rfl))⟩

set_option maxHeartbeats 4000000 in
set_option maxRecDepth 100000 in
theorem r_unsent (G : EnvG) (l : Launch) (Φ : Hm) (sz x : Nat) (rd : (Nat → Int32) → Prop) (fl : Nat) (pe : Nat) (le : Nat) (nx : Nat) (il : Nat) (qu : Nat) (kn : Int32) (ec : Int32) (nu : Int32) (va : Int64)  (hx : G.2.2.2 ≤ x) (hI : Im G x (rd, NN, fl, pe, le, nx, il, qu, kn, ec, nu, va) Φ)  : Ct G l yX12_unsent wsX12_unsent ({ frames := 0, cells := 0, slots := 0, locals := 0 }) 0 0 [.ref x] Φ sz (fun v Φ1 sz1 => (∃ r9 : Int64, v = some (.long r9)) ∧ sz1 = sz ∧ (Im G x (rd, NN, fl, pe, le, nx, il, qu, kn, ec, nu, va) Φ1) ∧ Fr x (fun j9 => j9 = 0) Φ Φ1) := by
  refine Ct.of (cc := cX12_unsent) (maxL := 1) (ret := (some .long)) (by decide) rfl (Nat.le_of_ble_eq_true rfl) ?_
  intro p9 e9 s9 m9 w9 t9 k9 B
  show Z p9 l e9 _ s9 m9 _ w9 t9 k9 _ G 1 0 [(0, .ref x)] [] Φ sz 0 0
  refine z_aload_n B dX12_unsent_0 rfl 0 rfl ?_
  refine z_iconst (v := 0) B dX12_unsent_1 rfl ?_
  obtain ⟨v_1, v_2, v_3, n_1, v_4, v_5, v_6, v_7, v_8, v_9, v_10, v_11, v_12, n_2, v_13, n_3, n_4, v_14, v_15, h_1, b_12, b_1, b_2, b_3, b_4, b_5, b_6, b_7, b_8, b_9, b_10, b_11⟩ := im0 hI
  replace b_1 : 1 ≤ n_1 := b_1
  replace b_2 : n_1 ≤ 1024 := b_2
  replace b_3 : fl ≤ 12 := b_3
  replace b_4 : pe ≤ 24 := b_4
  replace b_5 : le ≤ 700 := b_5
  replace b_6 : qu ≤ 12 := b_6
  replace b_7 : n_2 ≤ 8 := b_7
  replace b_8 : n_3 ≤ 24 := b_8
  replace b_9 : n_4 ≤ 24 := b_9
  replace b_10 : il ≤ 700 := b_10
  replace b_11 : nx ≤ 701 := b_11
  have h_2 : Φ x = some (o_ 14 [.int v_1, .ref (x + 1), .ref (x + 2), .int v_2, .int v_3, .int (nI n_1), .int v_4, .int v_5, .ref (x + 3), .ref (x + 4), .int v_6, .long v_7, .ref (x + 5), .int (nI fl), .int v_8, .long v_9, .long v_10, .long v_11, .long v_12, .ref (x + 6), .ref (x + 7), .int (nI pe), .ref (x + 8), .int (nI le), .ref (x + 9), .ref (x + 10), .int (nI qu), .ref (x + 11), .ref (x + 12), .ref (x + 13), .ref (x + 14), .ref (x + 15), .ref (x + 16), .int (nI n_2), .long v_13, .ref (x + 17), .ref (x + 18), .ref (x + 19), .ref (x + 20), .ref (x + 21), .ref (x + 22), .int (nI n_3), .ref (x + 23), .ref (x + 24), .int (nI n_4), .ref (x + 25), .int (nI il), .int (nI nx), .int ec, .int v_14, .int kn, .int v_15, .int nu, .long va]) := h_1
  refine z_put (ref := "FlowExporterModel") (C := RX12) (T := TX12) (N := 54) (ci := 14) (v := .int 0) B (by decide +kernel) tyX12 tyX12_ok nmX12 rfl 0 (by decide) (by decide +kernel) rfl (Or.inl rfl) h_2 hx rfl rfl (Nat.le_of_ble_eq_true rfl) dX12_unsent_2 (fun Φ1 hΦ1 => ?_)
  have h_3 : Φ1 x = some (o_ 14 [.int 0, .ref (x + 1), .ref (x + 2), .int v_2, .int v_3, .int (nI n_1), .int v_4, .int v_5, .ref (x + 3), .ref (x + 4), .int v_6, .long v_7, .ref (x + 5), .int (nI fl), .int v_8, .long v_9, .long v_10, .long v_11, .long v_12, .ref (x + 6), .ref (x + 7), .int (nI pe), .ref (x + 8), .int (nI le), .ref (x + 9), .ref (x + 10), .int (nI qu), .ref (x + 11), .ref (x + 12), .ref (x + 13), .ref (x + 14), .ref (x + 15), .ref (x + 16), .int (nI n_2), .long v_13, .ref (x + 17), .ref (x + 18), .ref (x + 19), .ref (x + 20), .ref (x + 21), .ref (x + 22), .int (nI n_3), .ref (x + 23), .ref (x + 24), .int (nI n_4), .ref (x + 25), .int (nI il), .int (nI nx), .int ec, .int v_14, .int kn, .int v_15, .int nu, .long va]) := fset_at hΦ1
  have hI1 : Im G x (rd, NN, fl, pe, le, nx, il, qu, kn, ec, nu, va) Φ1 := Im.put0 hI hΦ1 ⟨0, v_2, v_3, n_1, v_4, v_5, v_6, v_7, v_8, v_9, v_10, v_11, v_12, n_2, v_13, n_3, n_4, v_14, v_15, rfl, b_12, (show 1 ≤ n_1 by omega), (show n_1 ≤ 1024 by omega), (show fl ≤ 12 by omega), (show pe ≤ 24 by omega), (show le ≤ 700 by omega), (show qu ≤ 12 by omega), (show n_2 ≤ 8 by omega), (show n_3 ≤ 24 by omega), (show n_4 ≤ 24 by omega), (show il ≤ 700 by omega), (show nx ≤ 701 by omega)⟩
  refine z_aload_n B dX12_unsent_5 rfl 0 rfl ?_
  refine z_get (ref := "FlowExporterModel") (C := RX12) (T := TX12) (N := 54) (ci := 14) (v := .long v_12) B (by decide +kernel) rfl 18 (by decide) (by decide +kernel) rfl h_3 rfl dX12_unsent_6 ?_
  exact z_ret_l B dX12_unsent_9 ⟨⟨_, rfl⟩, rfl, hI1, (fun b9 h9 => ((fset_fr hΦ1 (fun h8 => h9 (0) h8 (show 0 = 0 by omega))).trans rfl))⟩

set_option maxHeartbeats 4000000 in
set_option maxRecDepth 100000 in
theorem r_dropped (G : EnvG) (l : Launch) (Φ : Hm) (sz x : Nat) (rd : (Nat → Int32) → Prop) (fl : Nat) (pe : Nat) (le : Nat) (nx : Nat) (il : Nat) (qu : Nat) (kn : Int32) (ec : Int32) (nu : Int32) (va : Int64)  (hx : G.2.2.2 ≤ x) (hI : Im G x (rd, NN, fl, pe, le, nx, il, qu, kn, ec, nu, va) Φ)  : Ct G l yX12_dropped wsX12_dropped ({ frames := 0, cells := 0, slots := 0, locals := 0 }) 0 0 [.ref x] Φ sz (fun v Φ1 sz1 => (∃ r9 : Int32, v = some (.int r9)) ∧ sz1 = sz ∧ (Im G x (rd, NN, fl, pe, le, nx, il, qu, kn, ec, nu, va) Φ1) ∧ Fr x (fun j9 => j9 = 0) Φ Φ1) := by
  refine Ct.of (cc := cX12_dropped) (maxL := 1) (ret := (some .int)) (by decide) rfl (Nat.le_of_ble_eq_true rfl) ?_
  intro p9 e9 s9 m9 w9 t9 k9 B
  show Z p9 l e9 _ s9 m9 _ w9 t9 k9 _ G 1 0 [(0, .ref x)] [] Φ sz 0 0
  refine z_aload_n B dX12_dropped_0 rfl 0 rfl ?_
  refine z_iconst (v := 0) B dX12_dropped_1 rfl ?_
  obtain ⟨v_1, v_2, v_3, n_1, v_4, v_5, v_6, v_7, v_8, v_9, v_10, v_11, v_12, n_2, v_13, n_3, n_4, v_14, v_15, h_1, b_12, b_1, b_2, b_3, b_4, b_5, b_6, b_7, b_8, b_9, b_10, b_11⟩ := im0 hI
  replace b_1 : 1 ≤ n_1 := b_1
  replace b_2 : n_1 ≤ 1024 := b_2
  replace b_3 : fl ≤ 12 := b_3
  replace b_4 : pe ≤ 24 := b_4
  replace b_5 : le ≤ 700 := b_5
  replace b_6 : qu ≤ 12 := b_6
  replace b_7 : n_2 ≤ 8 := b_7
  replace b_8 : n_3 ≤ 24 := b_8
  replace b_9 : n_4 ≤ 24 := b_9
  replace b_10 : il ≤ 700 := b_10
  replace b_11 : nx ≤ 701 := b_11
  have h_2 : Φ x = some (o_ 14 [.int v_1, .ref (x + 1), .ref (x + 2), .int v_2, .int v_3, .int (nI n_1), .int v_4, .int v_5, .ref (x + 3), .ref (x + 4), .int v_6, .long v_7, .ref (x + 5), .int (nI fl), .int v_8, .long v_9, .long v_10, .long v_11, .long v_12, .ref (x + 6), .ref (x + 7), .int (nI pe), .ref (x + 8), .int (nI le), .ref (x + 9), .ref (x + 10), .int (nI qu), .ref (x + 11), .ref (x + 12), .ref (x + 13), .ref (x + 14), .ref (x + 15), .ref (x + 16), .int (nI n_2), .long v_13, .ref (x + 17), .ref (x + 18), .ref (x + 19), .ref (x + 20), .ref (x + 21), .ref (x + 22), .int (nI n_3), .ref (x + 23), .ref (x + 24), .int (nI n_4), .ref (x + 25), .int (nI il), .int (nI nx), .int ec, .int v_14, .int kn, .int v_15, .int nu, .long va]) := h_1
  refine z_put (ref := "FlowExporterModel") (C := RX12) (T := TX12) (N := 54) (ci := 14) (v := .int 0) B (by decide +kernel) tyX12 tyX12_ok nmX12 rfl 0 (by decide) (by decide +kernel) rfl (Or.inl rfl) h_2 hx rfl rfl (Nat.le_of_ble_eq_true rfl) dX12_dropped_2 (fun Φ1 hΦ1 => ?_)
  have h_3 : Φ1 x = some (o_ 14 [.int 0, .ref (x + 1), .ref (x + 2), .int v_2, .int v_3, .int (nI n_1), .int v_4, .int v_5, .ref (x + 3), .ref (x + 4), .int v_6, .long v_7, .ref (x + 5), .int (nI fl), .int v_8, .long v_9, .long v_10, .long v_11, .long v_12, .ref (x + 6), .ref (x + 7), .int (nI pe), .ref (x + 8), .int (nI le), .ref (x + 9), .ref (x + 10), .int (nI qu), .ref (x + 11), .ref (x + 12), .ref (x + 13), .ref (x + 14), .ref (x + 15), .ref (x + 16), .int (nI n_2), .long v_13, .ref (x + 17), .ref (x + 18), .ref (x + 19), .ref (x + 20), .ref (x + 21), .ref (x + 22), .int (nI n_3), .ref (x + 23), .ref (x + 24), .int (nI n_4), .ref (x + 25), .int (nI il), .int (nI nx), .int ec, .int v_14, .int kn, .int v_15, .int nu, .long va]) := fset_at hΦ1
  have hI1 : Im G x (rd, NN, fl, pe, le, nx, il, qu, kn, ec, nu, va) Φ1 := Im.put0 hI hΦ1 ⟨0, v_2, v_3, n_1, v_4, v_5, v_6, v_7, v_8, v_9, v_10, v_11, v_12, n_2, v_13, n_3, n_4, v_14, v_15, rfl, b_12, (show 1 ≤ n_1 by omega), (show n_1 ≤ 1024 by omega), (show fl ≤ 12 by omega), (show pe ≤ 24 by omega), (show le ≤ 700 by omega), (show qu ≤ 12 by omega), (show n_2 ≤ 8 by omega), (show n_3 ≤ 24 by omega), (show n_4 ≤ 24 by omega), (show il ≤ 700 by omega), (show nx ≤ 701 by omega)⟩
  refine z_aload_n B dX12_dropped_5 rfl 0 rfl ?_
  refine z_get (ref := "FlowExporterModel") (C := RX12) (T := TX12) (N := 54) (ci := 14) (v := .int v_8) B (by decide +kernel) rfl 14 (by decide) (by decide +kernel) rfl h_3 rfl dX12_dropped_6 ?_
  exact z_ret_i B dX12_dropped_9 ⟨⟨_, rfl⟩, rfl, hI1, (fun b9 h9 => ((fset_fr hΦ1 (fun h8 => h9 (0) h8 (show 0 = 0 by omega))).trans rfl))⟩

set_option maxHeartbeats 4000000 in
set_option maxRecDepth 100000 in
theorem r_sequence (G : EnvG) (l : Launch) (Φ : Hm) (sz x : Nat) (rd : (Nat → Int32) → Prop) (fl : Nat) (pe : Nat) (le : Nat) (nx : Nat) (il : Nat) (qu : Nat) (kn : Int32) (ec : Int32) (nu : Int32) (va : Int64)  (hx : G.2.2.2 ≤ x) (hI : Im G x (rd, NN, fl, pe, le, nx, il, qu, kn, ec, nu, va) Φ)  : Ct G l yX12_sequence wsX12_sequence ({ frames := 0, cells := 0, slots := 0, locals := 0 }) 0 0 [.ref x] Φ sz (fun v Φ1 sz1 => (∃ r9 : Int64, v = some (.long r9)) ∧ sz1 = sz ∧ (Im G x (rd, NN, fl, pe, le, nx, il, qu, kn, ec, nu, va) Φ1) ∧ Fr x (fun j9 => j9 = 0) Φ Φ1) := by
  refine Ct.of (cc := cX12_sequence) (maxL := 1) (ret := (some .long)) (by decide) rfl (Nat.le_of_ble_eq_true rfl) ?_
  intro p9 e9 s9 m9 w9 t9 k9 B
  show Z p9 l e9 _ s9 m9 _ w9 t9 k9 _ G 1 0 [(0, .ref x)] [] Φ sz 0 0
  refine z_aload_n B dX12_sequence_0 rfl 0 rfl ?_
  refine z_iconst (v := 0) B dX12_sequence_1 rfl ?_
  obtain ⟨v_1, v_2, v_3, n_1, v_4, v_5, v_6, v_7, v_8, v_9, v_10, v_11, v_12, n_2, v_13, n_3, n_4, v_14, v_15, h_1, b_12, b_1, b_2, b_3, b_4, b_5, b_6, b_7, b_8, b_9, b_10, b_11⟩ := im0 hI
  replace b_1 : 1 ≤ n_1 := b_1
  replace b_2 : n_1 ≤ 1024 := b_2
  replace b_3 : fl ≤ 12 := b_3
  replace b_4 : pe ≤ 24 := b_4
  replace b_5 : le ≤ 700 := b_5
  replace b_6 : qu ≤ 12 := b_6
  replace b_7 : n_2 ≤ 8 := b_7
  replace b_8 : n_3 ≤ 24 := b_8
  replace b_9 : n_4 ≤ 24 := b_9
  replace b_10 : il ≤ 700 := b_10
  replace b_11 : nx ≤ 701 := b_11
  have h_2 : Φ x = some (o_ 14 [.int v_1, .ref (x + 1), .ref (x + 2), .int v_2, .int v_3, .int (nI n_1), .int v_4, .int v_5, .ref (x + 3), .ref (x + 4), .int v_6, .long v_7, .ref (x + 5), .int (nI fl), .int v_8, .long v_9, .long v_10, .long v_11, .long v_12, .ref (x + 6), .ref (x + 7), .int (nI pe), .ref (x + 8), .int (nI le), .ref (x + 9), .ref (x + 10), .int (nI qu), .ref (x + 11), .ref (x + 12), .ref (x + 13), .ref (x + 14), .ref (x + 15), .ref (x + 16), .int (nI n_2), .long v_13, .ref (x + 17), .ref (x + 18), .ref (x + 19), .ref (x + 20), .ref (x + 21), .ref (x + 22), .int (nI n_3), .ref (x + 23), .ref (x + 24), .int (nI n_4), .ref (x + 25), .int (nI il), .int (nI nx), .int ec, .int v_14, .int kn, .int v_15, .int nu, .long va]) := h_1
  refine z_put (ref := "FlowExporterModel") (C := RX12) (T := TX12) (N := 54) (ci := 14) (v := .int 0) B (by decide +kernel) tyX12 tyX12_ok nmX12 rfl 0 (by decide) (by decide +kernel) rfl (Or.inl rfl) h_2 hx rfl rfl (Nat.le_of_ble_eq_true rfl) dX12_sequence_2 (fun Φ1 hΦ1 => ?_)
  have h_3 : Φ1 x = some (o_ 14 [.int 0, .ref (x + 1), .ref (x + 2), .int v_2, .int v_3, .int (nI n_1), .int v_4, .int v_5, .ref (x + 3), .ref (x + 4), .int v_6, .long v_7, .ref (x + 5), .int (nI fl), .int v_8, .long v_9, .long v_10, .long v_11, .long v_12, .ref (x + 6), .ref (x + 7), .int (nI pe), .ref (x + 8), .int (nI le), .ref (x + 9), .ref (x + 10), .int (nI qu), .ref (x + 11), .ref (x + 12), .ref (x + 13), .ref (x + 14), .ref (x + 15), .ref (x + 16), .int (nI n_2), .long v_13, .ref (x + 17), .ref (x + 18), .ref (x + 19), .ref (x + 20), .ref (x + 21), .ref (x + 22), .int (nI n_3), .ref (x + 23), .ref (x + 24), .int (nI n_4), .ref (x + 25), .int (nI il), .int (nI nx), .int ec, .int v_14, .int kn, .int v_15, .int nu, .long va]) := fset_at hΦ1
  have hI1 : Im G x (rd, NN, fl, pe, le, nx, il, qu, kn, ec, nu, va) Φ1 := Im.put0 hI hΦ1 ⟨0, v_2, v_3, n_1, v_4, v_5, v_6, v_7, v_8, v_9, v_10, v_11, v_12, n_2, v_13, n_3, n_4, v_14, v_15, rfl, b_12, (show 1 ≤ n_1 by omega), (show n_1 ≤ 1024 by omega), (show fl ≤ 12 by omega), (show pe ≤ 24 by omega), (show le ≤ 700 by omega), (show qu ≤ 12 by omega), (show n_2 ≤ 8 by omega), (show n_3 ≤ 24 by omega), (show n_4 ≤ 24 by omega), (show il ≤ 700 by omega), (show nx ≤ 701 by omega)⟩
  refine z_aload_n B dX12_sequence_5 rfl 0 rfl ?_
  refine z_get (ref := "FlowExporterModel") (C := RX12) (T := TX12) (N := 54) (ci := 14) (v := .long v_7) B (by decide +kernel) rfl 11 (by decide) (by decide +kernel) rfl h_3 rfl dX12_sequence_6 ?_
  exact z_ret_l B dX12_sequence_9 ⟨⟨_, rfl⟩, rfl, hI1, (fun b9 h9 => ((fset_fr hΦ1 (fun h8 => h9 (0) h8 (show 0 = 0 by omega))).trans rfl))⟩

set_option maxHeartbeats 4000000 in
set_option maxRecDepth 100000 in
theorem r_queueLength (G : EnvG) (l : Launch) (Φ : Hm) (sz x : Nat) (rd : (Nat → Int32) → Prop) (fl : Nat) (pe : Nat) (le : Nat) (nx : Nat) (il : Nat) (qu : Nat) (kn : Int32) (ec : Int32) (nu : Int32) (va : Int64)  (hx : G.2.2.2 ≤ x) (hI : Im G x (rd, NN, fl, pe, le, nx, il, qu, kn, ec, nu, va) Φ)  : Ct G l yX12_queueLength wsX12_queueLength ({ frames := 0, cells := 0, slots := 0, locals := 0 }) 0 0 [.ref x] Φ sz (fun v Φ1 sz1 => (∃ r9 : Int32, v = some (.int r9)) ∧ sz1 = sz ∧ (Im G x (rd, NN, fl, pe, le, nx, il, qu, kn, ec, nu, va) Φ1) ∧ Fr x (fun j9 => j9 = 0) Φ Φ1) := by
  refine Ct.of (cc := cX12_queueLength) (maxL := 1) (ret := (some .int)) (by decide) rfl (Nat.le_of_ble_eq_true rfl) ?_
  intro p9 e9 s9 m9 w9 t9 k9 B
  show Z p9 l e9 _ s9 m9 _ w9 t9 k9 _ G 1 0 [(0, .ref x)] [] Φ sz 0 0
  refine z_aload_n B dX12_queueLength_0 rfl 0 rfl ?_
  refine z_iconst (v := 0) B dX12_queueLength_1 rfl ?_
  obtain ⟨v_1, v_2, v_3, n_1, v_4, v_5, v_6, v_7, v_8, v_9, v_10, v_11, v_12, n_2, v_13, n_3, n_4, v_14, v_15, h_1, b_12, b_1, b_2, b_3, b_4, b_5, b_6, b_7, b_8, b_9, b_10, b_11⟩ := im0 hI
  replace b_1 : 1 ≤ n_1 := b_1
  replace b_2 : n_1 ≤ 1024 := b_2
  replace b_3 : fl ≤ 12 := b_3
  replace b_4 : pe ≤ 24 := b_4
  replace b_5 : le ≤ 700 := b_5
  replace b_6 : qu ≤ 12 := b_6
  replace b_7 : n_2 ≤ 8 := b_7
  replace b_8 : n_3 ≤ 24 := b_8
  replace b_9 : n_4 ≤ 24 := b_9
  replace b_10 : il ≤ 700 := b_10
  replace b_11 : nx ≤ 701 := b_11
  have h_2 : Φ x = some (o_ 14 [.int v_1, .ref (x + 1), .ref (x + 2), .int v_2, .int v_3, .int (nI n_1), .int v_4, .int v_5, .ref (x + 3), .ref (x + 4), .int v_6, .long v_7, .ref (x + 5), .int (nI fl), .int v_8, .long v_9, .long v_10, .long v_11, .long v_12, .ref (x + 6), .ref (x + 7), .int (nI pe), .ref (x + 8), .int (nI le), .ref (x + 9), .ref (x + 10), .int (nI qu), .ref (x + 11), .ref (x + 12), .ref (x + 13), .ref (x + 14), .ref (x + 15), .ref (x + 16), .int (nI n_2), .long v_13, .ref (x + 17), .ref (x + 18), .ref (x + 19), .ref (x + 20), .ref (x + 21), .ref (x + 22), .int (nI n_3), .ref (x + 23), .ref (x + 24), .int (nI n_4), .ref (x + 25), .int (nI il), .int (nI nx), .int ec, .int v_14, .int kn, .int v_15, .int nu, .long va]) := h_1
  refine z_put (ref := "FlowExporterModel") (C := RX12) (T := TX12) (N := 54) (ci := 14) (v := .int 0) B (by decide +kernel) tyX12 tyX12_ok nmX12 rfl 0 (by decide) (by decide +kernel) rfl (Or.inl rfl) h_2 hx rfl rfl (Nat.le_of_ble_eq_true rfl) dX12_queueLength_2 (fun Φ1 hΦ1 => ?_)
  have h_3 : Φ1 x = some (o_ 14 [.int 0, .ref (x + 1), .ref (x + 2), .int v_2, .int v_3, .int (nI n_1), .int v_4, .int v_5, .ref (x + 3), .ref (x + 4), .int v_6, .long v_7, .ref (x + 5), .int (nI fl), .int v_8, .long v_9, .long v_10, .long v_11, .long v_12, .ref (x + 6), .ref (x + 7), .int (nI pe), .ref (x + 8), .int (nI le), .ref (x + 9), .ref (x + 10), .int (nI qu), .ref (x + 11), .ref (x + 12), .ref (x + 13), .ref (x + 14), .ref (x + 15), .ref (x + 16), .int (nI n_2), .long v_13, .ref (x + 17), .ref (x + 18), .ref (x + 19), .ref (x + 20), .ref (x + 21), .ref (x + 22), .int (nI n_3), .ref (x + 23), .ref (x + 24), .int (nI n_4), .ref (x + 25), .int (nI il), .int (nI nx), .int ec, .int v_14, .int kn, .int v_15, .int nu, .long va]) := fset_at hΦ1
  have hI1 : Im G x (rd, NN, fl, pe, le, nx, il, qu, kn, ec, nu, va) Φ1 := Im.put0 hI hΦ1 ⟨0, v_2, v_3, n_1, v_4, v_5, v_6, v_7, v_8, v_9, v_10, v_11, v_12, n_2, v_13, n_3, n_4, v_14, v_15, rfl, b_12, (show 1 ≤ n_1 by omega), (show n_1 ≤ 1024 by omega), (show fl ≤ 12 by omega), (show pe ≤ 24 by omega), (show le ≤ 700 by omega), (show qu ≤ 12 by omega), (show n_2 ≤ 8 by omega), (show n_3 ≤ 24 by omega), (show n_4 ≤ 24 by omega), (show il ≤ 700 by omega), (show nx ≤ 701 by omega)⟩
  refine z_aload_n B dX12_queueLength_5 rfl 0 rfl ?_
  refine z_get (ref := "FlowExporterModel") (C := RX12) (T := TX12) (N := 54) (ci := 14) (v := .int (nI qu)) B (by decide +kernel) rfl 26 (by decide) (by decide +kernel) rfl h_3 rfl dX12_queueLength_6 ?_
  exact z_ret_i B dX12_queueLength_9 ⟨⟨_, rfl⟩, rfl, hI1, (fun b9 h9 => ((fset_fr hΦ1 (fun h8 => h9 (0) h8 (show 0 = 0 by omega))).trans rfl))⟩

set_option maxHeartbeats 4000000 in
set_option maxRecDepth 100000 in
theorem r_expected (G : EnvG) (l : Launch) (Φ : Hm) (sz x : Nat) (rd : (Nat → Int32) → Prop) (fl : Nat) (pe : Nat) (le : Nat) (nx : Nat) (il : Nat) (qu : Nat) (kn : Int32) (ec : Int32) (nu : Int32) (va : Int64)  (hx : G.2.2.2 ≤ x) (hI : Im G x (rd, NN, fl, pe, le, nx, il, qu, kn, ec, nu, va) Φ)  : Ct G l yX12_expected wsX12_expected ({ frames := 0, cells := 0, slots := 0, locals := 0 }) 0 0 [.ref x] Φ sz (fun v Φ1 sz1 => (∃ r9 : Int64, v = some (.long r9)) ∧ sz1 = sz ∧ (Im G x (rd, NN, fl, pe, le, nx, il, qu, kn, ec, nu, va) Φ1) ∧ Fr x (fun j9 => j9 = 0) Φ Φ1) := by
  refine Ct.of (cc := cX12_expected) (maxL := 1) (ret := (some .long)) (by decide) rfl (Nat.le_of_ble_eq_true rfl) ?_
  intro p9 e9 s9 m9 w9 t9 k9 B
  show Z p9 l e9 _ s9 m9 _ w9 t9 k9 _ G 1 0 [(0, .ref x)] [] Φ sz 0 0
  refine z_aload_n B dX12_expected_0 rfl 0 rfl ?_
  refine z_iconst (v := 0) B dX12_expected_1 rfl ?_
  obtain ⟨v_1, v_2, v_3, n_1, v_4, v_5, v_6, v_7, v_8, v_9, v_10, v_11, v_12, n_2, v_13, n_3, n_4, v_14, v_15, h_1, b_12, b_1, b_2, b_3, b_4, b_5, b_6, b_7, b_8, b_9, b_10, b_11⟩ := im0 hI
  replace b_1 : 1 ≤ n_1 := b_1
  replace b_2 : n_1 ≤ 1024 := b_2
  replace b_3 : fl ≤ 12 := b_3
  replace b_4 : pe ≤ 24 := b_4
  replace b_5 : le ≤ 700 := b_5
  replace b_6 : qu ≤ 12 := b_6
  replace b_7 : n_2 ≤ 8 := b_7
  replace b_8 : n_3 ≤ 24 := b_8
  replace b_9 : n_4 ≤ 24 := b_9
  replace b_10 : il ≤ 700 := b_10
  replace b_11 : nx ≤ 701 := b_11
  have h_2 : Φ x = some (o_ 14 [.int v_1, .ref (x + 1), .ref (x + 2), .int v_2, .int v_3, .int (nI n_1), .int v_4, .int v_5, .ref (x + 3), .ref (x + 4), .int v_6, .long v_7, .ref (x + 5), .int (nI fl), .int v_8, .long v_9, .long v_10, .long v_11, .long v_12, .ref (x + 6), .ref (x + 7), .int (nI pe), .ref (x + 8), .int (nI le), .ref (x + 9), .ref (x + 10), .int (nI qu), .ref (x + 11), .ref (x + 12), .ref (x + 13), .ref (x + 14), .ref (x + 15), .ref (x + 16), .int (nI n_2), .long v_13, .ref (x + 17), .ref (x + 18), .ref (x + 19), .ref (x + 20), .ref (x + 21), .ref (x + 22), .int (nI n_3), .ref (x + 23), .ref (x + 24), .int (nI n_4), .ref (x + 25), .int (nI il), .int (nI nx), .int ec, .int v_14, .int kn, .int v_15, .int nu, .long va]) := h_1
  refine z_put (ref := "FlowExporterModel") (C := RX12) (T := TX12) (N := 54) (ci := 14) (v := .int 0) B (by decide +kernel) tyX12 tyX12_ok nmX12 rfl 0 (by decide) (by decide +kernel) rfl (Or.inl rfl) h_2 hx rfl rfl (Nat.le_of_ble_eq_true rfl) dX12_expected_2 (fun Φ1 hΦ1 => ?_)
  have h_3 : Φ1 x = some (o_ 14 [.int 0, .ref (x + 1), .ref (x + 2), .int v_2, .int v_3, .int (nI n_1), .int v_4, .int v_5, .ref (x + 3), .ref (x + 4), .int v_6, .long v_7, .ref (x + 5), .int (nI fl), .int v_8, .long v_9, .long v_10, .long v_11, .long v_12, .ref (x + 6), .ref (x + 7), .int (nI pe), .ref (x + 8), .int (nI le), .ref (x + 9), .ref (x + 10), .int (nI qu), .ref (x + 11), .ref (x + 12), .ref (x + 13), .ref (x + 14), .ref (x + 15), .ref (x + 16), .int (nI n_2), .long v_13, .ref (x + 17), .ref (x + 18), .ref (x + 19), .ref (x + 20), .ref (x + 21), .ref (x + 22), .int (nI n_3), .ref (x + 23), .ref (x + 24), .int (nI n_4), .ref (x + 25), .int (nI il), .int (nI nx), .int ec, .int v_14, .int kn, .int v_15, .int nu, .long va]) := fset_at hΦ1
  have hI1 : Im G x (rd, NN, fl, pe, le, nx, il, qu, kn, ec, nu, va) Φ1 := Im.put0 hI hΦ1 ⟨0, v_2, v_3, n_1, v_4, v_5, v_6, v_7, v_8, v_9, v_10, v_11, v_12, n_2, v_13, n_3, n_4, v_14, v_15, rfl, b_12, (show 1 ≤ n_1 by omega), (show n_1 ≤ 1024 by omega), (show fl ≤ 12 by omega), (show pe ≤ 24 by omega), (show le ≤ 700 by omega), (show qu ≤ 12 by omega), (show n_2 ≤ 8 by omega), (show n_3 ≤ 24 by omega), (show n_4 ≤ 24 by omega), (show il ≤ 700 by omega), (show nx ≤ 701 by omega)⟩
  refine z_aload_n B dX12_expected_5 rfl 0 rfl ?_
  refine z_get (ref := "FlowExporterModel") (C := RX12) (T := TX12) (N := 54) (ci := 14) (v := .long v_13) B (by decide +kernel) rfl 34 (by decide) (by decide +kernel) rfl h_3 rfl dX12_expected_6 ?_
  exact z_ret_l B dX12_expected_9 ⟨⟨_, rfl⟩, rfl, hI1, (fun b9 h9 => ((fset_fr hΦ1 (fun h8 => h9 (0) h8 (show 0 = 0 by omega))).trans rfl))⟩

set_option maxHeartbeats 4000000 in
set_option maxRecDepth 100000 in
theorem r_keyCount (G : EnvG) (l : Launch) (Φ : Hm) (sz x : Nat) (rd : (Nat → Int32) → Prop) (fl : Nat) (pe : Nat) (le : Nat) (nx : Nat) (il : Nat) (qu : Nat) (kn : Int32) (ec : Int32) (nu : Int32) (va : Int64)  (hx : G.2.2.2 ≤ x) (hI : Im G x (rd, NN, fl, pe, le, nx, il, qu, kn, ec, nu, va) Φ)  : Ct G l yX12_keyCount wsX12_keyCount ({ frames := 0, cells := 0, slots := 0, locals := 0 }) 0 0 [.ref x] Φ sz (fun v Φ1 sz1 => (∃ r9 : Int32, v = some (.int r9)) ∧ sz1 = sz ∧ (Im G x (rd, NN, fl, pe, le, nx, il, qu, kn, ec, nu, va) Φ1) ∧ Fr x (fun j9 => j9 = 0) Φ Φ1) := by
  refine Ct.of (cc := cX12_keyCount) (maxL := 1) (ret := (some .int)) (by decide) rfl (Nat.le_of_ble_eq_true rfl) ?_
  intro p9 e9 s9 m9 w9 t9 k9 B
  show Z p9 l e9 _ s9 m9 _ w9 t9 k9 _ G 1 0 [(0, .ref x)] [] Φ sz 0 0
  refine z_aload_n B dX12_keyCount_0 rfl 0 rfl ?_
  refine z_iconst (v := 0) B dX12_keyCount_1 rfl ?_
  obtain ⟨v_1, v_2, v_3, n_1, v_4, v_5, v_6, v_7, v_8, v_9, v_10, v_11, v_12, n_2, v_13, n_3, n_4, v_14, v_15, h_1, b_12, b_1, b_2, b_3, b_4, b_5, b_6, b_7, b_8, b_9, b_10, b_11⟩ := im0 hI
  replace b_1 : 1 ≤ n_1 := b_1
  replace b_2 : n_1 ≤ 1024 := b_2
  replace b_3 : fl ≤ 12 := b_3
  replace b_4 : pe ≤ 24 := b_4
  replace b_5 : le ≤ 700 := b_5
  replace b_6 : qu ≤ 12 := b_6
  replace b_7 : n_2 ≤ 8 := b_7
  replace b_8 : n_3 ≤ 24 := b_8
  replace b_9 : n_4 ≤ 24 := b_9
  replace b_10 : il ≤ 700 := b_10
  replace b_11 : nx ≤ 701 := b_11
  have h_2 : Φ x = some (o_ 14 [.int v_1, .ref (x + 1), .ref (x + 2), .int v_2, .int v_3, .int (nI n_1), .int v_4, .int v_5, .ref (x + 3), .ref (x + 4), .int v_6, .long v_7, .ref (x + 5), .int (nI fl), .int v_8, .long v_9, .long v_10, .long v_11, .long v_12, .ref (x + 6), .ref (x + 7), .int (nI pe), .ref (x + 8), .int (nI le), .ref (x + 9), .ref (x + 10), .int (nI qu), .ref (x + 11), .ref (x + 12), .ref (x + 13), .ref (x + 14), .ref (x + 15), .ref (x + 16), .int (nI n_2), .long v_13, .ref (x + 17), .ref (x + 18), .ref (x + 19), .ref (x + 20), .ref (x + 21), .ref (x + 22), .int (nI n_3), .ref (x + 23), .ref (x + 24), .int (nI n_4), .ref (x + 25), .int (nI il), .int (nI nx), .int ec, .int v_14, .int kn, .int v_15, .int nu, .long va]) := h_1
  refine z_put (ref := "FlowExporterModel") (C := RX12) (T := TX12) (N := 54) (ci := 14) (v := .int 0) B (by decide +kernel) tyX12 tyX12_ok nmX12 rfl 0 (by decide) (by decide +kernel) rfl (Or.inl rfl) h_2 hx rfl rfl (Nat.le_of_ble_eq_true rfl) dX12_keyCount_2 (fun Φ1 hΦ1 => ?_)
  have h_3 : Φ1 x = some (o_ 14 [.int 0, .ref (x + 1), .ref (x + 2), .int v_2, .int v_3, .int (nI n_1), .int v_4, .int v_5, .ref (x + 3), .ref (x + 4), .int v_6, .long v_7, .ref (x + 5), .int (nI fl), .int v_8, .long v_9, .long v_10, .long v_11, .long v_12, .ref (x + 6), .ref (x + 7), .int (nI pe), .ref (x + 8), .int (nI le), .ref (x + 9), .ref (x + 10), .int (nI qu), .ref (x + 11), .ref (x + 12), .ref (x + 13), .ref (x + 14), .ref (x + 15), .ref (x + 16), .int (nI n_2), .long v_13, .ref (x + 17), .ref (x + 18), .ref (x + 19), .ref (x + 20), .ref (x + 21), .ref (x + 22), .int (nI n_3), .ref (x + 23), .ref (x + 24), .int (nI n_4), .ref (x + 25), .int (nI il), .int (nI nx), .int ec, .int v_14, .int kn, .int v_15, .int nu, .long va]) := fset_at hΦ1
  have hI1 : Im G x (rd, NN, fl, pe, le, nx, il, qu, kn, ec, nu, va) Φ1 := Im.put0 hI hΦ1 ⟨0, v_2, v_3, n_1, v_4, v_5, v_6, v_7, v_8, v_9, v_10, v_11, v_12, n_2, v_13, n_3, n_4, v_14, v_15, rfl, b_12, (show 1 ≤ n_1 by omega), (show n_1 ≤ 1024 by omega), (show fl ≤ 12 by omega), (show pe ≤ 24 by omega), (show le ≤ 700 by omega), (show qu ≤ 12 by omega), (show n_2 ≤ 8 by omega), (show n_3 ≤ 24 by omega), (show n_4 ≤ 24 by omega), (show il ≤ 700 by omega), (show nx ≤ 701 by omega)⟩
  refine z_aload_n B dX12_keyCount_5 rfl 0 rfl ?_
  refine z_get (ref := "FlowExporterModel") (C := RX12) (T := TX12) (N := 54) (ci := 14) (v := .int (nI n_3)) B (by decide +kernel) rfl 41 (by decide) (by decide +kernel) rfl h_3 rfl dX12_keyCount_6 ?_
  exact z_ret_i B dX12_keyCount_9 ⟨⟨_, rfl⟩, rfl, hI1, (fun b9 h9 => ((fset_fr hΦ1 (fun h8 => h9 (0) h8 (show 0 = 0 by omega))).trans rfl))⟩

set_option maxHeartbeats 4000000 in
set_option maxRecDepth 100000 in
theorem r_errorCode (G : EnvG) (l : Launch) (Φ : Hm) (sz x : Nat) (rd : (Nat → Int32) → Prop) (fl : Nat) (pe : Nat) (le : Nat) (nx : Nat) (il : Nat) (qu : Nat) (kn : Int32) (ec : Int32) (nu : Int32) (va : Int64)  (hx : G.2.2.2 ≤ x) (hI : Im G x (rd, NN, fl, pe, le, nx, il, qu, kn, ec, nu, va) Φ)  : Ct G l yX12_errorCode wsX12_errorCode ({ frames := 0, cells := 0, slots := 0, locals := 0 }) 0 0 [.ref x] Φ sz (fun v Φ1 sz1 => (∃ r9 : Int32, v = some (.int r9)) ∧ sz1 = sz ∧ (Im G x (rd, NN, fl, pe, le, nx, il, qu, kn, ec, nu, va) Φ1) ∧ Fr x (fun j9 => j9 = 0) Φ Φ1) := by
  refine Ct.of (cc := cX12_errorCode) (maxL := 1) (ret := (some .int)) (by decide) rfl (Nat.le_of_ble_eq_true rfl) ?_
  intro p9 e9 s9 m9 w9 t9 k9 B
  show Z p9 l e9 _ s9 m9 _ w9 t9 k9 _ G 1 0 [(0, .ref x)] [] Φ sz 0 0
  refine z_aload_n B dX12_errorCode_0 rfl 0 rfl ?_
  refine z_iconst (v := 0) B dX12_errorCode_1 rfl ?_
  obtain ⟨v_1, v_2, v_3, n_1, v_4, v_5, v_6, v_7, v_8, v_9, v_10, v_11, v_12, n_2, v_13, n_3, n_4, v_14, v_15, h_1, b_12, b_1, b_2, b_3, b_4, b_5, b_6, b_7, b_8, b_9, b_10, b_11⟩ := im0 hI
  replace b_1 : 1 ≤ n_1 := b_1
  replace b_2 : n_1 ≤ 1024 := b_2
  replace b_3 : fl ≤ 12 := b_3
  replace b_4 : pe ≤ 24 := b_4
  replace b_5 : le ≤ 700 := b_5
  replace b_6 : qu ≤ 12 := b_6
  replace b_7 : n_2 ≤ 8 := b_7
  replace b_8 : n_3 ≤ 24 := b_8
  replace b_9 : n_4 ≤ 24 := b_9
  replace b_10 : il ≤ 700 := b_10
  replace b_11 : nx ≤ 701 := b_11
  have h_2 : Φ x = some (o_ 14 [.int v_1, .ref (x + 1), .ref (x + 2), .int v_2, .int v_3, .int (nI n_1), .int v_4, .int v_5, .ref (x + 3), .ref (x + 4), .int v_6, .long v_7, .ref (x + 5), .int (nI fl), .int v_8, .long v_9, .long v_10, .long v_11, .long v_12, .ref (x + 6), .ref (x + 7), .int (nI pe), .ref (x + 8), .int (nI le), .ref (x + 9), .ref (x + 10), .int (nI qu), .ref (x + 11), .ref (x + 12), .ref (x + 13), .ref (x + 14), .ref (x + 15), .ref (x + 16), .int (nI n_2), .long v_13, .ref (x + 17), .ref (x + 18), .ref (x + 19), .ref (x + 20), .ref (x + 21), .ref (x + 22), .int (nI n_3), .ref (x + 23), .ref (x + 24), .int (nI n_4), .ref (x + 25), .int (nI il), .int (nI nx), .int ec, .int v_14, .int kn, .int v_15, .int nu, .long va]) := h_1
  refine z_put (ref := "FlowExporterModel") (C := RX12) (T := TX12) (N := 54) (ci := 14) (v := .int 0) B (by decide +kernel) tyX12 tyX12_ok nmX12 rfl 0 (by decide) (by decide +kernel) rfl (Or.inl rfl) h_2 hx rfl rfl (Nat.le_of_ble_eq_true rfl) dX12_errorCode_2 (fun Φ1 hΦ1 => ?_)
  have h_3 : Φ1 x = some (o_ 14 [.int 0, .ref (x + 1), .ref (x + 2), .int v_2, .int v_3, .int (nI n_1), .int v_4, .int v_5, .ref (x + 3), .ref (x + 4), .int v_6, .long v_7, .ref (x + 5), .int (nI fl), .int v_8, .long v_9, .long v_10, .long v_11, .long v_12, .ref (x + 6), .ref (x + 7), .int (nI pe), .ref (x + 8), .int (nI le), .ref (x + 9), .ref (x + 10), .int (nI qu), .ref (x + 11), .ref (x + 12), .ref (x + 13), .ref (x + 14), .ref (x + 15), .ref (x + 16), .int (nI n_2), .long v_13, .ref (x + 17), .ref (x + 18), .ref (x + 19), .ref (x + 20), .ref (x + 21), .ref (x + 22), .int (nI n_3), .ref (x + 23), .ref (x + 24), .int (nI n_4), .ref (x + 25), .int (nI il), .int (nI nx), .int ec, .int v_14, .int kn, .int v_15, .int nu, .long va]) := fset_at hΦ1
  have hI1 : Im G x (rd, NN, fl, pe, le, nx, il, qu, kn, ec, nu, va) Φ1 := Im.put0 hI hΦ1 ⟨0, v_2, v_3, n_1, v_4, v_5, v_6, v_7, v_8, v_9, v_10, v_11, v_12, n_2, v_13, n_3, n_4, v_14, v_15, rfl, b_12, (show 1 ≤ n_1 by omega), (show n_1 ≤ 1024 by omega), (show fl ≤ 12 by omega), (show pe ≤ 24 by omega), (show le ≤ 700 by omega), (show qu ≤ 12 by omega), (show n_2 ≤ 8 by omega), (show n_3 ≤ 24 by omega), (show n_4 ≤ 24 by omega), (show il ≤ 700 by omega), (show nx ≤ 701 by omega)⟩
  refine z_aload_n B dX12_errorCode_5 rfl 0 rfl ?_
  refine z_get (ref := "FlowExporterModel") (C := RX12) (T := TX12) (N := 54) (ci := 14) (v := .int ec) B (by decide +kernel) rfl 48 (by decide) (by decide +kernel) rfl h_3 rfl dX12_errorCode_6 ?_
  exact z_ret_i B dX12_errorCode_9 ⟨⟨_, rfl⟩, rfl, hI1, (fun b9 h9 => ((fset_fr hΦ1 (fun h8 => h9 (0) h8 (show 0 = 0 by omega))).trans rfl))⟩

set_option maxHeartbeats 4000000 in
set_option maxRecDepth 100000 in
theorem r_errorPosition (G : EnvG) (l : Launch) (Φ : Hm) (sz x : Nat) (rd : (Nat → Int32) → Prop) (fl : Nat) (pe : Nat) (le : Nat) (nx : Nat) (il : Nat) (qu : Nat) (kn : Int32) (ec : Int32) (nu : Int32) (va : Int64)  (hx : G.2.2.2 ≤ x) (hI : Im G x (rd, NN, fl, pe, le, nx, il, qu, kn, ec, nu, va) Φ)  : Ct G l yX12_errorPosition wsX12_errorPosition ({ frames := 0, cells := 0, slots := 0, locals := 0 }) 0 0 [.ref x] Φ sz (fun v Φ1 sz1 => (∃ r9 : Int32, v = some (.int r9)) ∧ sz1 = sz ∧ (Im G x (rd, NN, fl, pe, le, nx, il, qu, kn, ec, nu, va) Φ1) ∧ Fr x (fun j9 => j9 = 0) Φ Φ1) := by
  refine Ct.of (cc := cX12_errorPosition) (maxL := 1) (ret := (some .int)) (by decide) rfl (Nat.le_of_ble_eq_true rfl) ?_
  intro p9 e9 s9 m9 w9 t9 k9 B
  show Z p9 l e9 _ s9 m9 _ w9 t9 k9 _ G 1 0 [(0, .ref x)] [] Φ sz 0 0
  refine z_aload_n B dX12_errorPosition_0 rfl 0 rfl ?_
  refine z_iconst (v := 0) B dX12_errorPosition_1 rfl ?_
  obtain ⟨v_1, v_2, v_3, n_1, v_4, v_5, v_6, v_7, v_8, v_9, v_10, v_11, v_12, n_2, v_13, n_3, n_4, v_14, v_15, h_1, b_12, b_1, b_2, b_3, b_4, b_5, b_6, b_7, b_8, b_9, b_10, b_11⟩ := im0 hI
  replace b_1 : 1 ≤ n_1 := b_1
  replace b_2 : n_1 ≤ 1024 := b_2
  replace b_3 : fl ≤ 12 := b_3
  replace b_4 : pe ≤ 24 := b_4
  replace b_5 : le ≤ 700 := b_5
  replace b_6 : qu ≤ 12 := b_6
  replace b_7 : n_2 ≤ 8 := b_7
  replace b_8 : n_3 ≤ 24 := b_8
  replace b_9 : n_4 ≤ 24 := b_9
  replace b_10 : il ≤ 700 := b_10
  replace b_11 : nx ≤ 701 := b_11
  have h_2 : Φ x = some (o_ 14 [.int v_1, .ref (x + 1), .ref (x + 2), .int v_2, .int v_3, .int (nI n_1), .int v_4, .int v_5, .ref (x + 3), .ref (x + 4), .int v_6, .long v_7, .ref (x + 5), .int (nI fl), .int v_8, .long v_9, .long v_10, .long v_11, .long v_12, .ref (x + 6), .ref (x + 7), .int (nI pe), .ref (x + 8), .int (nI le), .ref (x + 9), .ref (x + 10), .int (nI qu), .ref (x + 11), .ref (x + 12), .ref (x + 13), .ref (x + 14), .ref (x + 15), .ref (x + 16), .int (nI n_2), .long v_13, .ref (x + 17), .ref (x + 18), .ref (x + 19), .ref (x + 20), .ref (x + 21), .ref (x + 22), .int (nI n_3), .ref (x + 23), .ref (x + 24), .int (nI n_4), .ref (x + 25), .int (nI il), .int (nI nx), .int ec, .int v_14, .int kn, .int v_15, .int nu, .long va]) := h_1
  refine z_put (ref := "FlowExporterModel") (C := RX12) (T := TX12) (N := 54) (ci := 14) (v := .int 0) B (by decide +kernel) tyX12 tyX12_ok nmX12 rfl 0 (by decide) (by decide +kernel) rfl (Or.inl rfl) h_2 hx rfl rfl (Nat.le_of_ble_eq_true rfl) dX12_errorPosition_2 (fun Φ1 hΦ1 => ?_)
  have h_3 : Φ1 x = some (o_ 14 [.int 0, .ref (x + 1), .ref (x + 2), .int v_2, .int v_3, .int (nI n_1), .int v_4, .int v_5, .ref (x + 3), .ref (x + 4), .int v_6, .long v_7, .ref (x + 5), .int (nI fl), .int v_8, .long v_9, .long v_10, .long v_11, .long v_12, .ref (x + 6), .ref (x + 7), .int (nI pe), .ref (x + 8), .int (nI le), .ref (x + 9), .ref (x + 10), .int (nI qu), .ref (x + 11), .ref (x + 12), .ref (x + 13), .ref (x + 14), .ref (x + 15), .ref (x + 16), .int (nI n_2), .long v_13, .ref (x + 17), .ref (x + 18), .ref (x + 19), .ref (x + 20), .ref (x + 21), .ref (x + 22), .int (nI n_3), .ref (x + 23), .ref (x + 24), .int (nI n_4), .ref (x + 25), .int (nI il), .int (nI nx), .int ec, .int v_14, .int kn, .int v_15, .int nu, .long va]) := fset_at hΦ1
  have hI1 : Im G x (rd, NN, fl, pe, le, nx, il, qu, kn, ec, nu, va) Φ1 := Im.put0 hI hΦ1 ⟨0, v_2, v_3, n_1, v_4, v_5, v_6, v_7, v_8, v_9, v_10, v_11, v_12, n_2, v_13, n_3, n_4, v_14, v_15, rfl, b_12, (show 1 ≤ n_1 by omega), (show n_1 ≤ 1024 by omega), (show fl ≤ 12 by omega), (show pe ≤ 24 by omega), (show le ≤ 700 by omega), (show qu ≤ 12 by omega), (show n_2 ≤ 8 by omega), (show n_3 ≤ 24 by omega), (show n_4 ≤ 24 by omega), (show il ≤ 700 by omega), (show nx ≤ 701 by omega)⟩
  refine z_aload_n B dX12_errorPosition_5 rfl 0 rfl ?_
  refine z_get (ref := "FlowExporterModel") (C := RX12) (T := TX12) (N := 54) (ci := 14) (v := .int v_14) B (by decide +kernel) rfl 49 (by decide) (by decide +kernel) rfl h_3 rfl dX12_errorPosition_6 ?_
  exact z_ret_i B dX12_errorPosition_9 ⟨⟨_, rfl⟩, rfl, hI1, (fun b9 h9 => ((fset_fr hΦ1 (fun h8 => h9 (0) h8 (show 0 = 0 by omega))).trans rfl))⟩

set_option maxHeartbeats 4000000 in
set_option maxRecDepth 100000 in
theorem r_setSeed (G : EnvG) (l : Launch) (Φ : Hm) (sz x : Nat) (rd : (Nat → Int32) → Prop) (fl : Nat) (pe : Nat) (le : Nat) (nx : Nat) (il : Nat) (qu : Nat) (kn : Int32) (ec : Int32) (nu : Int32) (va : Int64) (a : Int32) (hx : G.2.2.2 ≤ x) (hI : Im G x (rd, NN, fl, pe, le, nx, il, qu, kn, ec, nu, va) Φ)  : Ct G l yX12_setSeed wsX12_setSeed ({ frames := 0, cells := 0, slots := 0, locals := 0 }) 0 0 [.ref x, .int a] Φ sz (fun v Φ1 sz1 => (∃ r9 : Int32, v = some (.int r9) ∧ (r9 = 0 ∨ r9 = 1)) ∧ sz1 = sz ∧ (Im G x (rd, NN, fl, pe, le, nx, il, qu, kn, ec, nu, va) Φ1) ∧ Fr x (fun j9 => j9 = 0) Φ Φ1) := by
  refine Ct.of (cc := cX12_setSeed) (maxL := 2) (ret := (some .boolean)) (by decide) rfl (Nat.le_of_ble_eq_true rfl) ?_
  intro p9 e9 s9 m9 w9 t9 k9 B
  show Z p9 l e9 _ s9 m9 _ w9 t9 k9 _ G 2 0 [(0, .ref x), (1, .int a)] [] Φ sz 0 0
  refine z_aload_n B dX12_setSeed_0 rfl 0 rfl ?_
  refine z_iconst (v := 0) B dX12_setSeed_1 rfl ?_
  obtain ⟨v_1, v_2, v_3, n_1, v_4, v_5, v_6, v_7, v_8, v_9, v_10, v_11, v_12, n_2, v_13, n_3, n_4, v_14, v_15, h_1, b_12, b_1, b_2, b_3, b_4, b_5, b_6, b_7, b_8, b_9, b_10, b_11⟩ := im0 hI
  replace b_1 : 1 ≤ n_1 := b_1
  replace b_2 : n_1 ≤ 1024 := b_2
  replace b_3 : fl ≤ 12 := b_3
  replace b_4 : pe ≤ 24 := b_4
  replace b_5 : le ≤ 700 := b_5
  replace b_6 : qu ≤ 12 := b_6
  replace b_7 : n_2 ≤ 8 := b_7
  replace b_8 : n_3 ≤ 24 := b_8
  replace b_9 : n_4 ≤ 24 := b_9
  replace b_10 : il ≤ 700 := b_10
  replace b_11 : nx ≤ 701 := b_11
  have h_2 : Φ x = some (o_ 14 [.int v_1, .ref (x + 1), .ref (x + 2), .int v_2, .int v_3, .int (nI n_1), .int v_4, .int v_5, .ref (x + 3), .ref (x + 4), .int v_6, .long v_7, .ref (x + 5), .int (nI fl), .int v_8, .long v_9, .long v_10, .long v_11, .long v_12, .ref (x + 6), .ref (x + 7), .int (nI pe), .ref (x + 8), .int (nI le), .ref (x + 9), .ref (x + 10), .int (nI qu), .ref (x + 11), .ref (x + 12), .ref (x + 13), .ref (x + 14), .ref (x + 15), .ref (x + 16), .int (nI n_2), .long v_13, .ref (x + 17), .ref (x + 18), .ref (x + 19), .ref (x + 20), .ref (x + 21), .ref (x + 22), .int (nI n_3), .ref (x + 23), .ref (x + 24), .int (nI n_4), .ref (x + 25), .int (nI il), .int (nI nx), .int ec, .int v_14, .int kn, .int v_15, .int nu, .long va]) := h_1
  refine z_put (ref := "FlowExporterModel") (C := RX12) (T := TX12) (N := 54) (ci := 14) (v := .int 0) B (by decide +kernel) tyX12 tyX12_ok nmX12 rfl 0 (by decide) (by decide +kernel) rfl (Or.inl rfl) h_2 hx rfl rfl (Nat.le_of_ble_eq_true rfl) dX12_setSeed_2 (fun Φ1 hΦ1 => ?_)
  have h_3 : Φ1 x = some (o_ 14 [.int 0, .ref (x + 1), .ref (x + 2), .int v_2, .int v_3, .int (nI n_1), .int v_4, .int v_5, .ref (x + 3), .ref (x + 4), .int v_6, .long v_7, .ref (x + 5), .int (nI fl), .int v_8, .long v_9, .long v_10, .long v_11, .long v_12, .ref (x + 6), .ref (x + 7), .int (nI pe), .ref (x + 8), .int (nI le), .ref (x + 9), .ref (x + 10), .int (nI qu), .ref (x + 11), .ref (x + 12), .ref (x + 13), .ref (x + 14), .ref (x + 15), .ref (x + 16), .int (nI n_2), .long v_13, .ref (x + 17), .ref (x + 18), .ref (x + 19), .ref (x + 20), .ref (x + 21), .ref (x + 22), .int (nI n_3), .ref (x + 23), .ref (x + 24), .int (nI n_4), .ref (x + 25), .int (nI il), .int (nI nx), .int ec, .int v_14, .int kn, .int v_15, .int nu, .long va]) := fset_at hΦ1
  have hI1 : Im G x (rd, NN, fl, pe, le, nx, il, qu, kn, ec, nu, va) Φ1 := Im.put0 hI hΦ1 ⟨0, v_2, v_3, n_1, v_4, v_5, v_6, v_7, v_8, v_9, v_10, v_11, v_12, n_2, v_13, n_3, n_4, v_14, v_15, rfl, b_12, (show 1 ≤ n_1 by omega), (show n_1 ≤ 1024 by omega), (show fl ≤ 12 by omega), (show pe ≤ 24 by omega), (show le ≤ 700 by omega), (show qu ≤ 12 by omega), (show n_2 ≤ 8 by omega), (show n_3 ≤ 24 by omega), (show n_4 ≤ 24 by omega), (show il ≤ 700 by omega), (show nx ≤ 701 by omega)⟩
  refine z_iload_n B dX12_setSeed_5 rfl 1 rfl ?_
  refine z_if_ge (tgt := 11) B dX12_setSeed_6 rfl (fun c_1 => ?_) (fun c_1 => ?_)
  · obtain ⟨n_5, e_1, rfl⟩ := nI_of (Int32.not_lt.mpr c_1)
    refine z_aload_n B dX12_setSeed_11 rfl 0 rfl ?_
    refine z_iload_n B dX12_setSeed_12 rfl 1 rfl ?_
    refine z_put (ref := "FlowExporterModel") (C := RX12) (T := TX12) (N := 54) (ci := 14) (v := .int (nI n_5)) B (by decide +kernel) tyX12 tyX12_ok nmX12 rfl 4 (by decide) (by decide +kernel) rfl (Or.inl rfl) h_3 hx rfl rfl (Nat.le_of_ble_eq_true rfl) dX12_setSeed_13 (fun Φ2 hΦ2 => ?_)
    have h_4 : Φ2 x = some (o_ 14 [.int 0, .ref (x + 1), .ref (x + 2), .int v_2, .int (nI n_5), .int (nI n_1), .int v_4, .int v_5, .ref (x + 3), .ref (x + 4), .int v_6, .long v_7, .ref (x + 5), .int (nI fl), .int v_8, .long v_9, .long v_10, .long v_11, .long v_12, .ref (x + 6), .ref (x + 7), .int (nI pe), .ref (x + 8), .int (nI le), .ref (x + 9), .ref (x + 10), .int (nI qu), .ref (x + 11), .ref (x + 12), .ref (x + 13), .ref (x + 14), .ref (x + 15), .ref (x + 16), .int (nI n_2), .long v_13, .ref (x + 17), .ref (x + 18), .ref (x + 19), .ref (x + 20), .ref (x + 21), .ref (x + 22), .int (nI n_3), .ref (x + 23), .ref (x + 24), .int (nI n_4), .ref (x + 25), .int (nI il), .int (nI nx), .int ec, .int v_14, .int kn, .int v_15, .int nu, .long va]) := fset_at hΦ2
    have hI2 : Im G x (rd, NN, fl, pe, le, nx, il, qu, kn, ec, nu, va) Φ2 := Im.put0 hI1 hΦ2 ⟨0, v_2, nI n_5, n_1, v_4, v_5, v_6, v_7, v_8, v_9, v_10, v_11, v_12, n_2, v_13, n_3, n_4, v_14, v_15, rfl, b_12, (show 1 ≤ n_1 by omega), (show n_1 ≤ 1024 by omega), (show fl ≤ 12 by omega), (show pe ≤ 24 by omega), (show le ≤ 700 by omega), (show qu ≤ 12 by omega), (show n_2 ≤ 8 by omega), (show n_3 ≤ 24 by omega), (show n_4 ≤ 24 by omega), (show il ≤ 700 by omega), (show nx ≤ 701 by omega)⟩
    refine z_iconst (v := 1) B dX12_setSeed_16 rfl ?_
    exact z_ret_z B dX12_setSeed_17 (by decide) ⟨⟨_, rfl, by decide⟩, rfl, hI2, (fun b9 h9 => ((fset_fr hΦ2 (fun h8 => h9 (0) h8 (show 0 = 0 by omega))).trans ((fset_fr hΦ1 (fun h8 => h9 (0) h8 (show 0 = 0 by omega))).trans rfl)))⟩
  · refine z_iconst (v := 0) B dX12_setSeed_9 rfl ?_
    exact z_ret_z B dX12_setSeed_10 (by decide) ⟨⟨_, rfl, by decide⟩, rfl, hI1, (fun b9 h9 => ((fset_fr hΦ1 (fun h8 => h9 (0) h8 (show 0 = 0 by omega))).trans rfl))⟩

set_option maxHeartbeats 4000000 in
set_option maxRecDepth 100000 in
theorem r_setAdaptive (G : EnvG) (l : Launch) (Φ : Hm) (sz x : Nat) (rd : (Nat → Int32) → Prop) (fl : Nat) (pe : Nat) (le : Nat) (nx : Nat) (il : Nat) (qu : Nat) (kn : Int32) (ec : Int32) (nu : Int32) (va : Int64) (a : Int32) (hx : G.2.2.2 ≤ x) (hI : Im G x (rd, NN, fl, pe, le, nx, il, qu, kn, ec, nu, va) Φ) (ha : a = 0 ∨ a = 1) : Ct G l yX12_setAdaptive wsX12_setAdaptive ({ frames := 0, cells := 0, slots := 0, locals := 0 }) 0 0 [.ref x, .int a] Φ sz (fun v Φ1 sz1 => (∃ r9 : Int32, v = some (.int r9) ∧ (r9 = 0 ∨ r9 = 1)) ∧ sz1 = sz ∧ (Im G x (rd, NN, fl, pe, le, nx, il, qu, kn, ec, nu, va) Φ1) ∧ Fr x (fun j9 => j9 = 0) Φ Φ1) := by
  refine Ct.of (cc := cX12_setAdaptive) (maxL := 3) (ret := (some .boolean)) (by decide) rfl (Nat.le_of_ble_eq_true rfl) ?_
  intro p9 e9 s9 m9 w9 t9 k9 B
  show Z p9 l e9 _ s9 m9 _ w9 t9 k9 _ G 3 0 [(0, .ref x), (1, .int a)] [] Φ sz 0 0
  refine z_aload_n B dX12_setAdaptive_0 rfl 0 rfl ?_
  refine z_iconst (v := 0) B dX12_setAdaptive_1 rfl ?_
  obtain ⟨v_1, v_2, v_3, n_1, v_4, v_5, v_6, v_7, v_8, v_9, v_10, v_11, v_12, n_2, v_13, n_3, n_4, v_14, v_15, h_1, b_12, b_1, b_2, b_3, b_4, b_5, b_6, b_7, b_8, b_9, b_10, b_11⟩ := im0 hI
  replace b_1 : 1 ≤ n_1 := b_1
  replace b_2 : n_1 ≤ 1024 := b_2
  replace b_3 : fl ≤ 12 := b_3
  replace b_4 : pe ≤ 24 := b_4
  replace b_5 : le ≤ 700 := b_5
  replace b_6 : qu ≤ 12 := b_6
  replace b_7 : n_2 ≤ 8 := b_7
  replace b_8 : n_3 ≤ 24 := b_8
  replace b_9 : n_4 ≤ 24 := b_9
  replace b_10 : il ≤ 700 := b_10
  replace b_11 : nx ≤ 701 := b_11
  have h_2 : Φ x = some (o_ 14 [.int v_1, .ref (x + 1), .ref (x + 2), .int v_2, .int v_3, .int (nI n_1), .int v_4, .int v_5, .ref (x + 3), .ref (x + 4), .int v_6, .long v_7, .ref (x + 5), .int (nI fl), .int v_8, .long v_9, .long v_10, .long v_11, .long v_12, .ref (x + 6), .ref (x + 7), .int (nI pe), .ref (x + 8), .int (nI le), .ref (x + 9), .ref (x + 10), .int (nI qu), .ref (x + 11), .ref (x + 12), .ref (x + 13), .ref (x + 14), .ref (x + 15), .ref (x + 16), .int (nI n_2), .long v_13, .ref (x + 17), .ref (x + 18), .ref (x + 19), .ref (x + 20), .ref (x + 21), .ref (x + 22), .int (nI n_3), .ref (x + 23), .ref (x + 24), .int (nI n_4), .ref (x + 25), .int (nI il), .int (nI nx), .int ec, .int v_14, .int kn, .int v_15, .int nu, .long va]) := h_1
  refine z_put (ref := "FlowExporterModel") (C := RX12) (T := TX12) (N := 54) (ci := 14) (v := .int 0) B (by decide +kernel) tyX12 tyX12_ok nmX12 rfl 0 (by decide) (by decide +kernel) rfl (Or.inl rfl) h_2 hx rfl rfl (Nat.le_of_ble_eq_true rfl) dX12_setAdaptive_2 (fun Φ1 hΦ1 => ?_)
  have h_3 : Φ1 x = some (o_ 14 [.int 0, .ref (x + 1), .ref (x + 2), .int v_2, .int v_3, .int (nI n_1), .int v_4, .int v_5, .ref (x + 3), .ref (x + 4), .int v_6, .long v_7, .ref (x + 5), .int (nI fl), .int v_8, .long v_9, .long v_10, .long v_11, .long v_12, .ref (x + 6), .ref (x + 7), .int (nI pe), .ref (x + 8), .int (nI le), .ref (x + 9), .ref (x + 10), .int (nI qu), .ref (x + 11), .ref (x + 12), .ref (x + 13), .ref (x + 14), .ref (x + 15), .ref (x + 16), .int (nI n_2), .long v_13, .ref (x + 17), .ref (x + 18), .ref (x + 19), .ref (x + 20), .ref (x + 21), .ref (x + 22), .int (nI n_3), .ref (x + 23), .ref (x + 24), .int (nI n_4), .ref (x + 25), .int (nI il), .int (nI nx), .int ec, .int v_14, .int kn, .int v_15, .int nu, .long va]) := fset_at hΦ1
  have hI1 : Im G x (rd, NN, fl, pe, le, nx, il, qu, kn, ec, nu, va) Φ1 := Im.put0 hI hΦ1 ⟨0, v_2, v_3, n_1, v_4, v_5, v_6, v_7, v_8, v_9, v_10, v_11, v_12, n_2, v_13, n_3, n_4, v_14, v_15, rfl, b_12, (show 1 ≤ n_1 by omega), (show n_1 ≤ 1024 by omega), (show fl ≤ 12 by omega), (show pe ≤ 24 by omega), (show le ≤ 700 by omega), (show qu ≤ 12 by omega), (show n_2 ≤ 8 by omega), (show n_3 ≤ 24 by omega), (show n_4 ≤ 24 by omega), (show il ≤ 700 by omega), (show nx ≤ 701 by omega)⟩
  refine z_aload_n B dX12_setAdaptive_5 rfl 0 rfl ?_
  refine z_get (ref := "FlowExporterModel") (C := RX12) (T := TX12) (N := 54) (ci := 14) (v := .int v_5) B (by decide +kernel) rfl 7 (by decide) (by decide +kernel) rfl h_3 rfl dX12_setAdaptive_6 ?_
  refine z_istore_n (lv' := [(2, .int v_5), (0, .ref x), (1, .int a)]) B dX12_setAdaptive_9 rfl (Nat.le_of_ble_eq_true rfl) rfl ?_
  refine z_aload_n B dX12_setAdaptive_10 rfl 1 rfl ?_
  refine z_iload_n B dX12_setAdaptive_11 rfl 2 rfl ?_
  refine z_put (ref := "FlowExporterModel") (C := RX12) (T := TX12) (N := 54) (ci := 14) (v := .int a) B (by decide +kernel) tyX12 tyX12_ok nmX12 rfl 7 (by decide) (by decide +kernel) rfl (Or.inl rfl) h_3 hx (nar_z ha) (fit_z ha) (Nat.le_of_ble_eq_true rfl) dX12_setAdaptive_12 (fun Φ2 hΦ2 => ?_)
  have h_4 : Φ2 x = some (o_ 14 [.int 0, .ref (x + 1), .ref (x + 2), .int v_2, .int v_3, .int (nI n_1), .int v_4, .int a, .ref (x + 3), .ref (x + 4), .int v_6, .long v_7, .ref (x + 5), .int (nI fl), .int v_8, .long v_9, .long v_10, .long v_11, .long v_12, .ref (x + 6), .ref (x + 7), .int (nI pe), .ref (x + 8), .int (nI le), .ref (x + 9), .ref (x + 10), .int (nI qu), .ref (x + 11), .ref (x + 12), .ref (x + 13), .ref (x + 14), .ref (x + 15), .ref (x + 16), .int (nI n_2), .long v_13, .ref (x + 17), .ref (x + 18), .ref (x + 19), .ref (x + 20), .ref (x + 21), .ref (x + 22), .int (nI n_3), .ref (x + 23), .ref (x + 24), .int (nI n_4), .ref (x + 25), .int (nI il), .int (nI nx), .int ec, .int v_14, .int kn, .int v_15, .int nu, .long va]) := fset_at hΦ2
  have hI2 : Im G x (rd, NN, fl, pe, le, nx, il, qu, kn, ec, nu, va) Φ2 := Im.put0 hI1 hΦ2 ⟨0, v_2, v_3, n_1, v_4, a, v_6, v_7, v_8, v_9, v_10, v_11, v_12, n_2, v_13, n_3, n_4, v_14, v_15, rfl, ha, (show 1 ≤ n_1 by omega), (show n_1 ≤ 1024 by omega), (show fl ≤ 12 by omega), (show pe ≤ 24 by omega), (show le ≤ 700 by omega), (show qu ≤ 12 by omega), (show n_2 ≤ 8 by omega), (show n_3 ≤ 24 by omega), (show n_4 ≤ 24 by omega), (show il ≤ 700 by omega), (show nx ≤ 701 by omega)⟩
  refine z_iload_n B dX12_setAdaptive_15 rfl 0 rfl ?_
  exact z_ret_z B dX12_setAdaptive_16 b_12 ⟨⟨_, rfl, b_12⟩, rfl, hI2, (fun b9 h9 => ((fset_fr hΦ2 (fun h8 => h9 (0) h8 (show 0 = 0 by omega))).trans ((fset_fr hΦ1 (fun h8 => h9 (0) h8 (show 0 = 0 by omega))).trans rfl)))⟩

set_option maxHeartbeats 4000000 in
set_option maxRecDepth 100000 in
theorem r_isTemplate (G : EnvG) (l : Launch) (Φ : Hm) (sz x : Nat) (rd : (Nat → Int32) → Prop) (fl : Nat) (pe : Nat) (le : Nat) (nx : Nat) (il : Nat) (qu : Nat) (kn : Int32) (ec : Int32) (nu : Int32) (va : Int64) (a : Int32) (hx : G.2.2.2 ≤ x) (hI : Im G x (rd, NN, fl, pe, le, nx, il, qu, kn, ec, nu, va) Φ)  : Ct G l yX12_isTemplate wsX12_isTemplate ({ frames := 1, cells := 0, slots := 0, locals := 25 }) 0 0 [.ref x, .int a] Φ sz (fun v Φ1 sz1 => (v = some (.int 0) ∨ (v = some (.int 1) ∧ (∃ n9 : Nat, n9 < 4 ∧ a = nI n9))) ∧ sz1 = sz ∧ (Im G x (rd, NN, fl, pe, le, nx, il, qu, kn, ec, nu, va) Φ1) ∧ Fr x (fun j9 => False) Φ Φ1) := by
  refine Ct.of (cc := cX12_isTemplate) (maxL := 2) (ret := (some .boolean)) (by decide) rfl (Nat.le_of_ble_eq_true rfl) ?_
  intro p9 e9 s9 m9 w9 t9 k9 B
  show Z p9 l e9 _ s9 m9 _ w9 t9 k9 _ G 2 0 [(0, .ref x), (1, .int a)] [] Φ sz 0 0
  refine z_iload_n B dX12_isTemplate_0 rfl 1 rfl ?_
  refine z_i2l (v := a.toInt64) B dX12_isTemplate_1 rfl ?_
  refine z_lconst (v := 0) B dX12_isTemplate_2 rfl ?_
  refine z_aload_n B dX12_isTemplate_3 rfl 0 rfl ?_
  obtain ⟨v_1, v_2, v_3, n_1, v_4, v_5, v_6, v_7, v_8, v_9, v_10, v_11, v_12, n_2, v_13, n_3, n_4, v_14, v_15, h_1, b_12, b_1, b_2, b_3, b_4, b_5, b_6, b_7, b_8, b_9, b_10, b_11⟩ := im0 hI
  replace b_1 : 1 ≤ n_1 := b_1
  replace b_2 : n_1 ≤ 1024 := b_2
  replace b_3 : fl ≤ 12 := b_3
  replace b_4 : pe ≤ 24 := b_4
  replace b_5 : le ≤ 700 := b_5
  replace b_6 : qu ≤ 12 := b_6
  replace b_7 : n_2 ≤ 8 := b_7
  replace b_8 : n_3 ≤ 24 := b_8
  replace b_9 : n_4 ≤ 24 := b_9
  replace b_10 : il ≤ 700 := b_10
  replace b_11 : nx ≤ 701 := b_11
  have h_2 : Φ x = some (o_ 14 [.int v_1, .ref (x + 1), .ref (x + 2), .int v_2, .int v_3, .int (nI n_1), .int v_4, .int v_5, .ref (x + 3), .ref (x + 4), .int v_6, .long v_7, .ref (x + 5), .int (nI fl), .int v_8, .long v_9, .long v_10, .long v_11, .long v_12, .ref (x + 6), .ref (x + 7), .int (nI pe), .ref (x + 8), .int (nI le), .ref (x + 9), .ref (x + 10), .int (nI qu), .ref (x + 11), .ref (x + 12), .ref (x + 13), .ref (x + 14), .ref (x + 15), .ref (x + 16), .int (nI n_2), .long v_13, .ref (x + 17), .ref (x + 18), .ref (x + 19), .ref (x + 20), .ref (x + 21), .ref (x + 22), .int (nI n_3), .ref (x + 23), .ref (x + 24), .int (nI n_4), .ref (x + 25), .int (nI il), .int (nI nx), .int ec, .int v_14, .int kn, .int v_15, .int nu, .long va]) := h_1
  refine z_get (ref := "FlowExporterModel") (C := RX12) (T := TX12) (N := 54) (ci := 14) (v := .ref (x + 2)) B (by decide +kernel) rfl 2 (by decide) (by decide +kernel) rfl h_2 rfl dX12_isTemplate_4 ?_
  refine z_bipush (v := 10) B dX12_isTemplate_7 rfl ?_
  obtain ⟨f_1, h_3, r_1⟩ := imk (k := 2) hI
  replace r_1 : NN f_1 := r_1
  have h_4 : Φ (x + 2) = some (ai_ G 307 f_1) := h_3
  refine z_iald B h_4 (vin rfl) dX12_isTemplate_9 ?_
  obtain ⟨n_5, b_13, e_1⟩ := r_1.2.2.2.2.1
  refine z_top (st1 := [.int (nI n_5), .long 0, .long a.toInt64]) (congrArg (fun w9 : Int32 => ([.int w9, .long 0, .long a.toInt64] : List Value)) (e_1)) ?_
  refine z_iconst (v := 1) B dX12_isTemplate_10 rfl ?_
  refine z_isub B dX12_isTemplate_11 ?_
  refine z_i2l (v := (nI n_5 - 1).toInt64) B dX12_isTemplate_12 rfl ?_
  by_cases hR1 : inP a.toInt64 0 ((nI n_5 - 1).toInt64)
  · obtain ⟨n_6, e_2, e_3, e_4, rfl⟩ := in_get (L := 0) (H := ((n_5 : Nat) : Int) - 1) (by decide) (predL (by omega)) hR1
    refine z_callS (As := [.long ((nI n_6).toInt64), .long 0, .long ((nI n_5 - 1).toInt64)]) (rest := []) B (c_inR1 G l Φ sz ((nI n_6).toInt64) 0 ((nI n_5 - 1).toInt64) hR1 (fun v8 Φ8 sz8 => v8 = some (.int 1) ∧ sz8 = sz ∧ Im G x (rd, NN, fl, pe, le, nx, il, qu, kn, ec, nu, va) Φ8 ∧ Fr x (fun j9 => False) Φ Φ8) ⟨rfl, rfl, hI, fun _ _ => rfl⟩) (va_cwS 3 B.1.2.2.2.2 gX12_isTemplate_X12_inRange rfl rfl rfl (by decide +kernel) ⟨Nat.le_of_ble_eq_true rfl, Nat.le_of_ble_eq_true rfl⟩) rfl rfl (Nat.le_of_ble_eq_true rfl) dX12_isTemplate_13 ⟨Nat.le_of_ble_eq_true rfl, Nat.le_of_ble_eq_true rfl⟩ (fun r_2 Φ1 sz1 st1 hp1 hs1 => ?_)
    obtain ⟨rfl, hq1, hI1, hF1⟩ := hp1
    subst sz1
    replace hs1 : st1 = [.int 1] := hs1
    subst st1
    exact z_ret_z B dX12_isTemplate_16 (by decide) ⟨(Or.inr ⟨rfl, ⟨n_6, (show n_6 < 4 by omega), rfl⟩⟩), rfl, hI1, (fun b9 h9 => ((hF1 b9 (fun j9 h8 h7 => (show False from h7).elim)).trans rfl))⟩
  · refine z_callS (As := [.long a.toInt64, .long 0, .long ((nI n_5 - 1).toInt64)]) (rest := []) B (c_inR0 G l Φ sz a.toInt64 0 ((nI n_5 - 1).toInt64) hR1 (fun v8 Φ8 sz8 => v8 = some (.int 0) ∧ sz8 = sz ∧ Im G x (rd, NN, fl, pe, le, nx, il, qu, kn, ec, nu, va) Φ8 ∧ Fr x (fun j9 => False) Φ Φ8) ⟨rfl, rfl, hI, fun _ _ => rfl⟩) (va_cwS 3 B.1.2.2.2.2 gX12_isTemplate_X12_inRange rfl rfl rfl (by decide +kernel) ⟨Nat.le_of_ble_eq_true rfl, Nat.le_of_ble_eq_true rfl⟩) rfl rfl (Nat.le_of_ble_eq_true rfl) dX12_isTemplate_13 ⟨Nat.le_of_ble_eq_true rfl, Nat.le_of_ble_eq_true rfl⟩ (fun r_3 Φ2 sz2 st2 hp2 hs2 => ?_)
    obtain ⟨rfl, hq2, hI2, hF2⟩ := hp2
    subst sz2
    replace hs2 : st2 = [.int 0] := hs2
    subst st2
    exact z_ret_z B dX12_isTemplate_16 (by decide) ⟨(Or.inl rfl), rfl, hI2, (fun b9 h9 => ((hF2 b9 (fun j9 h8 h7 => (show False from h7).elim)).trans rfl))⟩

set_option maxHeartbeats 4000000 in
set_option maxRecDepth 100000 in
theorem r_isMessage (G : EnvG) (l : Launch) (Φ : Hm) (sz x : Nat) (rd : (Nat → Int32) → Prop) (fl : Nat) (pe : Nat) (le : Nat) (nx : Nat) (il : Nat) (qu : Nat) (kn : Int32) (ec : Int32) (nu : Int32) (va : Int64) (a : Int32) (hx : G.2.2.2 ≤ x) (hI : Im G x (rd, NN, fl, pe, le, nx, il, qu, kn, ec, nu, va) Φ)  : Ct G l yX12_isMessage wsX12_isMessage ({ frames := 1, cells := 0, slots := 0, locals := 25 }) 0 0 [.ref x, .int a] Φ sz (fun v Φ1 sz1 => (v = some (.int 0) ∨ (v = some (.int 1) ∧ (∃ n9 : Nat, n9 < qu ∧ a = nI n9))) ∧ sz1 = sz ∧ (Im G x (rd, NN, fl, pe, le, nx, il, qu, kn, ec, nu, va) Φ1) ∧ Fr x (fun j9 => False) Φ Φ1) := by
  refine Ct.of (cc := cX12_isMessage) (maxL := 2) (ret := (some .boolean)) (by decide) rfl (Nat.le_of_ble_eq_true rfl) ?_
  intro p9 e9 s9 m9 w9 t9 k9 B
  show Z p9 l e9 _ s9 m9 _ w9 t9 k9 _ G 2 0 [(0, .ref x), (1, .int a)] [] Φ sz 0 0
  refine z_iload_n B dX12_isMessage_0 rfl 1 rfl ?_
  refine z_i2l (v := a.toInt64) B dX12_isMessage_1 rfl ?_
  refine z_lconst (v := 0) B dX12_isMessage_2 rfl ?_
  refine z_aload_n B dX12_isMessage_3 rfl 0 rfl ?_
  obtain ⟨v_1, v_2, v_3, n_1, v_4, v_5, v_6, v_7, v_8, v_9, v_10, v_11, v_12, n_2, v_13, n_3, n_4, v_14, v_15, h_1, b_12, b_1, b_2, b_3, b_4, b_5, b_6, b_7, b_8, b_9, b_10, b_11⟩ := im0 hI
  replace b_1 : 1 ≤ n_1 := b_1
  replace b_2 : n_1 ≤ 1024 := b_2
  replace b_3 : fl ≤ 12 := b_3
  replace b_4 : pe ≤ 24 := b_4
  replace b_5 : le ≤ 700 := b_5
  replace b_6 : qu ≤ 12 := b_6
  replace b_7 : n_2 ≤ 8 := b_7
  replace b_8 : n_3 ≤ 24 := b_8
  replace b_9 : n_4 ≤ 24 := b_9
  replace b_10 : il ≤ 700 := b_10
  replace b_11 : nx ≤ 701 := b_11
  have h_2 : Φ x = some (o_ 14 [.int v_1, .ref (x + 1), .ref (x + 2), .int v_2, .int v_3, .int (nI n_1), .int v_4, .int v_5, .ref (x + 3), .ref (x + 4), .int v_6, .long v_7, .ref (x + 5), .int (nI fl), .int v_8, .long v_9, .long v_10, .long v_11, .long v_12, .ref (x + 6), .ref (x + 7), .int (nI pe), .ref (x + 8), .int (nI le), .ref (x + 9), .ref (x + 10), .int (nI qu), .ref (x + 11), .ref (x + 12), .ref (x + 13), .ref (x + 14), .ref (x + 15), .ref (x + 16), .int (nI n_2), .long v_13, .ref (x + 17), .ref (x + 18), .ref (x + 19), .ref (x + 20), .ref (x + 21), .ref (x + 22), .int (nI n_3), .ref (x + 23), .ref (x + 24), .int (nI n_4), .ref (x + 25), .int (nI il), .int (nI nx), .int ec, .int v_14, .int kn, .int v_15, .int nu, .long va]) := h_1
  refine z_get (ref := "FlowExporterModel") (C := RX12) (T := TX12) (N := 54) (ci := 14) (v := .int (nI qu)) B (by decide +kernel) rfl 26 (by decide) (by decide +kernel) rfl h_2 rfl dX12_isMessage_4 ?_
  refine z_iconst (v := 1) B dX12_isMessage_7 rfl ?_
  refine z_isub B dX12_isMessage_8 ?_
  refine z_i2l (v := (nI qu - 1).toInt64) B dX12_isMessage_9 rfl ?_
  by_cases hR1 : inP a.toInt64 0 ((nI qu - 1).toInt64)
  · obtain ⟨n_5, e_1, e_2, e_3, rfl⟩ := in_get (L := 0) (H := ((qu : Nat) : Int) - 1) (by decide) (predL (by omega)) hR1
    refine z_callS (As := [.long ((nI n_5).toInt64), .long 0, .long ((nI qu - 1).toInt64)]) (rest := []) B (c_inR1 G l Φ sz ((nI n_5).toInt64) 0 ((nI qu - 1).toInt64) hR1 (fun v8 Φ8 sz8 => v8 = some (.int 1) ∧ sz8 = sz ∧ Im G x (rd, NN, fl, pe, le, nx, il, qu, kn, ec, nu, va) Φ8 ∧ Fr x (fun j9 => False) Φ Φ8) ⟨rfl, rfl, hI, fun _ _ => rfl⟩) (va_cwS 3 B.1.2.2.2.2 gX12_isMessage_X12_inRange rfl rfl rfl (by decide +kernel) ⟨Nat.le_of_ble_eq_true rfl, Nat.le_of_ble_eq_true rfl⟩) rfl rfl (Nat.le_of_ble_eq_true rfl) dX12_isMessage_10 ⟨Nat.le_of_ble_eq_true rfl, Nat.le_of_ble_eq_true rfl⟩ (fun r_1 Φ1 sz1 st1 hp1 hs1 => ?_)
    obtain ⟨rfl, hq1, hI1, hF1⟩ := hp1
    subst sz1
    replace hs1 : st1 = [.int 1] := hs1
    subst st1
    exact z_ret_z B dX12_isMessage_13 (by decide) ⟨(Or.inr ⟨rfl, ⟨n_5, (show n_5 < qu by omega), rfl⟩⟩), rfl, hI1, (fun b9 h9 => ((hF1 b9 (fun j9 h8 h7 => (show False from h7).elim)).trans rfl))⟩
  · refine z_callS (As := [.long a.toInt64, .long 0, .long ((nI qu - 1).toInt64)]) (rest := []) B (c_inR0 G l Φ sz a.toInt64 0 ((nI qu - 1).toInt64) hR1 (fun v8 Φ8 sz8 => v8 = some (.int 0) ∧ sz8 = sz ∧ Im G x (rd, NN, fl, pe, le, nx, il, qu, kn, ec, nu, va) Φ8 ∧ Fr x (fun j9 => False) Φ Φ8) ⟨rfl, rfl, hI, fun _ _ => rfl⟩) (va_cwS 3 B.1.2.2.2.2 gX12_isMessage_X12_inRange rfl rfl rfl (by decide +kernel) ⟨Nat.le_of_ble_eq_true rfl, Nat.le_of_ble_eq_true rfl⟩) rfl rfl (Nat.le_of_ble_eq_true rfl) dX12_isMessage_10 ⟨Nat.le_of_ble_eq_true rfl, Nat.le_of_ble_eq_true rfl⟩ (fun r_2 Φ2 sz2 st2 hp2 hs2 => ?_)
    obtain ⟨rfl, hq2, hI2, hF2⟩ := hp2
    subst sz2
    replace hs2 : st2 = [.int 0] := hs2
    subst st2
    exact z_ret_z B dX12_isMessage_13 (by decide) ⟨(Or.inl rfl), rfl, hI2, (fun b9 h9 => ((hF2 b9 (fun j9 h8 h7 => (show False from h7).elim)).trans rfl))⟩

set_option maxHeartbeats 4000000 in
set_option maxRecDepth 100000 in
theorem r_isKey (G : EnvG) (l : Launch) (Φ : Hm) (sz x : Nat) (rd : (Nat → Int32) → Prop) (fl : Nat) (pe : Nat) (le : Nat) (nx : Nat) (il : Nat) (qu : Nat) (kn : Int32) (ec : Int32) (nu : Int32) (va : Int64) (a : Int32) (hx : G.2.2.2 ≤ x) (hI : Im G x (rd, NN, fl, pe, le, nx, il, qu, kn, ec, nu, va) Φ)  : Ct G l yX12_isKey wsX12_isKey ({ frames := 1, cells := 0, slots := 0, locals := 25 }) 0 0 [.ref x, .int a] Φ sz (fun v Φ1 sz1 => (v = some (.int 0) ∨ (v = some (.int 1) ∧ (∃ n9 : Nat, n9 < 24 ∧ a = nI n9))) ∧ sz1 = sz ∧ (Im G x (rd, NN, fl, pe, le, nx, il, qu, kn, ec, nu, va) Φ1) ∧ Fr x (fun j9 => False) Φ Φ1) := by
  refine Ct.of (cc := cX12_isKey) (maxL := 2) (ret := (some .boolean)) (by decide) rfl (Nat.le_of_ble_eq_true rfl) ?_
  intro p9 e9 s9 m9 w9 t9 k9 B
  show Z p9 l e9 _ s9 m9 _ w9 t9 k9 _ G 2 0 [(0, .ref x), (1, .int a)] [] Φ sz 0 0
  refine z_iload_n B dX12_isKey_0 rfl 1 rfl ?_
  refine z_i2l (v := a.toInt64) B dX12_isKey_1 rfl ?_
  refine z_lconst (v := 0) B dX12_isKey_2 rfl ?_
  refine z_aload_n B dX12_isKey_3 rfl 0 rfl ?_
  obtain ⟨v_1, v_2, v_3, n_1, v_4, v_5, v_6, v_7, v_8, v_9, v_10, v_11, v_12, n_2, v_13, n_3, n_4, v_14, v_15, h_1, b_12, b_1, b_2, b_3, b_4, b_5, b_6, b_7, b_8, b_9, b_10, b_11⟩ := im0 hI
  replace b_1 : 1 ≤ n_1 := b_1
  replace b_2 : n_1 ≤ 1024 := b_2
  replace b_3 : fl ≤ 12 := b_3
  replace b_4 : pe ≤ 24 := b_4
  replace b_5 : le ≤ 700 := b_5
  replace b_6 : qu ≤ 12 := b_6
  replace b_7 : n_2 ≤ 8 := b_7
  replace b_8 : n_3 ≤ 24 := b_8
  replace b_9 : n_4 ≤ 24 := b_9
  replace b_10 : il ≤ 700 := b_10
  replace b_11 : nx ≤ 701 := b_11
  have h_2 : Φ x = some (o_ 14 [.int v_1, .ref (x + 1), .ref (x + 2), .int v_2, .int v_3, .int (nI n_1), .int v_4, .int v_5, .ref (x + 3), .ref (x + 4), .int v_6, .long v_7, .ref (x + 5), .int (nI fl), .int v_8, .long v_9, .long v_10, .long v_11, .long v_12, .ref (x + 6), .ref (x + 7), .int (nI pe), .ref (x + 8), .int (nI le), .ref (x + 9), .ref (x + 10), .int (nI qu), .ref (x + 11), .ref (x + 12), .ref (x + 13), .ref (x + 14), .ref (x + 15), .ref (x + 16), .int (nI n_2), .long v_13, .ref (x + 17), .ref (x + 18), .ref (x + 19), .ref (x + 20), .ref (x + 21), .ref (x + 22), .int (nI n_3), .ref (x + 23), .ref (x + 24), .int (nI n_4), .ref (x + 25), .int (nI il), .int (nI nx), .int ec, .int v_14, .int kn, .int v_15, .int nu, .long va]) := h_1
  refine z_get (ref := "FlowExporterModel") (C := RX12) (T := TX12) (N := 54) (ci := 14) (v := .int (nI n_3)) B (by decide +kernel) rfl 41 (by decide) (by decide +kernel) rfl h_2 rfl dX12_isKey_4 ?_
  refine z_iconst (v := 1) B dX12_isKey_7 rfl ?_
  refine z_isub B dX12_isKey_8 ?_
  refine z_i2l (v := (nI n_3 - 1).toInt64) B dX12_isKey_9 rfl ?_
  by_cases hR1 : inP a.toInt64 0 ((nI n_3 - 1).toInt64)
  · obtain ⟨n_5, e_1, e_2, e_3, rfl⟩ := in_get (L := 0) (H := ((n_3 : Nat) : Int) - 1) (by decide) (predL (by omega)) hR1
    refine z_callS (As := [.long ((nI n_5).toInt64), .long 0, .long ((nI n_3 - 1).toInt64)]) (rest := []) B (c_inR1 G l Φ sz ((nI n_5).toInt64) 0 ((nI n_3 - 1).toInt64) hR1 (fun v8 Φ8 sz8 => v8 = some (.int 1) ∧ sz8 = sz ∧ Im G x (rd, NN, fl, pe, le, nx, il, qu, kn, ec, nu, va) Φ8 ∧ Fr x (fun j9 => False) Φ Φ8) ⟨rfl, rfl, hI, fun _ _ => rfl⟩) (va_cwS 3 B.1.2.2.2.2 gX12_isKey_X12_inRange rfl rfl rfl (by decide +kernel) ⟨Nat.le_of_ble_eq_true rfl, Nat.le_of_ble_eq_true rfl⟩) rfl rfl (Nat.le_of_ble_eq_true rfl) dX12_isKey_10 ⟨Nat.le_of_ble_eq_true rfl, Nat.le_of_ble_eq_true rfl⟩ (fun r_1 Φ1 sz1 st1 hp1 hs1 => ?_)
    obtain ⟨rfl, hq1, hI1, hF1⟩ := hp1
    subst sz1
    replace hs1 : st1 = [.int 1] := hs1
    subst st1
    exact z_ret_z B dX12_isKey_13 (by decide) ⟨(Or.inr ⟨rfl, ⟨n_5, (show n_5 < 24 by omega), rfl⟩⟩), rfl, hI1, (fun b9 h9 => ((hF1 b9 (fun j9 h8 h7 => (show False from h7).elim)).trans rfl))⟩
  · refine z_callS (As := [.long a.toInt64, .long 0, .long ((nI n_3 - 1).toInt64)]) (rest := []) B (c_inR0 G l Φ sz a.toInt64 0 ((nI n_3 - 1).toInt64) hR1 (fun v8 Φ8 sz8 => v8 = some (.int 0) ∧ sz8 = sz ∧ Im G x (rd, NN, fl, pe, le, nx, il, qu, kn, ec, nu, va) Φ8 ∧ Fr x (fun j9 => False) Φ Φ8) ⟨rfl, rfl, hI, fun _ _ => rfl⟩) (va_cwS 3 B.1.2.2.2.2 gX12_isKey_X12_inRange rfl rfl rfl (by decide +kernel) ⟨Nat.le_of_ble_eq_true rfl, Nat.le_of_ble_eq_true rfl⟩) rfl rfl (Nat.le_of_ble_eq_true rfl) dX12_isKey_10 ⟨Nat.le_of_ble_eq_true rfl, Nat.le_of_ble_eq_true rfl⟩ (fun r_2 Φ2 sz2 st2 hp2 hs2 => ?_)
    obtain ⟨rfl, hq2, hI2, hF2⟩ := hp2
    subst sz2
    replace hs2 : st2 = [.int 0] := hs2
    subst st2
    exact z_ret_z B dX12_isKey_13 (by decide) ⟨(Or.inl rfl), rfl, hI2, (fun b9 h9 => ((hF2 b9 (fun j9 h8 h7 => (show False from h7).elim)).trans rfl))⟩

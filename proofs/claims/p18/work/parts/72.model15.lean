set_option maxHeartbeats 4000000 in
set_option maxRecDepth 100000 in
theorem r_fail (G : EnvG) (l : Launch) (Φ : Hm) (sz x : Nat) (rd : (Nat → Int32) → Prop) (fl : Nat) (pe : Nat) (le : Nat) (nx : Nat) (il : Nat) (qu : Nat) (kn : Int32) (ec : Int32) (nu : Int32) (va : Int64) (a : Int32) (hx : G.2.2.2 ≤ x) (hI : Im G x (rd, NN, fl, pe, le, nx, il, qu, kn, ec, nu, va) Φ)  : Ct G l yX12_fail wsX12_fail ({ frames := 0, cells := 0, slots := 0, locals := 0 }) 0 0 [.ref x, .int a] Φ sz (fun v Φ1 sz1 => (v = some (.int 0)) ∧ sz1 = sz ∧ (Im G x (rd, NN, fl, pe, le, nx, il, qu, kn, a, nu, va) Φ1) ∧ Fr x (fun j9 => j9 = 0) Φ Φ1) := by
  refine Ct.of (cc := cX12_fail) (maxL := 2) (ret := (some .boolean)) (by decide) rfl (Nat.le_of_ble_eq_true rfl) ?_
  intro p9 e9 s9 m9 w9 t9 k9 B
  show Z p9 l e9 _ s9 m9 _ w9 t9 k9 _ G 2 0 [(0, .ref x), (1, .int a)] [] Φ sz 0 0
  refine z_aload_n B dX12_fail_0 rfl 0 rfl ?_
  refine z_iload_n B dX12_fail_1 rfl 1 rfl ?_
  obtain ⟨v_1, v_2, v_3, n_1, v_4, v_5, v_6, v_7, v_8, v_9, v_10, v_11, v_12, n_2, v_13, n_3, n_4, v_14, v_15, h_1, b_12, b_1, b_2, b_3, b_4, b_5, b_6, b_7, b_8, b_9, b_10, b_11⟩ := im0 hI
  replace b_1 : 1 ≤ n_1 := b_1
  replace b_2 : n_1 ≤ 1024 := b_2
  replace b_3 : fl ≤ 12 := b_3
  replace b_4 : pe ≤ 24 := b_4
  replace b_5 : le ≤ 700 := b_5
  replace b_6 : qu ≤ 12 := b_6
  replace b_7 : n_2 ≤ 8 := b_7
  replace b_8 : n_3 ≤ 24 := b_8
  replace b_9 : n_4 ≤ 24 := b_9
  replace b_10 : il ≤ 700 := b_10
  replace b_11 : nx ≤ 701 := b_11
  have h_2 : Φ x = some (o_ 14 [.int v_1, .ref (x + 1), .ref (x + 2), .int v_2, .int v_3, .int (nI n_1), .int v_4, .int v_5, .ref (x + 3), .ref (x + 4), .int v_6, .long v_7, .ref (x + 5), .int (nI fl), .int v_8, .long v_9, .long v_10, .long v_11, .long v_12, .ref (x + 6), .ref (x + 7), .int (nI pe), .ref (x + 8), .int (nI le), .ref (x + 9), .ref (x + 10), .int (nI qu), .ref (x + 11), .ref (x + 12), .ref (x + 13), .ref (x + 14), .ref (x + 15), .ref (x + 16), .int (nI n_2), .long v_13, .ref (x + 17), .ref (x + 18), .ref (x + 19), .ref (x + 20), .ref (x + 21), .ref (x + 22), .int (nI n_3), .ref (x + 23), .ref (x + 24), .int (nI n_4), .ref (x + 25), .int (nI il), .int (nI nx), .int ec, .int v_14, .int kn, .int v_15, .int nu, .long va]) := h_1
  refine z_put (ref := "FlowExporterModel") (C := RX12) (T := TX12) (N := 54) (ci := 14) (v := .int a) B (by decide +kernel) tyX12 tyX12_ok nmX12 rfl 48 (by decide) (by decide +kernel) rfl (Or.inl rfl) h_2 hx rfl rfl (Nat.le_of_ble_eq_true rfl) dX12_fail_2 (fun Φ1 hΦ1 => ?_)
  have h_3 : Φ1 x = some (o_ 14 [.int v_1, .ref (x + 1), .ref (x + 2), .int v_2, .int v_3, .int (nI n_1), .int v_4, .int v_5, .ref (x + 3), .ref (x + 4), .int v_6, .long v_7, .ref (x + 5), .int (nI fl), .int v_8, .long v_9, .long v_10, .long v_11, .long v_12, .ref (x + 6), .ref (x + 7), .int (nI pe), .ref (x + 8), .int (nI le), .ref (x + 9), .ref (x + 10), .int (nI qu), .ref (x + 11), .ref (x + 12), .ref (x + 13), .ref (x + 14), .ref (x + 15), .ref (x + 16), .int (nI n_2), .long v_13, .ref (x + 17), .ref (x + 18), .ref (x + 19), .ref (x + 20), .ref (x + 21), .ref (x + 22), .int (nI n_3), .ref (x + 23), .ref (x + 24), .int (nI n_4), .ref (x + 25), .int (nI il), .int (nI nx), .int a, .int v_14, .int kn, .int v_15, .int nu, .long va]) := fset_at hΦ1
  have hI1 : Im G x (rd, NN, fl, pe, le, nx, il, qu, kn, a, nu, va) Φ1 := Im.put0 hI hΦ1 ⟨v_1, v_2, v_3, n_1, v_4, v_5, v_6, v_7, v_8, v_9, v_10, v_11, v_12, n_2, v_13, n_3, n_4, v_14, v_15, rfl, b_12, (show 1 ≤ n_1 by omega), (show n_1 ≤ 1024 by omega), (show fl ≤ 12 by omega), (show pe ≤ 24 by omega), (show le ≤ 700 by omega), (show qu ≤ 12 by omega), (show n_2 ≤ 8 by omega), (show n_3 ≤ 24 by omega), (show n_4 ≤ 24 by omega), (show il ≤ 700 by omega), (show nx ≤ 701 by omega)⟩
  refine z_aload_n B dX12_fail_5 rfl 0 rfl ?_
  refine z_aload_n B dX12_fail_6 rfl 0 rfl ?_
  refine z_get (ref := "FlowExporterModel") (C := RX12) (T := TX12) (N := 54) (ci := 14) (v := .int v_15) B (by decide +kernel) rfl 51 (by decide) (by decide +kernel) rfl h_3 rfl dX12_fail_7 ?_
  refine z_put (ref := "FlowExporterModel") (C := RX12) (T := TX12) (N := 54) (ci := 14) (v := .int v_15) B (by decide +kernel) tyX12 tyX12_ok nmX12 rfl 49 (by decide) (by decide +kernel) rfl (Or.inl rfl) h_3 hx rfl rfl (Nat.le_of_ble_eq_true rfl) dX12_fail_10 (fun Φ2 hΦ2 => ?_)
  have h_4 : Φ2 x = some (o_ 14 [.int v_1, .ref (x + 1), .ref (x + 2), .int v_2, .int v_3, .int (nI n_1), .int v_4, .int v_5, .ref (x + 3), .ref (x + 4), .int v_6, .long v_7, .ref (x + 5), .int (nI fl), .int v_8, .long v_9, .long v_10, .long v_11, .long v_12, .ref (x + 6), .ref (x + 7), .int (nI pe), .ref (x + 8), .int (nI le), .ref (x + 9), .ref (x + 10), .int (nI qu), .ref (x + 11), .ref (x + 12), .ref (x + 13), .ref (x + 14), .ref (x + 15), .ref (x + 16), .int (nI n_2), .long v_13, .ref (x + 17), .ref (x + 18), .ref (x + 19), .ref (x + 20), .ref (x + 21), .ref (x + 22), .int (nI n_3), .ref (x + 23), .ref (x + 24), .int (nI n_4), .ref (x + 25), .int (nI il), .int (nI nx), .int a, .int v_15, .int kn, .int v_15, .int nu, .long va]) := fset_at hΦ2
  have hI2 : Im G x (rd, NN, fl, pe, le, nx, il, qu, kn, a, nu, va) Φ2 := Im.put0 hI1 hΦ2 ⟨v_1, v_2, v_3, n_1, v_4, v_5, v_6, v_7, v_8, v_9, v_10, v_11, v_12, n_2, v_13, n_3, n_4, v_15, v_15, rfl, b_12, (show 1 ≤ n_1 by omega), (show n_1 ≤ 1024 by omega), (show fl ≤ 12 by omega), (show pe ≤ 24 by omega), (show le ≤ 700 by omega), (show qu ≤ 12 by omega), (show n_2 ≤ 8 by omega), (show n_3 ≤ 24 by omega), (show n_4 ≤ 24 by omega), (show il ≤ 700 by omega), (show nx ≤ 701 by omega)⟩
  refine z_iconst (v := 0) B dX12_fail_13 rfl ?_
  exact z_ret_z B dX12_fail_14 (by decide) ⟨rfl, rfl, hI2, (fun b9 h9 => ((fset_fr hΦ2 (fun h8 => h9 (0) h8 (show 0 = 0 by omega))).trans ((fset_fr hΦ1 (fun h8 => h9 (0) h8 (show 0 = 0 by omega))).trans rfl)))⟩

set_option maxHeartbeats 4000000 in
set_option maxRecDepth 100000 in
theorem r_pack_97_99_116_105_118_101 (G : EnvG) (l : Launch) (Φ : Hm) (sz x : Nat) (rd : (Nat → Int32) → Prop) (fl : Nat) (pe : Nat) (le : Nat) (nx : Nat) (il : Nat) (qu : Nat) (kn : Int32) (ec : Int32) (nu : Int32) (va : Int64)  (hx : G.2.2.2 ≤ x) (hI : Im G x (rd, NN, fl, pe, le, nx, il, qu, kn, ec, nu, va) Φ)  : Ct G l yX12_pack wsX12_pack ({ frames := 0, cells := 0, slots := 0, locals := 0 }) 0 0 [.int 97, .int 99, .int 116, .int 105, .int 118, .int 101] Φ sz (fun v Φ1 sz1 => (v = some (.long 37365445)) ∧ sz1 = sz ∧ (Im G x (rd, NN, fl, pe, le, nx, il, qu, kn, ec, nu, va) Φ1) ∧ Fr x (fun j9 => False) Φ Φ1) := by
  refine Ct.of (cc := cX12_pack) (maxL := 8) (ret := (some .long)) (by decide) rfl (Nat.le_of_ble_eq_true rfl) ?_
  intro p9 e9 s9 m9 w9 t9 k9 B
  show Z p9 l e9 _ s9 m9 _ w9 t9 k9 _ G 8 0 [(0, .int 97), (1, .int 99), (2, .int 116), (3, .int 105), (4, .int 118), (5, .int 101)] [] Φ sz 0 0
  refine z_iload_n B dX12_pack_0 rfl 0 rfl ?_
  refine z_i2l (v := 97) B dX12_pack_1 (by decide +kernel) ?_
  refine z_ldc2 (v := 96) B (by decide +kernel) dX12_pack_2 ?_
  refine z_lsub B dX12_pack_5 ?_
  refine z_top (st1 := [.long 1]) (congrArg (fun w9 : Int64 => ([.long w9] : List Value)) (show (97 - 96 : Int64) = 1 by decide +kernel)) ?_
  refine z_ldc2 (v := 32) B (by decide +kernel) dX12_pack_6 ?_
  refine z_lmul B dX12_pack_9 ?_
  refine z_top (st1 := [.long 32]) (congrArg (fun w9 : Int64 => ([.long w9] : List Value)) (show (1 * 32 : Int64) = 32 by decide +kernel)) ?_
  refine z_iload_n B dX12_pack_10 rfl 1 rfl ?_
  refine z_i2l (v := 99) B dX12_pack_11 (by decide +kernel) ?_
  refine z_ladd B dX12_pack_12 ?_
  refine z_top (st1 := [.long 131]) (congrArg (fun w9 : Int64 => ([.long w9] : List Value)) (show (32 + 99 : Int64) = 131 by decide +kernel)) ?_
  refine z_ldc2 (v := 96) B (by decide +kernel) dX12_pack_13 ?_
  refine z_lsub B dX12_pack_16 ?_
  refine z_top (st1 := [.long 35]) (congrArg (fun w9 : Int64 => ([.long w9] : List Value)) (show (131 - 96 : Int64) = 35 by decide +kernel)) ?_
  refine z_ldc2 (v := 32) B (by decide +kernel) dX12_pack_17 ?_
  refine z_lmul B dX12_pack_20 ?_
  refine z_top (st1 := [.long 1120]) (congrArg (fun w9 : Int64 => ([.long w9] : List Value)) (show (35 * 32 : Int64) = 1120 by decide +kernel)) ?_
  refine z_iload_n B dX12_pack_21 rfl 2 rfl ?_
  refine z_i2l (v := 116) B dX12_pack_22 (by decide +kernel) ?_
  refine z_ladd B dX12_pack_23 ?_
  refine z_top (st1 := [.long 1236]) (congrArg (fun w9 : Int64 => ([.long w9] : List Value)) (show (1120 + 116 : Int64) = 1236 by decide +kernel)) ?_
  refine z_ldc2 (v := 96) B (by decide +kernel) dX12_pack_24 ?_
  refine z_lsub B dX12_pack_27 ?_
  refine z_top (st1 := [.long 1140]) (congrArg (fun w9 : Int64 => ([.long w9] : List Value)) (show (1236 - 96 : Int64) = 1140 by decide +kernel)) ?_
  refine z_lstore (lv' := [(6, .long 1140), (0, .int 97), (1, .int 99), (2, .int 116), (3, .int 105), (4, .int 118), (5, .int 101)]) B dX12_pack_28 (Nat.le_of_ble_eq_true rfl) rfl ?_
  refine z_iload_n B dX12_pack_30 rfl 4 rfl ?_
  refine z_if_ne (tgt := 39) B dX12_pack_31 rfl (fun c_1 => ?_) (fun h9 => absurd h9 (by decide))
  refine z_lload B dX12_pack_39 0 rfl ?_
  refine z_ldc2 (v := 32) B (by decide +kernel) dX12_pack_41 ?_
  refine z_lmul B dX12_pack_44 ?_
  refine z_top (st1 := [.long 36480]) (congrArg (fun w9 : Int64 => ([.long w9] : List Value)) (show (1140 * 32 : Int64) = 36480 by decide +kernel)) ?_
  refine z_iload_n B dX12_pack_45 rfl 4 rfl ?_
  refine z_i2l (v := 105) B dX12_pack_46 (by decide +kernel) ?_
  refine z_ladd B dX12_pack_47 ?_
  refine z_top (st1 := [.long 36585]) (congrArg (fun w9 : Int64 => ([.long w9] : List Value)) (show (36480 + 105 : Int64) = 36585 by decide +kernel)) ?_
  refine z_ldc2 (v := 96) B (by decide +kernel) dX12_pack_48 ?_
  refine z_lsub B dX12_pack_51 ?_
  refine z_top (st1 := [.long 36489]) (congrArg (fun w9 : Int64 => ([.long w9] : List Value)) (show (36585 - 96 : Int64) = 36489 by decide +kernel)) ?_
  refine z_lstore (lv' := [(6, .long 36489), (0, .int 97), (1, .int 99), (2, .int 116), (3, .int 105), (4, .int 118), (5, .int 101)]) B dX12_pack_52 (Nat.le_of_ble_eq_true rfl) rfl ?_
  refine z_iload B dX12_pack_54 5 rfl ?_
  refine z_if_ne (tgt := 64) B dX12_pack_56 rfl (fun c_2 => ?_) (fun h9 => absurd h9 (by decide))
  refine z_lload B dX12_pack_64 0 rfl ?_
  refine z_ldc2 (v := 32) B (by decide +kernel) dX12_pack_66 ?_
  refine z_lmul B dX12_pack_69 ?_
  refine z_top (st1 := [.long 1167648]) (congrArg (fun w9 : Int64 => ([.long w9] : List Value)) (show (36489 * 32 : Int64) = 1167648 by decide +kernel)) ?_
  refine z_iload B dX12_pack_70 5 rfl ?_
  refine z_i2l (v := 118) B dX12_pack_72 (by decide +kernel) ?_
  refine z_ladd B dX12_pack_73 ?_
  refine z_top (st1 := [.long 1167766]) (congrArg (fun w9 : Int64 => ([.long w9] : List Value)) (show (1167648 + 118 : Int64) = 1167766 by decide +kernel)) ?_
  refine z_ldc2 (v := 96) B (by decide +kernel) dX12_pack_74 ?_
  refine z_lsub B dX12_pack_77 ?_
  refine z_top (st1 := [.long 1167670]) (congrArg (fun w9 : Int64 => ([.long w9] : List Value)) (show (1167766 - 96 : Int64) = 1167670 by decide +kernel)) ?_
  refine z_lstore (lv' := [(6, .long 1167670), (0, .int 97), (1, .int 99), (2, .int 116), (3, .int 105), (4, .int 118), (5, .int 101)]) B dX12_pack_78 (Nat.le_of_ble_eq_true rfl) rfl ?_
  refine z_iload B dX12_pack_80 6 rfl ?_
  refine z_if_ne (tgt := 90) B dX12_pack_82 rfl (fun c_3 => ?_) (fun h9 => absurd h9 (by decide))
  refine z_lload B dX12_pack_90 0 rfl ?_
  refine z_ldc2 (v := 32) B (by decide +kernel) dX12_pack_92 ?_
  refine z_lmul B dX12_pack_95 ?_
  refine z_top (st1 := [.long 37365440]) (congrArg (fun w9 : Int64 => ([.long w9] : List Value)) (show (1167670 * 32 : Int64) = 37365440 by decide +kernel)) ?_
  refine z_iload B dX12_pack_96 6 rfl ?_
  refine z_i2l (v := 101) B dX12_pack_98 (by decide +kernel) ?_
  refine z_ladd B dX12_pack_99 ?_
  refine z_top (st1 := [.long 37365541]) (congrArg (fun w9 : Int64 => ([.long w9] : List Value)) (show (37365440 + 101 : Int64) = 37365541 by decide +kernel)) ?_
  refine z_ldc2 (v := 96) B (by decide +kernel) dX12_pack_100 ?_
  refine z_lsub B dX12_pack_103 ?_
  refine z_top (st1 := [.long 37365445]) (congrArg (fun w9 : Int64 => ([.long w9] : List Value)) (show (37365541 - 96 : Int64) = 37365445 by decide +kernel)) ?_
  exact z_ret_l B dX12_pack_104 ⟨rfl, rfl, hI, (fun b9 h9 => rfl)⟩

set_option maxHeartbeats 4000000 in
set_option maxRecDepth 100000 in
theorem r_pack_97_115_115_117_109_101 (G : EnvG) (l : Launch) (Φ : Hm) (sz x : Nat) (rd : (Nat → Int32) → Prop) (fl : Nat) (pe : Nat) (le : Nat) (nx : Nat) (il : Nat) (qu : Nat) (kn : Int32) (ec : Int32) (nu : Int32) (va : Int64)  (hx : G.2.2.2 ≤ x) (hI : Im G x (rd, NN, fl, pe, le, nx, il, qu, kn, ec, nu, va) Φ)  : Ct G l yX12_pack wsX12_pack ({ frames := 0, cells := 0, slots := 0, locals := 0 }) 0 0 [.int 97, .int 115, .int 115, .int 117, .int 109, .int 101] Φ sz (fun v Φ1 sz1 => (v = some (.long 54121893)) ∧ sz1 = sz ∧ (Im G x (rd, NN, fl, pe, le, nx, il, qu, kn, ec, nu, va) Φ1) ∧ Fr x (fun j9 => False) Φ Φ1) := by
  refine Ct.of (cc := cX12_pack) (maxL := 8) (ret := (some .long)) (by decide) rfl (Nat.le_of_ble_eq_true rfl) ?_
  intro p9 e9 s9 m9 w9 t9 k9 B
  show Z p9 l e9 _ s9 m9 _ w9 t9 k9 _ G 8 0 [(0, .int 97), (1, .int 115), (2, .int 115), (3, .int 117), (4, .int 109), (5, .int 101)] [] Φ sz 0 0
  refine z_iload_n B dX12_pack_0 rfl 0 rfl ?_
  refine z_i2l (v := 97) B dX12_pack_1 (by decide +kernel) ?_
  refine z_ldc2 (v := 96) B (by decide +kernel) dX12_pack_2 ?_
  refine z_lsub B dX12_pack_5 ?_
  refine z_top (st1 := [.long 1]) (congrArg (fun w9 : Int64 => ([.long w9] : List Value)) (show (97 - 96 : Int64) = 1 by decide +kernel)) ?_
  refine z_ldc2 (v := 32) B (by decide +kernel) dX12_pack_6 ?_
  refine z_lmul B dX12_pack_9 ?_
  refine z_top (st1 := [.long 32]) (congrArg (fun w9 : Int64 => ([.long w9] : List Value)) (show (1 * 32 : Int64) = 32 by decide +kernel)) ?_
  refine z_iload_n B dX12_pack_10 rfl 1 rfl ?_
  refine z_i2l (v := 115) B dX12_pack_11 (by decide +kernel) ?_
  refine z_ladd B dX12_pack_12 ?_
  refine z_top (st1 := [.long 147]) (congrArg (fun w9 : Int64 => ([.long w9] : List Value)) (show (32 + 115 : Int64) = 147 by decide +kernel)) ?_
  refine z_ldc2 (v := 96) B (by decide +kernel) dX12_pack_13 ?_
  refine z_lsub B dX12_pack_16 ?_
  refine z_top (st1 := [.long 51]) (congrArg (fun w9 : Int64 => ([.long w9] : List Value)) (show (147 - 96 : Int64) = 51 by decide +kernel)) ?_
  refine z_ldc2 (v := 32) B (by decide +kernel) dX12_pack_17 ?_
  refine z_lmul B dX12_pack_20 ?_
  refine z_top (st1 := [.long 1632]) (congrArg (fun w9 : Int64 => ([.long w9] : List Value)) (show (51 * 32 : Int64) = 1632 by decide +kernel)) ?_
  refine z_iload_n B dX12_pack_21 rfl 2 rfl ?_
  refine z_i2l (v := 115) B dX12_pack_22 (by decide +kernel) ?_
  refine z_ladd B dX12_pack_23 ?_
  refine z_top (st1 := [.long 1747]) (congrArg (fun w9 : Int64 => ([.long w9] : List Value)) (show (1632 + 115 : Int64) = 1747 by decide +kernel)) ?_
  refine z_ldc2 (v := 96) B (by decide +kernel) dX12_pack_24 ?_
  refine z_lsub B dX12_pack_27 ?_
  refine z_top (st1 := [.long 1651]) (congrArg (fun w9 : Int64 => ([.long w9] : List Value)) (show (1747 - 96 : Int64) = 1651 by decide +kernel)) ?_
  refine z_lstore (lv' := [(6, .long 1651), (0, .int 97), (1, .int 115), (2, .int 115), (3, .int 117), (4, .int 109), (5, .int 101)]) B dX12_pack_28 (Nat.le_of_ble_eq_true rfl) rfl ?_
  refine z_iload_n B dX12_pack_30 rfl 4 rfl ?_
  refine z_if_ne (tgt := 39) B dX12_pack_31 rfl (fun c_1 => ?_) (fun h9 => absurd h9 (by decide))
  refine z_lload B dX12_pack_39 0 rfl ?_
  refine z_ldc2 (v := 32) B (by decide +kernel) dX12_pack_41 ?_
  refine z_lmul B dX12_pack_44 ?_
  refine z_top (st1 := [.long 52832]) (congrArg (fun w9 : Int64 => ([.long w9] : List Value)) (show (1651 * 32 : Int64) = 52832 by decide +kernel)) ?_
  refine z_iload_n B dX12_pack_45 rfl 4 rfl ?_
  refine z_i2l (v := 117) B dX12_pack_46 (by decide +kernel) ?_
  refine z_ladd B dX12_pack_47 ?_
  refine z_top (st1 := [.long 52949]) (congrArg (fun w9 : Int64 => ([.long w9] : List Value)) (show (52832 + 117 : Int64) = 52949 by decide +kernel)) ?_
  refine z_ldc2 (v := 96) B (by decide +kernel) dX12_pack_48 ?_
  refine z_lsub B dX12_pack_51 ?_
  refine z_top (st1 := [.long 52853]) (congrArg (fun w9 : Int64 => ([.long w9] : List Value)) (show (52949 - 96 : Int64) = 52853 by decide +kernel)) ?_
  refine z_lstore (lv' := [(6, .long 52853), (0, .int 97), (1, .int 115), (2, .int 115), (3, .int 117), (4, .int 109), (5, .int 101)]) B dX12_pack_52 (Nat.le_of_ble_eq_true rfl) rfl ?_
  refine z_iload B dX12_pack_54 5 rfl ?_
  refine z_if_ne (tgt := 64) B dX12_pack_56 rfl (fun c_2 => ?_) (fun h9 => absurd h9 (by decide))
  refine z_lload B dX12_pack_64 0 rfl ?_
  refine z_ldc2 (v := 32) B (by decide +kernel) dX12_pack_66 ?_
  refine z_lmul B dX12_pack_69 ?_
  refine z_top (st1 := [.long 1691296]) (congrArg (fun w9 : Int64 => ([.long w9] : List Value)) (show (52853 * 32 : Int64) = 1691296 by decide +kernel)) ?_
  refine z_iload B dX12_pack_70 5 rfl ?_
  refine z_i2l (v := 109) B dX12_pack_72 (by decide +kernel) ?_
  refine z_ladd B dX12_pack_73 ?_
  refine z_top (st1 := [.long 1691405]) (congrArg (fun w9 : Int64 => ([.long w9] : List Value)) (show (1691296 + 109 : Int64) = 1691405 by decide +kernel)) ?_
  refine z_ldc2 (v := 96) B (by decide +kernel) dX12_pack_74 ?_
  refine z_lsub B dX12_pack_77 ?_
  refine z_top (st1 := [.long 1691309]) (congrArg (fun w9 : Int64 => ([.long w9] : List Value)) (show (1691405 - 96 : Int64) = 1691309 by decide +kernel)) ?_
  refine z_lstore (lv' := [(6, .long 1691309), (0, .int 97), (1, .int 115), (2, .int 115), (3, .int 117), (4, .int 109), (5, .int 101)]) B dX12_pack_78 (Nat.le_of_ble_eq_true rfl) rfl ?_
  refine z_iload B dX12_pack_80 6 rfl ?_
  refine z_if_ne (tgt := 90) B dX12_pack_82 rfl (fun c_3 => ?_) (fun h9 => absurd h9 (by decide))
  refine z_lload B dX12_pack_90 0 rfl ?_
  refine z_ldc2 (v := 32) B (by decide +kernel) dX12_pack_92 ?_
  refine z_lmul B dX12_pack_95 ?_
  refine z_top (st1 := [.long 54121888]) (congrArg (fun w9 : Int64 => ([.long w9] : List Value)) (show (1691309 * 32 : Int64) = 54121888 by decide +kernel)) ?_
  refine z_iload B dX12_pack_96 6 rfl ?_
  refine z_i2l (v := 101) B dX12_pack_98 (by decide +kernel) ?_
  refine z_ladd B dX12_pack_99 ?_
  refine z_top (st1 := [.long 54121989]) (congrArg (fun w9 : Int64 => ([.long w9] : List Value)) (show (54121888 + 101 : Int64) = 54121989 by decide +kernel)) ?_
  refine z_ldc2 (v := 96) B (by decide +kernel) dX12_pack_100 ?_
  refine z_lsub B dX12_pack_103 ?_
  refine z_top (st1 := [.long 54121893]) (congrArg (fun w9 : Int64 => ([.long w9] : List Value)) (show (54121989 - 96 : Int64) = 54121893 by decide +kernel)) ?_
  exact z_ret_l B dX12_pack_104 ⟨rfl, rfl, hI, (fun b9 h9 => rfl)⟩

set_option maxHeartbeats 4000000 in
set_option maxRecDepth 100000 in
theorem r_pack_97_116_101_0_0_0 (G : EnvG) (l : Launch) (Φ : Hm) (sz x : Nat) (rd : (Nat → Int32) → Prop) (fl : Nat) (pe : Nat) (le : Nat) (nx : Nat) (il : Nat) (qu : Nat) (kn : Int32) (ec : Int32) (nu : Int32) (va : Int64)  (hx : G.2.2.2 ≤ x) (hI : Im G x (rd, NN, fl, pe, le, nx, il, qu, kn, ec, nu, va) Φ)  : Ct G l yX12_pack wsX12_pack ({ frames := 0, cells := 0, slots := 0, locals := 0 }) 0 0 [.int 97, .int 116, .int 101, .int 0, .int 0, .int 0] Φ sz (fun v Φ1 sz1 => (v = some (.long 1669)) ∧ sz1 = sz ∧ (Im G x (rd, NN, fl, pe, le, nx, il, qu, kn, ec, nu, va) Φ1) ∧ Fr x (fun j9 => False) Φ Φ1) := by
  refine Ct.of (cc := cX12_pack) (maxL := 8) (ret := (some .long)) (by decide) rfl (Nat.le_of_ble_eq_true rfl) ?_
  intro p9 e9 s9 m9 w9 t9 k9 B
  show Z p9 l e9 _ s9 m9 _ w9 t9 k9 _ G 8 0 [(0, .int 97), (1, .int 116), (2, .int 101), (3, .int 0), (4, .int 0), (5, .int 0)] [] Φ sz 0 0
  refine z_iload_n B dX12_pack_0 rfl 0 rfl ?_
  refine z_i2l (v := 97) B dX12_pack_1 (by decide +kernel) ?_
  refine z_ldc2 (v := 96) B (by decide +kernel) dX12_pack_2 ?_
  refine z_lsub B dX12_pack_5 ?_
  refine z_top (st1 := [.long 1]) (congrArg (fun w9 : Int64 => ([.long w9] : List Value)) (show (97 - 96 : Int64) = 1 by decide +kernel)) ?_
  refine z_ldc2 (v := 32) B (by decide +kernel) dX12_pack_6 ?_
  refine z_lmul B dX12_pack_9 ?_
  refine z_top (st1 := [.long 32]) (congrArg (fun w9 : Int64 => ([.long w9] : List Value)) (show (1 * 32 : Int64) = 32 by decide +kernel)) ?_
  refine z_iload_n B dX12_pack_10 rfl 1 rfl ?_
  refine z_i2l (v := 116) B dX12_pack_11 (by decide +kernel) ?_
  refine z_ladd B dX12_pack_12 ?_
  refine z_top (st1 := [.long 148]) (congrArg (fun w9 : Int64 => ([.long w9] : List Value)) (show (32 + 116 : Int64) = 148 by decide +kernel)) ?_
  refine z_ldc2 (v := 96) B (by decide +kernel) dX12_pack_13 ?_
  refine z_lsub B dX12_pack_16 ?_
  refine z_top (st1 := [.long 52]) (congrArg (fun w9 : Int64 => ([.long w9] : List Value)) (show (148 - 96 : Int64) = 52 by decide +kernel)) ?_
  refine z_ldc2 (v := 32) B (by decide +kernel) dX12_pack_17 ?_
  refine z_lmul B dX12_pack_20 ?_
  refine z_top (st1 := [.long 1664]) (congrArg (fun w9 : Int64 => ([.long w9] : List Value)) (show (52 * 32 : Int64) = 1664 by decide +kernel)) ?_
  refine z_iload_n B dX12_pack_21 rfl 2 rfl ?_
  refine z_i2l (v := 101) B dX12_pack_22 (by decide +kernel) ?_
  refine z_ladd B dX12_pack_23 ?_
  refine z_top (st1 := [.long 1765]) (congrArg (fun w9 : Int64 => ([.long w9] : List Value)) (show (1664 + 101 : Int64) = 1765 by decide +kernel)) ?_
  refine z_ldc2 (v := 96) B (by decide +kernel) dX12_pack_24 ?_
  refine z_lsub B dX12_pack_27 ?_
  refine z_top (st1 := [.long 1669]) (congrArg (fun w9 : Int64 => ([.long w9] : List Value)) (show (1765 - 96 : Int64) = 1669 by decide +kernel)) ?_
  refine z_lstore (lv' := [(6, .long 1669), (0, .int 97), (1, .int 116), (2, .int 101), (3, .int 0), (4, .int 0), (5, .int 0)]) B dX12_pack_28 (Nat.le_of_ble_eq_true rfl) rfl ?_
  refine z_iload_n B dX12_pack_30 rfl 4 rfl ?_
  refine z_if_ne (tgt := 39) B dX12_pack_31 rfl (fun h9 => absurd (by decide) h9) (fun c_1 => ?_)
  refine z_lload B dX12_pack_34 0 rfl ?_
  refine z_goto (tgt := 52) B dX12_pack_36 rfl ?_
  refine z_lstore (lv' := [(6, .long 1669), (0, .int 97), (1, .int 116), (2, .int 101), (3, .int 0), (4, .int 0), (5, .int 0)]) B dX12_pack_52 (Nat.le_of_ble_eq_true rfl) rfl ?_
  refine z_iload B dX12_pack_54 5 rfl ?_
  refine z_if_ne (tgt := 64) B dX12_pack_56 rfl (fun h9 => absurd (by decide) h9) (fun c_2 => ?_)
  refine z_lload B dX12_pack_59 0 rfl ?_
  refine z_goto (tgt := 78) B dX12_pack_61 rfl ?_
  refine z_lstore (lv' := [(6, .long 1669), (0, .int 97), (1, .int 116), (2, .int 101), (3, .int 0), (4, .int 0), (5, .int 0)]) B dX12_pack_78 (Nat.le_of_ble_eq_true rfl) rfl ?_
  refine z_iload B dX12_pack_80 6 rfl ?_
  refine z_if_ne (tgt := 90) B dX12_pack_82 rfl (fun h9 => absurd (by decide) h9) (fun c_3 => ?_)
  refine z_lload B dX12_pack_85 0 rfl ?_
  refine z_goto (tgt := 104) B dX12_pack_87 rfl ?_
  exact z_ret_l B dX12_pack_104 ⟨rfl, rfl, hI, (fun b9 h9 => rfl)⟩

set_option maxHeartbeats 4000000 in
set_option maxRecDepth 100000 in
theorem r_pack_97_116_105_111_110_0 (G : EnvG) (l : Launch) (Φ : Hm) (sz x : Nat) (rd : (Nat → Int32) → Prop) (fl : Nat) (pe : Nat) (le : Nat) (nx : Nat) (il : Nat) (qu : Nat) (kn : Int32) (ec : Int32) (nu : Int32) (va : Int64)  (hx : G.2.2.2 ≤ x) (hI : Im G x (rd, NN, fl, pe, le, nx, il, qu, kn, ec, nu, va) Φ)  : Ct G l yX12_pack wsX12_pack ({ frames := 0, cells := 0, slots := 0, locals := 0 }) 0 0 [.int 97, .int 116, .int 105, .int 111, .int 110, .int 0] Φ sz (fun v Φ1 sz1 => (v = some (.long 1713646)) ∧ sz1 = sz ∧ (Im G x (rd, NN, fl, pe, le, nx, il, qu, kn, ec, nu, va) Φ1) ∧ Fr x (fun j9 => False) Φ Φ1) := by
  refine Ct.of (cc := cX12_pack) (maxL := 8) (ret := (some .long)) (by decide) rfl (Nat.le_of_ble_eq_true rfl) ?_
  intro p9 e9 s9 m9 w9 t9 k9 B
  show Z p9 l e9 _ s9 m9 _ w9 t9 k9 _ G 8 0 [(0, .int 97), (1, .int 116), (2, .int 105), (3, .int 111), (4, .int 110), (5, .int 0)] [] Φ sz 0 0
  refine z_iload_n B dX12_pack_0 rfl 0 rfl ?_
  refine z_i2l (v := 97) B dX12_pack_1 (by decide +kernel) ?_
  refine z_ldc2 (v := 96) B (by decide +kernel) dX12_pack_2 ?_
  refine z_lsub B dX12_pack_5 ?_
  refine z_top (st1 := [.long 1]) (congrArg (fun w9 : Int64 => ([.long w9] : List Value)) (show (97 - 96 : Int64) = 1 by decide +kernel)) ?_
  refine z_ldc2 (v := 32) B (by decide +kernel) dX12_pack_6 ?_
  refine z_lmul B dX12_pack_9 ?_
  refine z_top (st1 := [.long 32]) (congrArg (fun w9 : Int64 => ([.long w9] : List Value)) (show (1 * 32 : Int64) = 32 by decide +kernel)) ?_
  refine z_iload_n B dX12_pack_10 rfl 1 rfl ?_
  refine z_i2l (v := 116) B dX12_pack_11 (by decide +kernel) ?_
  refine z_ladd B dX12_pack_12 ?_
  refine z_top (st1 := [.long 148]) (congrArg (fun w9 : Int64 => ([.long w9] : List Value)) (show (32 + 116 : Int64) = 148 by decide +kernel)) ?_
  refine z_ldc2 (v := 96) B (by decide +kernel) dX12_pack_13 ?_
  refine z_lsub B dX12_pack_16 ?_
  refine z_top (st1 := [.long 52]) (congrArg (fun w9 : Int64 => ([.long w9] : List Value)) (show (148 - 96 : Int64) = 52 by decide +kernel)) ?_
  refine z_ldc2 (v := 32) B (by decide +kernel) dX12_pack_17 ?_
  refine z_lmul B dX12_pack_20 ?_
  refine z_top (st1 := [.long 1664]) (congrArg (fun w9 : Int64 => ([.long w9] : List Value)) (show (52 * 32 : Int64) = 1664 by decide +kernel)) ?_
  refine z_iload_n B dX12_pack_21 rfl 2 rfl ?_
  refine z_i2l (v := 105) B dX12_pack_22 (by decide +kernel) ?_
  refine z_ladd B dX12_pack_23 ?_
  refine z_top (st1 := [.long 1769]) (congrArg (fun w9 : Int64 => ([.long w9] : List Value)) (show (1664 + 105 : Int64) = 1769 by decide +kernel)) ?_
  refine z_ldc2 (v := 96) B (by decide +kernel) dX12_pack_24 ?_
  refine z_lsub B dX12_pack_27 ?_
  refine z_top (st1 := [.long 1673]) (congrArg (fun w9 : Int64 => ([.long w9] : List Value)) (show (1769 - 96 : Int64) = 1673 by decide +kernel)) ?_
  refine z_lstore (lv' := [(6, .long 1673), (0, .int 97), (1, .int 116), (2, .int 105), (3, .int 111), (4, .int 110), (5, .int 0)]) B dX12_pack_28 (Nat.le_of_ble_eq_true rfl) rfl ?_
  refine z_iload_n B dX12_pack_30 rfl 4 rfl ?_
  refine z_if_ne (tgt := 39) B dX12_pack_31 rfl (fun c_1 => ?_) (fun h9 => absurd h9 (by decide))
  refine z_lload B dX12_pack_39 0 rfl ?_
  refine z_ldc2 (v := 32) B (by decide +kernel) dX12_pack_41 ?_
  refine z_lmul B dX12_pack_44 ?_
  refine z_top (st1 := [.long 53536]) (congrArg (fun w9 : Int64 => ([.long w9] : List Value)) (show (1673 * 32 : Int64) = 53536 by decide +kernel)) ?_
  refine z_iload_n B dX12_pack_45 rfl 4 rfl ?_
  refine z_i2l (v := 111) B dX12_pack_46 (by decide +kernel) ?_
  refine z_ladd B dX12_pack_47 ?_
  refine z_top (st1 := [.long 53647]) (congrArg (fun w9 : Int64 => ([.long w9] : List Value)) (show (53536 + 111 : Int64) = 53647 by decide +kernel)) ?_
  refine z_ldc2 (v := 96) B (by decide +kernel) dX12_pack_48 ?_
  refine z_lsub B dX12_pack_51 ?_
  refine z_top (st1 := [.long 53551]) (congrArg (fun w9 : Int64 => ([.long w9] : List Value)) (show (53647 - 96 : Int64) = 53551 by decide +kernel)) ?_
  refine z_lstore (lv' := [(6, .long 53551), (0, .int 97), (1, .int 116), (2, .int 105), (3, .int 111), (4, .int 110), (5, .int 0)]) B dX12_pack_52 (Nat.le_of_ble_eq_true rfl) rfl ?_
  refine z_iload B dX12_pack_54 5 rfl ?_
  refine z_if_ne (tgt := 64) B dX12_pack_56 rfl (fun c_2 => ?_) (fun h9 => absurd h9 (by decide))
  refine z_lload B dX12_pack_64 0 rfl ?_
  refine z_ldc2 (v := 32) B (by decide +kernel) dX12_pack_66 ?_
  refine z_lmul B dX12_pack_69 ?_
  refine z_top (st1 := [.long 1713632]) (congrArg (fun w9 : Int64 => ([.long w9] : List Value)) (show (53551 * 32 : Int64) = 1713632 by decide +kernel)) ?_
  refine z_iload B dX12_pack_70 5 rfl ?_
  refine z_i2l (v := 110) B dX12_pack_72 (by decide +kernel) ?_
  refine z_ladd B dX12_pack_73 ?_
  refine z_top (st1 := [.long 1713742]) (congrArg (fun w9 : Int64 => ([.long w9] : List Value)) (show (1713632 + 110 : Int64) = 1713742 by decide +kernel)) ?_
  refine z_ldc2 (v := 96) B (by decide +kernel) dX12_pack_74 ?_
  refine z_lsub B dX12_pack_77 ?_
  refine z_top (st1 := [.long 1713646]) (congrArg (fun w9 : Int64 => ([.long w9] : List Value)) (show (1713742 - 96 : Int64) = 1713646 by decide +kernel)) ?_
  refine z_lstore (lv' := [(6, .long 1713646), (0, .int 97), (1, .int 116), (2, .int 105), (3, .int 111), (4, .int 110), (5, .int 0)]) B dX12_pack_78 (Nat.le_of_ble_eq_true rfl) rfl ?_
  refine z_iload B dX12_pack_80 6 rfl ?_
  refine z_if_ne (tgt := 90) B dX12_pack_82 rfl (fun h9 => absurd (by decide) h9) (fun c_3 => ?_)
  refine z_lload B dX12_pack_85 0 rfl ?_
  refine z_goto (tgt := 104) B dX12_pack_87 rfl ?_
  exact z_ret_l B dX12_pack_104 ⟨rfl, rfl, hI, (fun b9 h9 => rfl)⟩

set_option maxHeartbeats 4000000 in
set_option maxRecDepth 100000 in
theorem r_pack_98_117_100_103_101_116 (G : EnvG) (l : Launch) (Φ : Hm) (sz x : Nat) (rd : (Nat → Int32) → Prop) (fl : Nat) (pe : Nat) (le : Nat) (nx : Nat) (il : Nat) (qu : Nat) (kn : Int32) (ec : Int32) (nu : Int32) (va : Int64)  (hx : G.2.2.2 ≤ x) (hI : Im G x (rd, NN, fl, pe, le, nx, il, qu, kn, ec, nu, va) Φ)  : Ct G l yX12_pack wsX12_pack ({ frames := 0, cells := 0, slots := 0, locals := 0 }) 0 0 [.int 98, .int 117, .int 100, .int 103, .int 101, .int 116] Φ sz (fun v Φ1 sz1 => (v = some (.long 89267380)) ∧ sz1 = sz ∧ (Im G x (rd, NN, fl, pe, le, nx, il, qu, kn, ec, nu, va) Φ1) ∧ Fr x (fun j9 => False) Φ Φ1) := by
  refine Ct.of (cc := cX12_pack) (maxL := 8) (ret := (some .long)) (by decide) rfl (Nat.le_of_ble_eq_true rfl) ?_
  intro p9 e9 s9 m9 w9 t9 k9 B
  show Z p9 l e9 _ s9 m9 _ w9 t9 k9 _ G 8 0 [(0, .int 98), (1, .int 117), (2, .int 100), (3, .int 103), (4, .int 101), (5, .int 116)] [] Φ sz 0 0
  refine z_iload_n B dX12_pack_0 rfl 0 rfl ?_
  refine z_i2l (v := 98) B dX12_pack_1 (by decide +kernel) ?_
  refine z_ldc2 (v := 96) B (by decide +kernel) dX12_pack_2 ?_
  refine z_lsub B dX12_pack_5 ?_
  refine z_top (st1 := [.long 2]) (congrArg (fun w9 : Int64 => ([.long w9] : List Value)) (show (98 - 96 : Int64) = 2 by decide +kernel)) ?_
  refine z_ldc2 (v := 32) B (by decide +kernel) dX12_pack_6 ?_
  refine z_lmul B dX12_pack_9 ?_
  refine z_top (st1 := [.long 64]) (congrArg (fun w9 : Int64 => ([.long w9] : List Value)) (show (2 * 32 : Int64) = 64 by decide +kernel)) ?_
  refine z_iload_n B dX12_pack_10 rfl 1 rfl ?_
  refine z_i2l (v := 117) B dX12_pack_11 (by decide +kernel) ?_
  refine z_ladd B dX12_pack_12 ?_
  refine z_top (st1 := [.long 181]) (congrArg (fun w9 : Int64 => ([.long w9] : List Value)) (show (64 + 117 : Int64) = 181 by decide +kernel)) ?_
  refine z_ldc2 (v := 96) B (by decide +kernel) dX12_pack_13 ?_
  refine z_lsub B dX12_pack_16 ?_
  refine z_top (st1 := [.long 85]) (congrArg (fun w9 : Int64 => ([.long w9] : List Value)) (show (181 - 96 : Int64) = 85 by decide +kernel)) ?_
  refine z_ldc2 (v := 32) B (by decide +kernel) dX12_pack_17 ?_
  refine z_lmul B dX12_pack_20 ?_
  refine z_top (st1 := [.long 2720]) (congrArg (fun w9 : Int64 => ([.long w9] : List Value)) (show (85 * 32 : Int64) = 2720 by decide +kernel)) ?_
  refine z_iload_n B dX12_pack_21 rfl 2 rfl ?_
  refine z_i2l (v := 100) B dX12_pack_22 (by decide +kernel) ?_
  refine z_ladd B dX12_pack_23 ?_
  refine z_top (st1 := [.long 2820]) (congrArg (fun w9 : Int64 => ([.long w9] : List Value)) (show (2720 + 100 : Int64) = 2820 by decide +kernel)) ?_
  refine z_ldc2 (v := 96) B (by decide +kernel) dX12_pack_24 ?_
  refine z_lsub B dX12_pack_27 ?_
  refine z_top (st1 := [.long 2724]) (congrArg (fun w9 : Int64 => ([.long w9] : List Value)) (show (2820 - 96 : Int64) = 2724 by decide +kernel)) ?_
  refine z_lstore (lv' := [(6, .long 2724), (0, .int 98), (1, .int 117), (2, .int 100), (3, .int 103), (4, .int 101), (5, .int 116)]) B dX12_pack_28 (Nat.le_of_ble_eq_true rfl) rfl ?_
  refine z_iload_n B dX12_pack_30 rfl 4 rfl ?_
  refine z_if_ne (tgt := 39) B dX12_pack_31 rfl (fun c_1 => ?_) (fun h9 => absurd h9 (by decide))
  refine z_lload B dX12_pack_39 0 rfl ?_
  refine z_ldc2 (v := 32) B (by decide +kernel) dX12_pack_41 ?_
  refine z_lmul B dX12_pack_44 ?_
  refine z_top (st1 := [.long 87168]) (congrArg (fun w9 : Int64 => ([.long w9] : List Value)) (show (2724 * 32 : Int64) = 87168 by decide +kernel)) ?_
  refine z_iload_n B dX12_pack_45 rfl 4 rfl ?_
  refine z_i2l (v := 103) B dX12_pack_46 (by decide +kernel) ?_
  refine z_ladd B dX12_pack_47 ?_
  refine z_top (st1 := [.long 87271]) (congrArg (fun w9 : Int64 => ([.long w9] : List Value)) (show (87168 + 103 : Int64) = 87271 by decide +kernel)) ?_
  refine z_ldc2 (v := 96) B (by decide +kernel) dX12_pack_48 ?_
  refine z_lsub B dX12_pack_51 ?_
  refine z_top (st1 := [.long 87175]) (congrArg (fun w9 : Int64 => ([.long w9] : List Value)) (show (87271 - 96 : Int64) = 87175 by decide +kernel)) ?_
  refine z_lstore (lv' := [(6, .long 87175), (0, .int 98), (1, .int 117), (2, .int 100), (3, .int 103), (4, .int 101), (5, .int 116)]) B dX12_pack_52 (Nat.le_of_ble_eq_true rfl) rfl ?_
  refine z_iload B dX12_pack_54 5 rfl ?_
  refine z_if_ne (tgt := 64) B dX12_pack_56 rfl (fun c_2 => ?_) (fun h9 => absurd h9 (by decide))
  refine z_lload B dX12_pack_64 0 rfl ?_
  refine z_ldc2 (v := 32) B (by decide +kernel) dX12_pack_66 ?_
  refine z_lmul B dX12_pack_69 ?_
  refine z_top (st1 := [.long 2789600]) (congrArg (fun w9 : Int64 => ([.long w9] : List Value)) (show (87175 * 32 : Int64) = 2789600 by decide +kernel)) ?_
  refine z_iload B dX12_pack_70 5 rfl ?_
  refine z_i2l (v := 101) B dX12_pack_72 (by decide +kernel) ?_
  refine z_ladd B dX12_pack_73 ?_
  refine z_top (st1 := [.long 2789701]) (congrArg (fun w9 : Int64 => ([.long w9] : List Value)) (show (2789600 + 101 : Int64) = 2789701 by decide +kernel)) ?_
  refine z_ldc2 (v := 96) B (by decide +kernel) dX12_pack_74 ?_
  refine z_lsub B dX12_pack_77 ?_
  refine z_top (st1 := [.long 2789605]) (congrArg (fun w9 : Int64 => ([.long w9] : List Value)) (show (2789701 - 96 : Int64) = 2789605 by decide +kernel)) ?_
  refine z_lstore (lv' := [(6, .long 2789605), (0, .int 98), (1, .int 117), (2, .int 100), (3, .int 103), (4, .int 101), (5, .int 116)]) B dX12_pack_78 (Nat.le_of_ble_eq_true rfl) rfl ?_
  refine z_iload B dX12_pack_80 6 rfl ?_
  refine z_if_ne (tgt := 90) B dX12_pack_82 rfl (fun c_3 => ?_) (fun h9 => absurd h9 (by decide))
  refine z_lload B dX12_pack_90 0 rfl ?_
  refine z_ldc2 (v := 32) B (by decide +kernel) dX12_pack_92 ?_
  refine z_lmul B dX12_pack_95 ?_
  refine z_top (st1 := [.long 89267360]) (congrArg (fun w9 : Int64 => ([.long w9] : List Value)) (show (2789605 * 32 : Int64) = 89267360 by decide +kernel)) ?_
  refine z_iload B dX12_pack_96 6 rfl ?_
  refine z_i2l (v := 116) B dX12_pack_98 (by decide +kernel) ?_
  refine z_ladd B dX12_pack_99 ?_
  refine z_top (st1 := [.long 89267476]) (congrArg (fun w9 : Int64 => ([.long w9] : List Value)) (show (89267360 + 116 : Int64) = 89267476 by decide +kernel)) ?_
  refine z_ldc2 (v := 96) B (by decide +kernel) dX12_pack_100 ?_
  refine z_lsub B dX12_pack_103 ?_
  refine z_top (st1 := [.long 89267380]) (congrArg (fun w9 : Int64 => ([.long w9] : List Value)) (show (89267476 - 96 : Int64) = 89267380 by decide +kernel)) ?_
  exact z_ret_l B dX12_pack_104 ⟨rfl, rfl, hI, (fun b9 h9 => rfl)⟩

set_option maxHeartbeats 4000000 in
set_option maxRecDepth 100000 in
theorem r_pack_98_121_116_101_115_0 (G : EnvG) (l : Launch) (Φ : Hm) (sz x : Nat) (rd : (Nat → Int32) → Prop) (fl : Nat) (pe : Nat) (le : Nat) (nx : Nat) (il : Nat) (qu : Nat) (kn : Int32) (ec : Int32) (nu : Int32) (va : Int64)  (hx : G.2.2.2 ≤ x) (hI : Im G x (rd, NN, fl, pe, le, nx, il, qu, kn, ec, nu, va) Φ)  : Ct G l yX12_pack wsX12_pack ({ frames := 0, cells := 0, slots := 0, locals := 0 }) 0 0 [.int 98, .int 121, .int 116, .int 101, .int 115, .int 0] Φ sz (fun v Φ1 sz1 => (v = some (.long 2937011)) ∧ sz1 = sz ∧ (Im G x (rd, NN, fl, pe, le, nx, il, qu, kn, ec, nu, va) Φ1) ∧ Fr x (fun j9 => False) Φ Φ1) := by
  refine Ct.of (cc := cX12_pack) (maxL := 8) (ret := (some .long)) (by decide) rfl (Nat.le_of_ble_eq_true rfl) ?_
  intro p9 e9 s9 m9 w9 t9 k9 B
  show Z p9 l e9 _ s9 m9 _ w9 t9 k9 _ G 8 0 [(0, .int 98), (1, .int 121), (2, .int 116), (3, .int 101), (4, .int 115), (5, .int 0)] [] Φ sz 0 0
  refine z_iload_n B dX12_pack_0 rfl 0 rfl ?_
  refine z_i2l (v := 98) B dX12_pack_1 (by decide +kernel) ?_
  refine z_ldc2 (v := 96) B (by decide +kernel) dX12_pack_2 ?_
  refine z_lsub B dX12_pack_5 ?_
  refine z_top (st1 := [.long 2]) (congrArg (fun w9 : Int64 => ([.long w9] : List Value)) (show (98 - 96 : Int64) = 2 by decide +kernel)) ?_
  refine z_ldc2 (v := 32) B (by decide +kernel) dX12_pack_6 ?_
  refine z_lmul B dX12_pack_9 ?_
  refine z_top (st1 := [.long 64]) (congrArg (fun w9 : Int64 => ([.long w9] : List Value)) (show (2 * 32 : Int64) = 64 by decide +kernel)) ?_
  refine z_iload_n B dX12_pack_10 rfl 1 rfl ?_
  refine z_i2l (v := 121) B dX12_pack_11 (by decide +kernel) ?_
  refine z_ladd B dX12_pack_12 ?_
  refine z_top (st1 := [.long 185]) (congrArg (fun w9 : Int64 => ([.long w9] : List Value)) (show (64 + 121 : Int64) = 185 by decide +kernel)) ?_
  refine z_ldc2 (v := 96) B (by decide +kernel) dX12_pack_13 ?_
  refine z_lsub B dX12_pack_16 ?_
  refine z_top (st1 := [.long 89]) (congrArg (fun w9 : Int64 => ([.long w9] : List Value)) (show (185 - 96 : Int64) = 89 by decide +kernel)) ?_
  refine z_ldc2 (v := 32) B (by decide +kernel) dX12_pack_17 ?_
  refine z_lmul B dX12_pack_20 ?_
  refine z_top (st1 := [.long 2848]) (congrArg (fun w9 : Int64 => ([.long w9] : List Value)) (show (89 * 32 : Int64) = 2848 by decide +kernel)) ?_
  refine z_iload_n B dX12_pack_21 rfl 2 rfl ?_
  refine z_i2l (v := 116) B dX12_pack_22 (by decide +kernel) ?_
  refine z_ladd B dX12_pack_23 ?_
  refine z_top (st1 := [.long 2964]) (congrArg (fun w9 : Int64 => ([.long w9] : List Value)) (show (2848 + 116 : Int64) = 2964 by decide +kernel)) ?_
  refine z_ldc2 (v := 96) B (by decide +kernel) dX12_pack_24 ?_
  refine z_lsub B dX12_pack_27 ?_
  refine z_top (st1 := [.long 2868]) (congrArg (fun w9 : Int64 => ([.long w9] : List Value)) (show (2964 - 96 : Int64) = 2868 by decide +kernel)) ?_
  refine z_lstore (lv' := [(6, .long 2868), (0, .int 98), (1, .int 121), (2, .int 116), (3, .int 101), (4, .int 115), (5, .int 0)]) B dX12_pack_28 (Nat.le_of_ble_eq_true rfl) rfl ?_
  refine z_iload_n B dX12_pack_30 rfl 4 rfl ?_
  refine z_if_ne (tgt := 39) B dX12_pack_31 rfl (fun c_1 => ?_) (fun h9 => absurd h9 (by decide))
  refine z_lload B dX12_pack_39 0 rfl ?_
  refine z_ldc2 (v := 32) B (by decide +kernel) dX12_pack_41 ?_
  refine z_lmul B dX12_pack_44 ?_
  refine z_top (st1 := [.long 91776]) (congrArg (fun w9 : Int64 => ([.long w9] : List Value)) (show (2868 * 32 : Int64) = 91776 by decide +kernel)) ?_
  refine z_iload_n B dX12_pack_45 rfl 4 rfl ?_
  refine z_i2l (v := 101) B dX12_pack_46 (by decide +kernel) ?_
  refine z_ladd B dX12_pack_47 ?_
  refine z_top (st1 := [.long 91877]) (congrArg (fun w9 : Int64 => ([.long w9] : List Value)) (show (91776 + 101 : Int64) = 91877 by decide +kernel)) ?_
  refine z_ldc2 (v := 96) B (by decide +kernel) dX12_pack_48 ?_
  refine z_lsub B dX12_pack_51 ?_
  refine z_top (st1 := [.long 91781]) (congrArg (fun w9 : Int64 => ([.long w9] : List Value)) (show (91877 - 96 : Int64) = 91781 by decide +kernel)) ?_
  refine z_lstore (lv' := [(6, .long 91781), (0, .int 98), (1, .int 121), (2, .int 116), (3, .int 101), (4, .int 115), (5, .int 0)]) B dX12_pack_52 (Nat.le_of_ble_eq_true rfl) rfl ?_
  refine z_iload B dX12_pack_54 5 rfl ?_
  refine z_if_ne (tgt := 64) B dX12_pack_56 rfl (fun c_2 => ?_) (fun h9 => absurd h9 (by decide))
  refine z_lload B dX12_pack_64 0 rfl ?_
  refine z_ldc2 (v := 32) B (by decide +kernel) dX12_pack_66 ?_
  refine z_lmul B dX12_pack_69 ?_
  refine z_top (st1 := [.long 2936992]) (congrArg (fun w9 : Int64 => ([.long w9] : List Value)) (show (91781 * 32 : Int64) = 2936992 by decide +kernel)) ?_
  refine z_iload B dX12_pack_70 5 rfl ?_
  refine z_i2l (v := 115) B dX12_pack_72 (by decide +kernel) ?_
  refine z_ladd B dX12_pack_73 ?_
  refine z_top (st1 := [.long 2937107]) (congrArg (fun w9 : Int64 => ([.long w9] : List Value)) (show (2936992 + 115 : Int64) = 2937107 by decide +kernel)) ?_
  refine z_ldc2 (v := 96) B (by decide +kernel) dX12_pack_74 ?_
  refine z_lsub B dX12_pack_77 ?_
  refine z_top (st1 := [.long 2937011]) (congrArg (fun w9 : Int64 => ([.long w9] : List Value)) (show (2937107 - 96 : Int64) = 2937011 by decide +kernel)) ?_
  refine z_lstore (lv' := [(6, .long 2937011), (0, .int 98), (1, .int 121), (2, .int 116), (3, .int 101), (4, .int 115), (5, .int 0)]) B dX12_pack_78 (Nat.le_of_ble_eq_true rfl) rfl ?_
  refine z_iload B dX12_pack_80 6 rfl ?_
  refine z_if_ne (tgt := 90) B dX12_pack_82 rfl (fun h9 => absurd (by decide) h9) (fun c_3 => ?_)
  refine z_lload B dX12_pack_85 0 rfl ?_
  refine z_goto (tgt := 104) B dX12_pack_87 rfl ?_
  exact z_ret_l B dX12_pack_104 ⟨rfl, rfl, hI, (fun b9 h9 => rfl)⟩

set_option maxHeartbeats 4000000 in
set_option maxRecDepth 100000 in
theorem r_pack_99_111_108_0_0_0 (G : EnvG) (l : Launch) (Φ : Hm) (sz x : Nat) (rd : (Nat → Int32) → Prop) (fl : Nat) (pe : Nat) (le : Nat) (nx : Nat) (il : Nat) (qu : Nat) (kn : Int32) (ec : Int32) (nu : Int32) (va : Int64)  (hx : G.2.2.2 ≤ x) (hI : Im G x (rd, NN, fl, pe, le, nx, il, qu, kn, ec, nu, va) Φ)  : Ct G l yX12_pack wsX12_pack ({ frames := 0, cells := 0, slots := 0, locals := 0 }) 0 0 [.int 99, .int 111, .int 108, .int 0, .int 0, .int 0] Φ sz (fun v Φ1 sz1 => (v = some (.long 3564)) ∧ sz1 = sz ∧ (Im G x (rd, NN, fl, pe, le, nx, il, qu, kn, ec, nu, va) Φ1) ∧ Fr x (fun j9 => False) Φ Φ1) := by
  refine Ct.of (cc := cX12_pack) (maxL := 8) (ret := (some .long)) (by decide) rfl (Nat.le_of_ble_eq_true rfl) ?_
  intro p9 e9 s9 m9 w9 t9 k9 B
  show Z p9 l e9 _ s9 m9 _ w9 t9 k9 _ G 8 0 [(0, .int 99), (1, .int 111), (2, .int 108), (3, .int 0), (4, .int 0), (5, .int 0)] [] Φ sz 0 0
  refine z_iload_n B dX12_pack_0 rfl 0 rfl ?_
  refine z_i2l (v := 99) B dX12_pack_1 (by decide +kernel) ?_
  refine z_ldc2 (v := 96) B (by decide +kernel) dX12_pack_2 ?_
  refine z_lsub B dX12_pack_5 ?_
  refine z_top (st1 := [.long 3]) (congrArg (fun w9 : Int64 => ([.long w9] : List Value)) (show (99 - 96 : Int64) = 3 by decide +kernel)) ?_
  refine z_ldc2 (v := 32) B (by decide +kernel) dX12_pack_6 ?_
  refine z_lmul B dX12_pack_9 ?_
  refine z_top (st1 := [.long 96]) (congrArg (fun w9 : Int64 => ([.long w9] : List Value)) (show (3 * 32 : Int64) = 96 by decide +kernel)) ?_
  refine z_iload_n B dX12_pack_10 rfl 1 rfl ?_
  refine z_i2l (v := 111) B dX12_pack_11 (by decide +kernel) ?_
  refine z_ladd B dX12_pack_12 ?_
  refine z_top (st1 := [.long 207]) (congrArg (fun w9 : Int64 => ([.long w9] : List Value)) (show (96 + 111 : Int64) = 207 by decide +kernel)) ?_
  refine z_ldc2 (v := 96) B (by decide +kernel) dX12_pack_13 ?_
  refine z_lsub B dX12_pack_16 ?_
  refine z_top (st1 := [.long 111]) (congrArg (fun w9 : Int64 => ([.long w9] : List Value)) (show (207 - 96 : Int64) = 111 by decide +kernel)) ?_
  refine z_ldc2 (v := 32) B (by decide +kernel) dX12_pack_17 ?_
  refine z_lmul B dX12_pack_20 ?_
  refine z_top (st1 := [.long 3552]) (congrArg (fun w9 : Int64 => ([.long w9] : List Value)) (show (111 * 32 : Int64) = 3552 by decide +kernel)) ?_
  refine z_iload_n B dX12_pack_21 rfl 2 rfl ?_
  refine z_i2l (v := 108) B dX12_pack_22 (by decide +kernel) ?_
  refine z_ladd B dX12_pack_23 ?_
  refine z_top (st1 := [.long 3660]) (congrArg (fun w9 : Int64 => ([.long w9] : List Value)) (show (3552 + 108 : Int64) = 3660 by decide +kernel)) ?_
  refine z_ldc2 (v := 96) B (by decide +kernel) dX12_pack_24 ?_
  refine z_lsub B dX12_pack_27 ?_
  refine z_top (st1 := [.long 3564]) (congrArg (fun w9 : Int64 => ([.long w9] : List Value)) (show (3660 - 96 : Int64) = 3564 by decide +kernel)) ?_
  refine z_lstore (lv' := [(6, .long 3564), (0, .int 99), (1, .int 111), (2, .int 108), (3, .int 0), (4, .int 0), (5, .int 0)]) B dX12_pack_28 (Nat.le_of_ble_eq_true rfl) rfl ?_
  refine z_iload_n B dX12_pack_30 rfl 4 rfl ?_
  refine z_if_ne (tgt := 39) B dX12_pack_31 rfl (fun h9 => absurd (by decide) h9) (fun c_1 => ?_)
  refine z_lload B dX12_pack_34 0 rfl ?_
  refine z_goto (tgt := 52) B dX12_pack_36 rfl ?_
  refine z_lstore (lv' := [(6, .long 3564), (0, .int 99), (1, .int 111), (2, .int 108), (3, .int 0), (4, .int 0), (5, .int 0)]) B dX12_pack_52 (Nat.le_of_ble_eq_true rfl) rfl ?_
  refine z_iload B dX12_pack_54 5 rfl ?_
  refine z_if_ne (tgt := 64) B dX12_pack_56 rfl (fun h9 => absurd (by decide) h9) (fun c_2 => ?_)
  refine z_lload B dX12_pack_59 0 rfl ?_
  refine z_goto (tgt := 78) B dX12_pack_61 rfl ?_
  refine z_lstore (lv' := [(6, .long 3564), (0, .int 99), (1, .int 111), (2, .int 108), (3, .int 0), (4, .int 0), (5, .int 0)]) B dX12_pack_78 (Nat.le_of_ble_eq_true rfl) rfl ?_
  refine z_iload B dX12_pack_80 6 rfl ?_
  refine z_if_ne (tgt := 90) B dX12_pack_82 rfl (fun h9 => absurd (by decide) h9) (fun c_3 => ?_)
  refine z_lload B dX12_pack_85 0 rfl ?_
  refine z_goto (tgt := 104) B dX12_pack_87 rfl ?_
  exact z_ret_l B dX12_pack_104 ⟨rfl, rfl, hI, (fun b9 h9 => rfl)⟩

set_option maxHeartbeats 4000000 in
set_option maxRecDepth 100000 in
theorem r_pack_100_101_115_116_105_110 (G : EnvG) (l : Launch) (Φ : Hm) (sz x : Nat) (rd : (Nat → Int32) → Prop) (fl : Nat) (pe : Nat) (le : Nat) (nx : Nat) (il : Nat) (qu : Nat) (kn : Int32) (ec : Int32) (nu : Int32) (va : Int64)  (hx : G.2.2.2 ≤ x) (hI : Im G x (rd, NN, fl, pe, le, nx, il, qu, kn, ec, nu, va) Φ)  : Ct G l yX12_pack wsX12_pack ({ frames := 0, cells := 0, slots := 0, locals := 0 }) 0 0 [.int 100, .int 101, .int 115, .int 116, .int 105, .int 110] Φ sz (fun v Φ1 sz1 => (v = some (.long 140103982)) ∧ sz1 = sz ∧ (Im G x (rd, NN, fl, pe, le, nx, il, qu, kn, ec, nu, va) Φ1) ∧ Fr x (fun j9 => False) Φ Φ1) := by
  refine Ct.of (cc := cX12_pack) (maxL := 8) (ret := (some .long)) (by decide) rfl (Nat.le_of_ble_eq_true rfl) ?_
  intro p9 e9 s9 m9 w9 t9 k9 B
  show Z p9 l e9 _ s9 m9 _ w9 t9 k9 _ G 8 0 [(0, .int 100), (1, .int 101), (2, .int 115), (3, .int 116), (4, .int 105), (5, .int 110)] [] Φ sz 0 0
  refine z_iload_n B dX12_pack_0 rfl 0 rfl ?_
  refine z_i2l (v := 100) B dX12_pack_1 (by decide +kernel) ?_
  refine z_ldc2 (v := 96) B (by decide +kernel) dX12_pack_2 ?_
  refine z_lsub B dX12_pack_5 ?_
  refine z_top (st1 := [.long 4]) (congrArg (fun w9 : Int64 => ([.long w9] : List Value)) (show (100 - 96 : Int64) = 4 by decide +kernel)) ?_
  refine z_ldc2 (v := 32) B (by decide +kernel) dX12_pack_6 ?_
  refine z_lmul B dX12_pack_9 ?_
  refine z_top (st1 := [.long 128]) (congrArg (fun w9 : Int64 => ([.long w9] : List Value)) (show (4 * 32 : Int64) = 128 by decide +kernel)) ?_
  refine z_iload_n B dX12_pack_10 rfl 1 rfl ?_
  refine z_i2l (v := 101) B dX12_pack_11 (by decide +kernel) ?_
  refine z_ladd B dX12_pack_12 ?_
  refine z_top (st1 := [.long 229]) (congrArg (fun w9 : Int64 => ([.long w9] : List Value)) (show (128 + 101 : Int64) = 229 by decide +kernel)) ?_
  refine z_ldc2 (v := 96) B (by decide +kernel) dX12_pack_13 ?_
  refine z_lsub B dX12_pack_16 ?_
  refine z_top (st1 := [.long 133]) (congrArg (fun w9 : Int64 => ([.long w9] : List Value)) (show (229 - 96 : Int64) = 133 by decide +kernel)) ?_
  refine z_ldc2 (v := 32) B (by decide +kernel) dX12_pack_17 ?_
  refine z_lmul B dX12_pack_20 ?_
  refine z_top (st1 := [.long 4256]) (congrArg (fun w9 : Int64 => ([.long w9] : List Value)) (show (133 * 32 : Int64) = 4256 by decide +kernel)) ?_
  refine z_iload_n B dX12_pack_21 rfl 2 rfl ?_
  refine z_i2l (v := 115) B dX12_pack_22 (by decide +kernel) ?_
  refine z_ladd B dX12_pack_23 ?_
  refine z_top (st1 := [.long 4371]) (congrArg (fun w9 : Int64 => ([.long w9] : List Value)) (show (4256 + 115 : Int64) = 4371 by decide +kernel)) ?_
  refine z_ldc2 (v := 96) B (by decide +kernel) dX12_pack_24 ?_
  refine z_lsub B dX12_pack_27 ?_
  refine z_top (st1 := [.long 4275]) (congrArg (fun w9 : Int64 => ([.long w9] : List Value)) (show (4371 - 96 : Int64) = 4275 by decide +kernel)) ?_
  refine z_lstore (lv' := [(6, .long 4275), (0, .int 100), (1, .int 101), (2, .int 115), (3, .int 116), (4, .int 105), (5, .int 110)]) B dX12_pack_28 (Nat.le_of_ble_eq_true rfl) rfl ?_
  refine z_iload_n B dX12_pack_30 rfl 4 rfl ?_
  refine z_if_ne (tgt := 39) B dX12_pack_31 rfl (fun c_1 => ?_) (fun h9 => absurd h9 (by decide))
  refine z_lload B dX12_pack_39 0 rfl ?_
  refine z_ldc2 (v := 32) B (by decide +kernel) dX12_pack_41 ?_
  refine z_lmul B dX12_pack_44 ?_
  refine z_top (st1 := [.long 136800]) (congrArg (fun w9 : Int64 => ([.long w9] : List Value)) (show (4275 * 32 : Int64) = 136800 by decide +kernel)) ?_
  refine z_iload_n B dX12_pack_45 rfl 4 rfl ?_
  refine z_i2l (v := 116) B dX12_pack_46 (by decide +kernel) ?_
  refine z_ladd B dX12_pack_47 ?_
  refine z_top (st1 := [.long 136916]) (congrArg (fun w9 : Int64 => ([.long w9] : List Value)) (show (136800 + 116 : Int64) = 136916 by decide +kernel)) ?_
  refine z_ldc2 (v := 96) B (by decide +kernel) dX12_pack_48 ?_
  refine z_lsub B dX12_pack_51 ?_
  refine z_top (st1 := [.long 136820]) (congrArg (fun w9 : Int64 => ([.long w9] : List Value)) (show (136916 - 96 : Int64) = 136820 by decide +kernel)) ?_
  refine z_lstore (lv' := [(6, .long 136820), (0, .int 100), (1, .int 101), (2, .int 115), (3, .int 116), (4, .int 105), (5, .int 110)]) B dX12_pack_52 (Nat.le_of_ble_eq_true rfl) rfl ?_
  refine z_iload B dX12_pack_54 5 rfl ?_
  refine z_if_ne (tgt := 64) B dX12_pack_56 rfl (fun c_2 => ?_) (fun h9 => absurd h9 (by decide))
  refine z_lload B dX12_pack_64 0 rfl ?_
  refine z_ldc2 (v := 32) B (by decide +kernel) dX12_pack_66 ?_
  refine z_lmul B dX12_pack_69 ?_
  refine z_top (st1 := [.long 4378240]) (congrArg (fun w9 : Int64 => ([.long w9] : List Value)) (show (136820 * 32 : Int64) = 4378240 by decide +kernel)) ?_
  refine z_iload B dX12_pack_70 5 rfl ?_
  refine z_i2l (v := 105) B dX12_pack_72 (by decide +kernel) ?_
  refine z_ladd B dX12_pack_73 ?_
  refine z_top (st1 := [.long 4378345]) (congrArg (fun w9 : Int64 => ([.long w9] : List Value)) (show (4378240 + 105 : Int64) = 4378345 by decide +kernel)) ?_
  refine z_ldc2 (v := 96) B (by decide +kernel) dX12_pack_74 ?_
  refine z_lsub B dX12_pack_77 ?_
  refine z_top (st1 := [.long 4378249]) (congrArg (fun w9 : Int64 => ([.long w9] : List Value)) (show (4378345 - 96 : Int64) = 4378249 by decide +kernel)) ?_
  refine z_lstore (lv' := [(6, .long 4378249), (0, .int 100), (1, .int 101), (2, .int 115), (3, .int 116), (4, .int 105), (5, .int 110)]) B dX12_pack_78 (Nat.le_of_ble_eq_true rfl) rfl ?_
  refine z_iload B dX12_pack_80 6 rfl ?_
  refine z_if_ne (tgt := 90) B dX12_pack_82 rfl (fun c_3 => ?_) (fun h9 => absurd h9 (by decide))
  refine z_lload B dX12_pack_90 0 rfl ?_
  refine z_ldc2 (v := 32) B (by decide +kernel) dX12_pack_92 ?_
  refine z_lmul B dX12_pack_95 ?_
  refine z_top (st1 := [.long 140103968]) (congrArg (fun w9 : Int64 => ([.long w9] : List Value)) (show (4378249 * 32 : Int64) = 140103968 by decide +kernel)) ?_
  refine z_iload B dX12_pack_96 6 rfl ?_
  refine z_i2l (v := 110) B dX12_pack_98 (by decide +kernel) ?_
  refine z_ladd B dX12_pack_99 ?_
  refine z_top (st1 := [.long 140104078]) (congrArg (fun w9 : Int64 => ([.long w9] : List Value)) (show (140103968 + 110 : Int64) = 140104078 by decide +kernel)) ?_
  refine z_ldc2 (v := 96) B (by decide +kernel) dX12_pack_100 ?_
  refine z_lsub B dX12_pack_103 ?_
  refine z_top (st1 := [.long 140103982]) (congrArg (fun w9 : Int64 => ([.long w9] : List Value)) (show (140104078 - 96 : Int64) = 140103982 by decide +kernel)) ?_
  exact z_ret_l B dX12_pack_104 ⟨rfl, rfl, hI, (fun b9 h9 => rfl)⟩

set_option maxHeartbeats 4000000 in
set_option maxRecDepth 100000 in
theorem r_pack_100_114_111_112_0_0 (G : EnvG) (l : Launch) (Φ : Hm) (sz x : Nat) (rd : (Nat → Int32) → Prop) (fl : Nat) (pe : Nat) (le : Nat) (nx : Nat) (il : Nat) (qu : Nat) (kn : Int32) (ec : Int32) (nu : Int32) (va : Int64)  (hx : G.2.2.2 ≤ x) (hI : Im G x (rd, NN, fl, pe, le, nx, il, qu, kn, ec, nu, va) Φ)  : Ct G l yX12_pack wsX12_pack ({ frames := 0, cells := 0, slots := 0, locals := 0 }) 0 0 [.int 100, .int 114, .int 111, .int 112, .int 0, .int 0] Φ sz (fun v Φ1 sz1 => (v = some (.long 150000)) ∧ sz1 = sz ∧ (Im G x (rd, NN, fl, pe, le, nx, il, qu, kn, ec, nu, va) Φ1) ∧ Fr x (fun j9 => False) Φ Φ1) := by
  refine Ct.of (cc := cX12_pack) (maxL := 8) (ret := (some .long)) (by decide) rfl (Nat.le_of_ble_eq_true rfl) ?_
  intro p9 e9 s9 m9 w9 t9 k9 B
  show Z p9 l e9 _ s9 m9 _ w9 t9 k9 _ G 8 0 [(0, .int 100), (1, .int 114), (2, .int 111), (3, .int 112), (4, .int 0), (5, .int 0)] [] Φ sz 0 0
  refine z_iload_n B dX12_pack_0 rfl 0 rfl ?_
  refine z_i2l (v := 100) B dX12_pack_1 (by decide +kernel) ?_
  refine z_ldc2 (v := 96) B (by decide +kernel) dX12_pack_2 ?_
  refine z_lsub B dX12_pack_5 ?_
  refine z_top (st1 := [.long 4]) (congrArg (fun w9 : Int64 => ([.long w9] : List Value)) (show (100 - 96 : Int64) = 4 by decide +kernel)) ?_
  refine z_ldc2 (v := 32) B (by decide +kernel) dX12_pack_6 ?_
  refine z_lmul B dX12_pack_9 ?_
  refine z_top (st1 := [.long 128]) (congrArg (fun w9 : Int64 => ([.long w9] : List Value)) (show (4 * 32 : Int64) = 128 by decide +kernel)) ?_
  refine z_iload_n B dX12_pack_10 rfl 1 rfl ?_
  refine z_i2l (v := 114) B dX12_pack_11 (by decide +kernel) ?_
  refine z_ladd B dX12_pack_12 ?_
  refine z_top (st1 := [.long 242]) (congrArg (fun w9 : Int64 => ([.long w9] : List Value)) (show (128 + 114 : Int64) = 242 by decide +kernel)) ?_
  refine z_ldc2 (v := 96) B (by decide +kernel) dX12_pack_13 ?_
  refine z_lsub B dX12_pack_16 ?_
  refine z_top (st1 := [.long 146]) (congrArg (fun w9 : Int64 => ([.long w9] : List Value)) (show (242 - 96 : Int64) = 146 by decide +kernel)) ?_
  refine z_ldc2 (v := 32) B (by decide +kernel) dX12_pack_17 ?_
  refine z_lmul B dX12_pack_20 ?_
  refine z_top (st1 := [.long 4672]) (congrArg (fun w9 : Int64 => ([.long w9] : List Value)) (show (146 * 32 : Int64) = 4672 by decide +kernel)) ?_
  refine z_iload_n B dX12_pack_21 rfl 2 rfl ?_
  refine z_i2l (v := 111) B dX12_pack_22 (by decide +kernel) ?_
  refine z_ladd B dX12_pack_23 ?_
  refine z_top (st1 := [.long 4783]) (congrArg (fun w9 : Int64 => ([.long w9] : List Value)) (show (4672 + 111 : Int64) = 4783 by decide +kernel)) ?_
  refine z_ldc2 (v := 96) B (by decide +kernel) dX12_pack_24 ?_
  refine z_lsub B dX12_pack_27 ?_
  refine z_top (st1 := [.long 4687]) (congrArg (fun w9 : Int64 => ([.long w9] : List Value)) (show (4783 - 96 : Int64) = 4687 by decide +kernel)) ?_
  refine z_lstore (lv' := [(6, .long 4687), (0, .int 100), (1, .int 114), (2, .int 111), (3, .int 112), (4, .int 0), (5, .int 0)]) B dX12_pack_28 (Nat.le_of_ble_eq_true rfl) rfl ?_
  refine z_iload_n B dX12_pack_30 rfl 4 rfl ?_
  refine z_if_ne (tgt := 39) B dX12_pack_31 rfl (fun c_1 => ?_) (fun h9 => absurd h9 (by decide))
  refine z_lload B dX12_pack_39 0 rfl ?_
  refine z_ldc2 (v := 32) B (by decide +kernel) dX12_pack_41 ?_
  refine z_lmul B dX12_pack_44 ?_
  refine z_top (st1 := [.long 149984]) (congrArg (fun w9 : Int64 => ([.long w9] : List Value)) (show (4687 * 32 : Int64) = 149984 by decide +kernel)) ?_
  refine z_iload_n B dX12_pack_45 rfl 4 rfl ?_
  refine z_i2l (v := 112) B dX12_pack_46 (by decide +kernel) ?_
  refine z_ladd B dX12_pack_47 ?_
  refine z_top (st1 := [.long 150096]) (congrArg (fun w9 : Int64 => ([.long w9] : List Value)) (show (149984 + 112 : Int64) = 150096 by decide +kernel)) ?_
  refine z_ldc2 (v := 96) B (by decide +kernel) dX12_pack_48 ?_
  refine z_lsub B dX12_pack_51 ?_
  refine z_top (st1 := [.long 150000]) (congrArg (fun w9 : Int64 => ([.long w9] : List Value)) (show (150096 - 96 : Int64) = 150000 by decide +kernel)) ?_
  refine z_lstore (lv' := [(6, .long 150000), (0, .int 100), (1, .int 114), (2, .int 111), (3, .int 112), (4, .int 0), (5, .int 0)]) B dX12_pack_52 (Nat.le_of_ble_eq_true rfl) rfl ?_
  refine z_iload B dX12_pack_54 5 rfl ?_
  refine z_if_ne (tgt := 64) B dX12_pack_56 rfl (fun h9 => absurd (by decide) h9) (fun c_2 => ?_)
  refine z_lload B dX12_pack_59 0 rfl ?_
  refine z_goto (tgt := 78) B dX12_pack_61 rfl ?_
  refine z_lstore (lv' := [(6, .long 150000), (0, .int 100), (1, .int 114), (2, .int 111), (3, .int 112), (4, .int 0), (5, .int 0)]) B dX12_pack_78 (Nat.le_of_ble_eq_true rfl) rfl ?_
  refine z_iload B dX12_pack_80 6 rfl ?_
  refine z_if_ne (tgt := 90) B dX12_pack_82 rfl (fun h9 => absurd (by decide) h9) (fun c_3 => ?_)
  refine z_lload B dX12_pack_85 0 rfl ?_
  refine z_goto (tgt := 104) B dX12_pack_87 rfl ?_
  exact z_ret_l B dX12_pack_104 ⟨rfl, rfl, hI, (fun b9 h9 => rfl)⟩

set_option maxHeartbeats 4000000 in
set_option maxRecDepth 100000 in
theorem r_pack_101_115_104_0_0_0 (G : EnvG) (l : Launch) (Φ : Hm) (sz x : Nat) (rd : (Nat → Int32) → Prop) (fl : Nat) (pe : Nat) (le : Nat) (nx : Nat) (il : Nat) (qu : Nat) (kn : Int32) (ec : Int32) (nu : Int32) (va : Int64)  (hx : G.2.2.2 ≤ x) (hI : Im G x (rd, NN, fl, pe, le, nx, il, qu, kn, ec, nu, va) Φ)  : Ct G l yX12_pack wsX12_pack ({ frames := 0, cells := 0, slots := 0, locals := 0 }) 0 0 [.int 101, .int 115, .int 104, .int 0, .int 0, .int 0] Φ sz (fun v Φ1 sz1 => (v = some (.long 5736)) ∧ sz1 = sz ∧ (Im G x (rd, NN, fl, pe, le, nx, il, qu, kn, ec, nu, va) Φ1) ∧ Fr x (fun j9 => False) Φ Φ1) := by
  refine Ct.of (cc := cX12_pack) (maxL := 8) (ret := (some .long)) (by decide) rfl (Nat.le_of_ble_eq_true rfl) ?_
  intro p9 e9 s9 m9 w9 t9 k9 B
  show Z p9 l e9 _ s9 m9 _ w9 t9 k9 _ G 8 0 [(0, .int 101), (1, .int 115), (2, .int 104), (3, .int 0), (4, .int 0), (5, .int 0)] [] Φ sz 0 0
  refine z_iload_n B dX12_pack_0 rfl 0 rfl ?_
  refine z_i2l (v := 101) B dX12_pack_1 (by decide +kernel) ?_
  refine z_ldc2 (v := 96) B (by decide +kernel) dX12_pack_2 ?_
  refine z_lsub B dX12_pack_5 ?_
  refine z_top (st1 := [.long 5]) (congrArg (fun w9 : Int64 => ([.long w9] : List Value)) (show (101 - 96 : Int64) = 5 by decide +kernel)) ?_
  refine z_ldc2 (v := 32) B (by decide +kernel) dX12_pack_6 ?_
  refine z_lmul B dX12_pack_9 ?_
  refine z_top (st1 := [.long 160]) (congrArg (fun w9 : Int64 => ([.long w9] : List Value)) (show (5 * 32 : Int64) = 160 by decide +kernel)) ?_
  refine z_iload_n B dX12_pack_10 rfl 1 rfl ?_
  refine z_i2l (v := 115) B dX12_pack_11 (by decide +kernel) ?_
  refine z_ladd B dX12_pack_12 ?_
  refine z_top (st1 := [.long 275]) (congrArg (fun w9 : Int64 => ([.long w9] : List Value)) (show (160 + 115 : Int64) = 275 by decide +kernel)) ?_
  refine z_ldc2 (v := 96) B (by decide +kernel) dX12_pack_13 ?_
  refine z_lsub B dX12_pack_16 ?_
  refine z_top (st1 := [.long 179]) (congrArg (fun w9 : Int64 => ([.long w9] : List Value)) (show (275 - 96 : Int64) = 179 by decide +kernel)) ?_
  refine z_ldc2 (v := 32) B (by decide +kernel) dX12_pack_17 ?_
  refine z_lmul B dX12_pack_20 ?_
  refine z_top (st1 := [.long 5728]) (congrArg (fun w9 : Int64 => ([.long w9] : List Value)) (show (179 * 32 : Int64) = 5728 by decide +kernel)) ?_
  refine z_iload_n B dX12_pack_21 rfl 2 rfl ?_
  refine z_i2l (v := 104) B dX12_pack_22 (by decide +kernel) ?_
  refine z_ladd B dX12_pack_23 ?_
  refine z_top (st1 := [.long 5832]) (congrArg (fun w9 : Int64 => ([.long w9] : List Value)) (show (5728 + 104 : Int64) = 5832 by decide +kernel)) ?_
  refine z_ldc2 (v := 96) B (by decide +kernel) dX12_pack_24 ?_
  refine z_lsub B dX12_pack_27 ?_
  refine z_top (st1 := [.long 5736]) (congrArg (fun w9 : Int64 => ([.long w9] : List Value)) (show (5832 - 96 : Int64) = 5736 by decide +kernel)) ?_
  refine z_lstore (lv' := [(6, .long 5736), (0, .int 101), (1, .int 115), (2, .int 104), (3, .int 0), (4, .int 0), (5, .int 0)]) B dX12_pack_28 (Nat.le_of_ble_eq_true rfl) rfl ?_
  refine z_iload_n B dX12_pack_30 rfl 4 rfl ?_
  refine z_if_ne (tgt := 39) B dX12_pack_31 rfl (fun h9 => absurd (by decide) h9) (fun c_1 => ?_)
  refine z_lload B dX12_pack_34 0 rfl ?_
  refine z_goto (tgt := 52) B dX12_pack_36 rfl ?_
  refine z_lstore (lv' := [(6, .long 5736), (0, .int 101), (1, .int 115), (2, .int 104), (3, .int 0), (4, .int 0), (5, .int 0)]) B dX12_pack_52 (Nat.le_of_ble_eq_true rfl) rfl ?_
  refine z_iload B dX12_pack_54 5 rfl ?_
  refine z_if_ne (tgt := 64) B dX12_pack_56 rfl (fun h9 => absurd (by decide) h9) (fun c_2 => ?_)
  refine z_lload B dX12_pack_59 0 rfl ?_
  refine z_goto (tgt := 78) B dX12_pack_61 rfl ?_
  refine z_lstore (lv' := [(6, .long 5736), (0, .int 101), (1, .int 115), (2, .int 104), (3, .int 0), (4, .int 0), (5, .int 0)]) B dX12_pack_78 (Nat.le_of_ble_eq_true rfl) rfl ?_
  refine z_iload B dX12_pack_80 6 rfl ?_
  refine z_if_ne (tgt := 90) B dX12_pack_82 rfl (fun h9 => absurd (by decide) h9) (fun c_3 => ?_)
  refine z_lload B dX12_pack_85 0 rfl ?_
  refine z_goto (tgt := 104) B dX12_pack_87 rfl ?_
  exact z_ret_l B dX12_pack_104 ⟨rfl, rfl, hI, (fun b9 h9 => rfl)⟩

set_option maxHeartbeats 4000000 in
set_option maxRecDepth 100000 in
theorem r_pack_101_116_115_0_0_0 (G : EnvG) (l : Launch) (Φ : Hm) (sz x : Nat) (rd : (Nat → Int32) → Prop) (fl : Nat) (pe : Nat) (le : Nat) (nx : Nat) (il : Nat) (qu : Nat) (kn : Int32) (ec : Int32) (nu : Int32) (va : Int64)  (hx : G.2.2.2 ≤ x) (hI : Im G x (rd, NN, fl, pe, le, nx, il, qu, kn, ec, nu, va) Φ)  : Ct G l yX12_pack wsX12_pack ({ frames := 0, cells := 0, slots := 0, locals := 0 }) 0 0 [.int 101, .int 116, .int 115, .int 0, .int 0, .int 0] Φ sz (fun v Φ1 sz1 => (v = some (.long 5779)) ∧ sz1 = sz ∧ (Im G x (rd, NN, fl, pe, le, nx, il, qu, kn, ec, nu, va) Φ1) ∧ Fr x (fun j9 => False) Φ Φ1) := by
  refine Ct.of (cc := cX12_pack) (maxL := 8) (ret := (some .long)) (by decide) rfl (Nat.le_of_ble_eq_true rfl) ?_
  intro p9 e9 s9 m9 w9 t9 k9 B
  show Z p9 l e9 _ s9 m9 _ w9 t9 k9 _ G 8 0 [(0, .int 101), (1, .int 116), (2, .int 115), (3, .int 0), (4, .int 0), (5, .int 0)] [] Φ sz 0 0
  refine z_iload_n B dX12_pack_0 rfl 0 rfl ?_
  refine z_i2l (v := 101) B dX12_pack_1 (by decide +kernel) ?_
  refine z_ldc2 (v := 96) B (by decide +kernel) dX12_pack_2 ?_
  refine z_lsub B dX12_pack_5 ?_
  refine z_top (st1 := [.long 5]) (congrArg (fun w9 : Int64 => ([.long w9] : List Value)) (show (101 - 96 : Int64) = 5 by decide +kernel)) ?_
  refine z_ldc2 (v := 32) B (by decide +kernel) dX12_pack_6 ?_
  refine z_lmul B dX12_pack_9 ?_
  refine z_top (st1 := [.long 160]) (congrArg (fun w9 : Int64 => ([.long w9] : List Value)) (show (5 * 32 : Int64) = 160 by decide +kernel)) ?_
  refine z_iload_n B dX12_pack_10 rfl 1 rfl ?_
  refine z_i2l (v := 116) B dX12_pack_11 (by decide +kernel) ?_
  refine z_ladd B dX12_pack_12 ?_
  refine z_top (st1 := [.long 276]) (congrArg (fun w9 : Int64 => ([.long w9] : List Value)) (show (160 + 116 : Int64) = 276 by decide +kernel)) ?_
  refine z_ldc2 (v := 96) B (by decide +kernel) dX12_pack_13 ?_
  refine z_lsub B dX12_pack_16 ?_
  refine z_top (st1 := [.long 180]) (congrArg (fun w9 : Int64 => ([.long w9] : List Value)) (show (276 - 96 : Int64) = 180 by decide +kernel)) ?_
  refine z_ldc2 (v := 32) B (by decide +kernel) dX12_pack_17 ?_
  refine z_lmul B dX12_pack_20 ?_
  refine z_top (st1 := [.long 5760]) (congrArg (fun w9 : Int64 => ([.long w9] : List Value)) (show (180 * 32 : Int64) = 5760 by decide +kernel)) ?_
  refine z_iload_n B dX12_pack_21 rfl 2 rfl ?_
  refine z_i2l (v := 115) B dX12_pack_22 (by decide +kernel) ?_
  refine z_ladd B dX12_pack_23 ?_
  refine z_top (st1 := [.long 5875]) (congrArg (fun w9 : Int64 => ([.long w9] : List Value)) (show (5760 + 115 : Int64) = 5875 by decide +kernel)) ?_
  refine z_ldc2 (v := 96) B (by decide +kernel) dX12_pack_24 ?_
  refine z_lsub B dX12_pack_27 ?_
  refine z_top (st1 := [.long 5779]) (congrArg (fun w9 : Int64 => ([.long w9] : List Value)) (show (5875 - 96 : Int64) = 5779 by decide +kernel)) ?_
  refine z_lstore (lv' := [(6, .long 5779), (0, .int 101), (1, .int 116), (2, .int 115), (3, .int 0), (4, .int 0), (5, .int 0)]) B dX12_pack_28 (Nat.le_of_ble_eq_true rfl) rfl ?_
  refine z_iload_n B dX12_pack_30 rfl 4 rfl ?_
  refine z_if_ne (tgt := 39) B dX12_pack_31 rfl (fun h9 => absurd (by decide) h9) (fun c_1 => ?_)
  refine z_lload B dX12_pack_34 0 rfl ?_
  refine z_goto (tgt := 52) B dX12_pack_36 rfl ?_
  refine z_lstore (lv' := [(6, .long 5779), (0, .int 101), (1, .int 116), (2, .int 115), (3, .int 0), (4, .int 0), (5, .int 0)]) B dX12_pack_52 (Nat.le_of_ble_eq_true rfl) rfl ?_
  refine z_iload B dX12_pack_54 5 rfl ?_
  refine z_if_ne (tgt := 64) B dX12_pack_56 rfl (fun h9 => absurd (by decide) h9) (fun c_2 => ?_)
  refine z_lload B dX12_pack_59 0 rfl ?_
  refine z_goto (tgt := 78) B dX12_pack_61 rfl ?_
  refine z_lstore (lv' := [(6, .long 5779), (0, .int 101), (1, .int 116), (2, .int 115), (3, .int 0), (4, .int 0), (5, .int 0)]) B dX12_pack_78 (Nat.le_of_ble_eq_true rfl) rfl ?_
  refine z_iload B dX12_pack_80 6 rfl ?_
  refine z_if_ne (tgt := 90) B dX12_pack_82 rfl (fun h9 => absurd (by decide) h9) (fun c_3 => ?_)
  refine z_lload B dX12_pack_85 0 rfl ?_
  refine z_goto (tgt := 104) B dX12_pack_87 rfl ?_
  exact z_ret_l B dX12_pack_104 ⟨rfl, rfl, hI, (fun b9 h9 => rfl)⟩

set_option maxHeartbeats 4000000 in
set_option maxRecDepth 100000 in
theorem r_pack_102_105_114_115_116_0 (G : EnvG) (l : Launch) (Φ : Hm) (sz x : Nat) (rd : (Nat → Int32) → Prop) (fl : Nat) (pe : Nat) (le : Nat) (nx : Nat) (il : Nat) (qu : Nat) (kn : Int32) (ec : Int32) (nu : Int32) (va : Int64)  (hx : G.2.2.2 ≤ x) (hI : Im G x (rd, NN, fl, pe, le, nx, il, qu, kn, ec, nu, va) Φ)  : Ct G l yX12_pack wsX12_pack ({ frames := 0, cells := 0, slots := 0, locals := 0 }) 0 0 [.int 102, .int 105, .int 114, .int 115, .int 116, .int 0] Φ sz (fun v Φ1 sz1 => (v = some (.long 6605428)) ∧ sz1 = sz ∧ (Im G x (rd, NN, fl, pe, le, nx, il, qu, kn, ec, nu, va) Φ1) ∧ Fr x (fun j9 => False) Φ Φ1) := by
  refine Ct.of (cc := cX12_pack) (maxL := 8) (ret := (some .long)) (by decide) rfl (Nat.le_of_ble_eq_true rfl) ?_
  intro p9 e9 s9 m9 w9 t9 k9 B
  show Z p9 l e9 _ s9 m9 _ w9 t9 k9 _ G 8 0 [(0, .int 102), (1, .int 105), (2, .int 114), (3, .int 115), (4, .int 116), (5, .int 0)] [] Φ sz 0 0
  refine z_iload_n B dX12_pack_0 rfl 0 rfl ?_
  refine z_i2l (v := 102) B dX12_pack_1 (by decide +kernel) ?_
  refine z_ldc2 (v := 96) B (by decide +kernel) dX12_pack_2 ?_
  refine z_lsub B dX12_pack_5 ?_
  refine z_top (st1 := [.long 6]) (congrArg (fun w9 : Int64 => ([.long w9] : List Value)) (show (102 - 96 : Int64) = 6 by decide +kernel)) ?_
  refine z_ldc2 (v := 32) B (by decide +kernel) dX12_pack_6 ?_
  refine z_lmul B dX12_pack_9 ?_
  refine z_top (st1 := [.long 192]) (congrArg (fun w9 : Int64 => ([.long w9] : List Value)) (show (6 * 32 : Int64) = 192 by decide +kernel)) ?_
  refine z_iload_n B dX12_pack_10 rfl 1 rfl ?_
  refine z_i2l (v := 105) B dX12_pack_11 (by decide +kernel) ?_
  refine z_ladd B dX12_pack_12 ?_
  refine z_top (st1 := [.long 297]) (congrArg (fun w9 : Int64 => ([.long w9] : List Value)) (show (192 + 105 : Int64) = 297 by decide +kernel)) ?_
  refine z_ldc2 (v := 96) B (by decide +kernel) dX12_pack_13 ?_
  refine z_lsub B dX12_pack_16 ?_
  refine z_top (st1 := [.long 201]) (congrArg (fun w9 : Int64 => ([.long w9] : List Value)) (show (297 - 96 : Int64) = 201 by decide +kernel)) ?_
  refine z_ldc2 (v := 32) B (by decide +kernel) dX12_pack_17 ?_
  refine z_lmul B dX12_pack_20 ?_
  refine z_top (st1 := [.long 6432]) (congrArg (fun w9 : Int64 => ([.long w9] : List Value)) (show (201 * 32 : Int64) = 6432 by decide +kernel)) ?_
  refine z_iload_n B dX12_pack_21 rfl 2 rfl ?_
  refine z_i2l (v := 114) B dX12_pack_22 (by decide +kernel) ?_
  refine z_ladd B dX12_pack_23 ?_
  refine z_top (st1 := [.long 6546]) (congrArg (fun w9 : Int64 => ([.long w9] : List Value)) (show (6432 + 114 : Int64) = 6546 by decide +kernel)) ?_
  refine z_ldc2 (v := 96) B (by decide +kernel) dX12_pack_24 ?_
  refine z_lsub B dX12_pack_27 ?_
  refine z_top (st1 := [.long 6450]) (congrArg (fun w9 : Int64 => ([.long w9] : List Value)) (show (6546 - 96 : Int64) = 6450 by decide +kernel)) ?_
  refine z_lstore (lv' := [(6, .long 6450), (0, .int 102), (1, .int 105), (2, .int 114), (3, .int 115), (4, .int 116), (5, .int 0)]) B dX12_pack_28 (Nat.le_of_ble_eq_true rfl) rfl ?_
  refine z_iload_n B dX12_pack_30 rfl 4 rfl ?_
  refine z_if_ne (tgt := 39) B dX12_pack_31 rfl (fun c_1 => ?_) (fun h9 => absurd h9 (by decide))
  refine z_lload B dX12_pack_39 0 rfl ?_
  refine z_ldc2 (v := 32) B (by decide +kernel) dX12_pack_41 ?_
  refine z_lmul B dX12_pack_44 ?_
  refine z_top (st1 := [.long 206400]) (congrArg (fun w9 : Int64 => ([.long w9] : List Value)) (show (6450 * 32 : Int64) = 206400 by decide +kernel)) ?_
  refine z_iload_n B dX12_pack_45 rfl 4 rfl ?_
  refine z_i2l (v := 115) B dX12_pack_46 (by decide +kernel) ?_
  refine z_ladd B dX12_pack_47 ?_
  refine z_top (st1 := [.long 206515]) (congrArg (fun w9 : Int64 => ([.long w9] : List Value)) (show (206400 + 115 : Int64) = 206515 by decide +kernel)) ?_
  refine z_ldc2 (v := 96) B (by decide +kernel) dX12_pack_48 ?_
  refine z_lsub B dX12_pack_51 ?_
  refine z_top (st1 := [.long 206419]) (congrArg (fun w9 : Int64 => ([.long w9] : List Value)) (show (206515 - 96 : Int64) = 206419 by decide +kernel)) ?_
  refine z_lstore (lv' := [(6, .long 206419), (0, .int 102), (1, .int 105), (2, .int 114), (3, .int 115), (4, .int 116), (5, .int 0)]) B dX12_pack_52 (Nat.le_of_ble_eq_true rfl) rfl ?_
  refine z_iload B dX12_pack_54 5 rfl ?_
  refine z_if_ne (tgt := 64) B dX12_pack_56 rfl (fun c_2 => ?_) (fun h9 => absurd h9 (by decide))
  refine z_lload B dX12_pack_64 0 rfl ?_
  refine z_ldc2 (v := 32) B (by decide +kernel) dX12_pack_66 ?_
  refine z_lmul B dX12_pack_69 ?_
  refine z_top (st1 := [.long 6605408]) (congrArg (fun w9 : Int64 => ([.long w9] : List Value)) (show (206419 * 32 : Int64) = 6605408 by decide +kernel)) ?_
  refine z_iload B dX12_pack_70 5 rfl ?_
  refine z_i2l (v := 116) B dX12_pack_72 (by decide +kernel) ?_
  refine z_ladd B dX12_pack_73 ?_
  refine z_top (st1 := [.long 6605524]) (congrArg (fun w9 : Int64 => ([.long w9] : List Value)) (show (6605408 + 116 : Int64) = 6605524 by decide +kernel)) ?_
  refine z_ldc2 (v := 96) B (by decide +kernel) dX12_pack_74 ?_
  refine z_lsub B dX12_pack_77 ?_
  refine z_top (st1 := [.long 6605428]) (congrArg (fun w9 : Int64 => ([.long w9] : List Value)) (show (6605524 - 96 : Int64) = 6605428 by decide +kernel)) ?_
  refine z_lstore (lv' := [(6, .long 6605428), (0, .int 102), (1, .int 105), (2, .int 114), (3, .int 115), (4, .int 116), (5, .int 0)]) B dX12_pack_78 (Nat.le_of_ble_eq_true rfl) rfl ?_
  refine z_iload B dX12_pack_80 6 rfl ?_
  refine z_if_ne (tgt := 90) B dX12_pack_82 rfl (fun h9 => absurd (by decide) h9) (fun c_3 => ?_)
  refine z_lload B dX12_pack_85 0 rfl ?_
  refine z_goto (tgt := 104) B dX12_pack_87 rfl ?_
  exact z_ret_l B dX12_pack_104 ⟨rfl, rfl, hI, (fun b9 h9 => rfl)⟩

set_option maxHeartbeats 4000000 in
set_option maxRecDepth 100000 in
theorem r_pack_105_109_101_0_0_0 (G : EnvG) (l : Launch) (Φ : Hm) (sz x : Nat) (rd : (Nat → Int32) → Prop) (fl : Nat) (pe : Nat) (le : Nat) (nx : Nat) (il : Nat) (qu : Nat) (kn : Int32) (ec : Int32) (nu : Int32) (va : Int64)  (hx : G.2.2.2 ≤ x) (hI : Im G x (rd, NN, fl, pe, le, nx, il, qu, kn, ec, nu, va) Φ)  : Ct G l yX12_pack wsX12_pack ({ frames := 0, cells := 0, slots := 0, locals := 0 }) 0 0 [.int 105, .int 109, .int 101, .int 0, .int 0, .int 0] Φ sz (fun v Φ1 sz1 => (v = some (.long 9637)) ∧ sz1 = sz ∧ (Im G x (rd, NN, fl, pe, le, nx, il, qu, kn, ec, nu, va) Φ1) ∧ Fr x (fun j9 => False) Φ Φ1) := by
  refine Ct.of (cc := cX12_pack) (maxL := 8) (ret := (some .long)) (by decide) rfl (Nat.le_of_ble_eq_true rfl) ?_
  intro p9 e9 s9 m9 w9 t9 k9 B
  show Z p9 l e9 _ s9 m9 _ w9 t9 k9 _ G 8 0 [(0, .int 105), (1, .int 109), (2, .int 101), (3, .int 0), (4, .int 0), (5, .int 0)] [] Φ sz 0 0
  refine z_iload_n B dX12_pack_0 rfl 0 rfl ?_
  refine z_i2l (v := 105) B dX12_pack_1 (by decide +kernel) ?_
  refine z_ldc2 (v := 96) B (by decide +kernel) dX12_pack_2 ?_
  refine z_lsub B dX12_pack_5 ?_
  refine z_top (st1 := [.long 9]) (congrArg (fun w9 : Int64 => ([.long w9] : List Value)) (show (105 - 96 : Int64) = 9 by decide +kernel)) ?_
  refine z_ldc2 (v := 32) B (by decide +kernel) dX12_pack_6 ?_
  refine z_lmul B dX12_pack_9 ?_
  refine z_top (st1 := [.long 288]) (congrArg (fun w9 : Int64 => ([.long w9] : List Value)) (show (9 * 32 : Int64) = 288 by decide +kernel)) ?_
  refine z_iload_n B dX12_pack_10 rfl 1 rfl ?_
  refine z_i2l (v := 109) B dX12_pack_11 (by decide +kernel) ?_
  refine z_ladd B dX12_pack_12 ?_
  refine z_top (st1 := [.long 397]) (congrArg (fun w9 : Int64 => ([.long w9] : List Value)) (show (288 + 109 : Int64) = 397 by decide +kernel)) ?_
  refine z_ldc2 (v := 96) B (by decide +kernel) dX12_pack_13 ?_
  refine z_lsub B dX12_pack_16 ?_
  refine z_top (st1 := [.long 301]) (congrArg (fun w9 : Int64 => ([.long w9] : List Value)) (show (397 - 96 : Int64) = 301 by decide +kernel)) ?_
  refine z_ldc2 (v := 32) B (by decide +kernel) dX12_pack_17 ?_
  refine z_lmul B dX12_pack_20 ?_
  refine z_top (st1 := [.long 9632]) (congrArg (fun w9 : Int64 => ([.long w9] : List Value)) (show (301 * 32 : Int64) = 9632 by decide +kernel)) ?_
  refine z_iload_n B dX12_pack_21 rfl 2 rfl ?_
  refine z_i2l (v := 101) B dX12_pack_22 (by decide +kernel) ?_
  refine z_ladd B dX12_pack_23 ?_
  refine z_top (st1 := [.long 9733]) (congrArg (fun w9 : Int64 => ([.long w9] : List Value)) (show (9632 + 101 : Int64) = 9733 by decide +kernel)) ?_
  refine z_ldc2 (v := 96) B (by decide +kernel) dX12_pack_24 ?_
  refine z_lsub B dX12_pack_27 ?_
  refine z_top (st1 := [.long 9637]) (congrArg (fun w9 : Int64 => ([.long w9] : List Value)) (show (9733 - 96 : Int64) = 9637 by decide +kernel)) ?_
  refine z_lstore (lv' := [(6, .long 9637), (0, .int 105), (1, .int 109), (2, .int 101), (3, .int 0), (4, .int 0), (5, .int 0)]) B dX12_pack_28 (Nat.le_of_ble_eq_true rfl) rfl ?_
  refine z_iload_n B dX12_pack_30 rfl 4 rfl ?_
  refine z_if_ne (tgt := 39) B dX12_pack_31 rfl (fun h9 => absurd (by decide) h9) (fun c_1 => ?_)
  refine z_lload B dX12_pack_34 0 rfl ?_
  refine z_goto (tgt := 52) B dX12_pack_36 rfl ?_
  refine z_lstore (lv' := [(6, .long 9637), (0, .int 105), (1, .int 109), (2, .int 101), (3, .int 0), (4, .int 0), (5, .int 0)]) B dX12_pack_52 (Nat.le_of_ble_eq_true rfl) rfl ?_
  refine z_iload B dX12_pack_54 5 rfl ?_
  refine z_if_ne (tgt := 64) B dX12_pack_56 rfl (fun h9 => absurd (by decide) h9) (fun c_2 => ?_)
  refine z_lload B dX12_pack_59 0 rfl ?_
  refine z_goto (tgt := 78) B dX12_pack_61 rfl ?_
  refine z_lstore (lv' := [(6, .long 9637), (0, .int 105), (1, .int 109), (2, .int 101), (3, .int 0), (4, .int 0), (5, .int 0)]) B dX12_pack_78 (Nat.le_of_ble_eq_true rfl) rfl ?_
  refine z_iload B dX12_pack_80 6 rfl ?_
  refine z_if_ne (tgt := 90) B dX12_pack_82 rfl (fun h9 => absurd (by decide) h9) (fun c_3 => ?_)
  refine z_lload B dX12_pack_85 0 rfl ?_
  refine z_goto (tgt := 104) B dX12_pack_87 rfl ?_
  exact z_ret_l B dX12_pack_104 ⟨rfl, rfl, hI, (fun b9 h9 => rfl)⟩

set_option maxHeartbeats 4000000 in
set_option maxRecDepth 100000 in
theorem r_pack_105_110_97_99_116_0 (G : EnvG) (l : Launch) (Φ : Hm) (sz x : Nat) (rd : (Nat → Int32) → Prop) (fl : Nat) (pe : Nat) (le : Nat) (nx : Nat) (il : Nat) (qu : Nat) (kn : Int32) (ec : Int32) (nu : Int32) (va : Int64)  (hx : G.2.2.2 ≤ x) (hI : Im G x (rd, NN, fl, pe, le, nx, il, qu, kn, ec, nu, va) Φ)  : Ct G l yX12_pack wsX12_pack ({ frames := 0, cells := 0, slots := 0, locals := 0 }) 0 0 [.int 105, .int 110, .int 97, .int 99, .int 116, .int 0] Φ sz (fun v Φ1 sz1 => (v = some (.long 9897076)) ∧ sz1 = sz ∧ (Im G x (rd, NN, fl, pe, le, nx, il, qu, kn, ec, nu, va) Φ1) ∧ Fr x (fun j9 => False) Φ Φ1) := by
  refine Ct.of (cc := cX12_pack) (maxL := 8) (ret := (some .long)) (by decide) rfl (Nat.le_of_ble_eq_true rfl) ?_
  intro p9 e9 s9 m9 w9 t9 k9 B
  show Z p9 l e9 _ s9 m9 _ w9 t9 k9 _ G 8 0 [(0, .int 105), (1, .int 110), (2, .int 97), (3, .int 99), (4, .int 116), (5, .int 0)] [] Φ sz 0 0
  refine z_iload_n B dX12_pack_0 rfl 0 rfl ?_
  refine z_i2l (v := 105) B dX12_pack_1 (by decide +kernel) ?_
  refine z_ldc2 (v := 96) B (by decide +kernel) dX12_pack_2 ?_
  refine z_lsub B dX12_pack_5 ?_
  refine z_top (st1 := [.long 9]) (congrArg (fun w9 : Int64 => ([.long w9] : List Value)) (show (105 - 96 : Int64) = 9 by decide +kernel)) ?_
  refine z_ldc2 (v := 32) B (by decide +kernel) dX12_pack_6 ?_
  refine z_lmul B dX12_pack_9 ?_
  refine z_top (st1 := [.long 288]) (congrArg (fun w9 : Int64 => ([.long w9] : List Value)) (show (9 * 32 : Int64) = 288 by decide +kernel)) ?_
  refine z_iload_n B dX12_pack_10 rfl 1 rfl ?_
  refine z_i2l (v := 110) B dX12_pack_11 (by decide +kernel) ?_
  refine z_ladd B dX12_pack_12 ?_
  refine z_top (st1 := [.long 398]) (congrArg (fun w9 : Int64 => ([.long w9] : List Value)) (show (288 + 110 : Int64) = 398 by decide +kernel)) ?_
  refine z_ldc2 (v := 96) B (by decide +kernel) dX12_pack_13 ?_
  refine z_lsub B dX12_pack_16 ?_
  refine z_top (st1 := [.long 302]) (congrArg (fun w9 : Int64 => ([.long w9] : List Value)) (show (398 - 96 : Int64) = 302 by decide +kernel)) ?_
  refine z_ldc2 (v := 32) B (by decide +kernel) dX12_pack_17 ?_
  refine z_lmul B dX12_pack_20 ?_
  refine z_top (st1 := [.long 9664]) (congrArg (fun w9 : Int64 => ([.long w9] : List Value)) (show (302 * 32 : Int64) = 9664 by decide +kernel)) ?_
  refine z_iload_n B dX12_pack_21 rfl 2 rfl ?_
  refine z_i2l (v := 97) B dX12_pack_22 (by decide +kernel) ?_
  refine z_ladd B dX12_pack_23 ?_
  refine z_top (st1 := [.long 9761]) (congrArg (fun w9 : Int64 => ([.long w9] : List Value)) (show (9664 + 97 : Int64) = 9761 by decide +kernel)) ?_
  refine z_ldc2 (v := 96) B (by decide +kernel) dX12_pack_24 ?_
  refine z_lsub B dX12_pack_27 ?_
  refine z_top (st1 := [.long 9665]) (congrArg (fun w9 : Int64 => ([.long w9] : List Value)) (show (9761 - 96 : Int64) = 9665 by decide +kernel)) ?_
  refine z_lstore (lv' := [(6, .long 9665), (0, .int 105), (1, .int 110), (2, .int 97), (3, .int 99), (4, .int 116), (5, .int 0)]) B dX12_pack_28 (Nat.le_of_ble_eq_true rfl) rfl ?_
  refine z_iload_n B dX12_pack_30 rfl 4 rfl ?_
  refine z_if_ne (tgt := 39) B dX12_pack_31 rfl (fun c_1 => ?_) (fun h9 => absurd h9 (by decide))
  refine z_lload B dX12_pack_39 0 rfl ?_
  refine z_ldc2 (v := 32) B (by decide +kernel) dX12_pack_41 ?_
  refine z_lmul B dX12_pack_44 ?_
  refine z_top (st1 := [.long 309280]) (congrArg (fun w9 : Int64 => ([.long w9] : List Value)) (show (9665 * 32 : Int64) = 309280 by decide +kernel)) ?_
  refine z_iload_n B dX12_pack_45 rfl 4 rfl ?_
  refine z_i2l (v := 99) B dX12_pack_46 (by decide +kernel) ?_
  refine z_ladd B dX12_pack_47 ?_
  refine z_top (st1 := [.long 309379]) (congrArg (fun w9 : Int64 => ([.long w9] : List Value)) (show (309280 + 99 : Int64) = 309379 by decide +kernel)) ?_
  refine z_ldc2 (v := 96) B (by decide +kernel) dX12_pack_48 ?_
  refine z_lsub B dX12_pack_51 ?_
  refine z_top (st1 := [.long 309283]) (congrArg (fun w9 : Int64 => ([.long w9] : List Value)) (show (309379 - 96 : Int64) = 309283 by decide +kernel)) ?_
  refine z_lstore (lv' := [(6, .long 309283), (0, .int 105), (1, .int 110), (2, .int 97), (3, .int 99), (4, .int 116), (5, .int 0)]) B dX12_pack_52 (Nat.le_of_ble_eq_true rfl) rfl ?_
  refine z_iload B dX12_pack_54 5 rfl ?_
  refine z_if_ne (tgt := 64) B dX12_pack_56 rfl (fun c_2 => ?_) (fun h9 => absurd h9 (by decide))
  refine z_lload B dX12_pack_64 0 rfl ?_
  refine z_ldc2 (v := 32) B (by decide +kernel) dX12_pack_66 ?_
  refine z_lmul B dX12_pack_69 ?_
  refine z_top (st1 := [.long 9897056]) (congrArg (fun w9 : Int64 => ([.long w9] : List Value)) (show (309283 * 32 : Int64) = 9897056 by decide +kernel)) ?_
  refine z_iload B dX12_pack_70 5 rfl ?_
  refine z_i2l (v := 116) B dX12_pack_72 (by decide +kernel) ?_
  refine z_ladd B dX12_pack_73 ?_
  refine z_top (st1 := [.long 9897172]) (congrArg (fun w9 : Int64 => ([.long w9] : List Value)) (show (9897056 + 116 : Int64) = 9897172 by decide +kernel)) ?_
  refine z_ldc2 (v := 96) B (by decide +kernel) dX12_pack_74 ?_
  refine z_lsub B dX12_pack_77 ?_
  refine z_top (st1 := [.long 9897076]) (congrArg (fun w9 : Int64 => ([.long w9] : List Value)) (show (9897172 - 96 : Int64) = 9897076 by decide +kernel)) ?_
  refine z_lstore (lv' := [(6, .long 9897076), (0, .int 105), (1, .int 110), (2, .int 97), (3, .int 99), (4, .int 116), (5, .int 0)]) B dX12_pack_78 (Nat.le_of_ble_eq_true rfl) rfl ?_
  refine z_iload B dX12_pack_80 6 rfl ?_
  refine z_if_ne (tgt := 90) B dX12_pack_82 rfl (fun h9 => absurd (by decide) h9) (fun c_3 => ?_)
  refine z_lload B dX12_pack_85 0 rfl ?_
  refine z_goto (tgt := 104) B dX12_pack_87 rfl ?_
  exact z_ret_l B dX12_pack_104 ⟨rfl, rfl, hI, (fun b9 h9 => rfl)⟩

set_option maxHeartbeats 4000000 in
set_option maxRecDepth 100000 in
theorem r_pack_105_110_103_0_0_0 (G : EnvG) (l : Launch) (Φ : Hm) (sz x : Nat) (rd : (Nat → Int32) → Prop) (fl : Nat) (pe : Nat) (le : Nat) (nx : Nat) (il : Nat) (qu : Nat) (kn : Int32) (ec : Int32) (nu : Int32) (va : Int64)  (hx : G.2.2.2 ≤ x) (hI : Im G x (rd, NN, fl, pe, le, nx, il, qu, kn, ec, nu, va) Φ)  : Ct G l yX12_pack wsX12_pack ({ frames := 0, cells := 0, slots := 0, locals := 0 }) 0 0 [.int 105, .int 110, .int 103, .int 0, .int 0, .int 0] Φ sz (fun v Φ1 sz1 => (v = some (.long 9671)) ∧ sz1 = sz ∧ (Im G x (rd, NN, fl, pe, le, nx, il, qu, kn, ec, nu, va) Φ1) ∧ Fr x (fun j9 => False) Φ Φ1) := by
  refine Ct.of (cc := cX12_pack) (maxL := 8) (ret := (some .long)) (by decide) rfl (Nat.le_of_ble_eq_true rfl) ?_
  intro p9 e9 s9 m9 w9 t9 k9 B
  show Z p9 l e9 _ s9 m9 _ w9 t9 k9 _ G 8 0 [(0, .int 105), (1, .int 110), (2, .int 103), (3, .int 0), (4, .int 0), (5, .int 0)] [] Φ sz 0 0
  refine z_iload_n B dX12_pack_0 rfl 0 rfl ?_
  refine z_i2l (v := 105) B dX12_pack_1 (by decide +kernel) ?_
  refine z_ldc2 (v := 96) B (by decide +kernel) dX12_pack_2 ?_
  refine z_lsub B dX12_pack_5 ?_
  refine z_top (st1 := [.long 9]) (congrArg (fun w9 : Int64 => ([.long w9] : List Value)) (show (105 - 96 : Int64) = 9 by decide +kernel)) ?_
  refine z_ldc2 (v := 32) B (by decide +kernel) dX12_pack_6 ?_
  refine z_lmul B dX12_pack_9 ?_
  refine z_top (st1 := [.long 288]) (congrArg (fun w9 : Int64 => ([.long w9] : List Value)) (show (9 * 32 : Int64) = 288 by decide +kernel)) ?_
  refine z_iload_n B dX12_pack_10 rfl 1 rfl ?_
  refine z_i2l (v := 110) B dX12_pack_11 (by decide +kernel) ?_
  refine z_ladd B dX12_pack_12 ?_
  refine z_top (st1 := [.long 398]) (congrArg (fun w9 : Int64 => ([.long w9] : List Value)) (show (288 + 110 : Int64) = 398 by decide +kernel)) ?_
  refine z_ldc2 (v := 96) B (by decide +kernel) dX12_pack_13 ?_
  refine z_lsub B dX12_pack_16 ?_
  refine z_top (st1 := [.long 302]) (congrArg (fun w9 : Int64 => ([.long w9] : List Value)) (show (398 - 96 : Int64) = 302 by decide +kernel)) ?_
  refine z_ldc2 (v := 32) B (by decide +kernel) dX12_pack_17 ?_
  refine z_lmul B dX12_pack_20 ?_
  refine z_top (st1 := [.long 9664]) (congrArg (fun w9 : Int64 => ([.long w9] : List Value)) (show (302 * 32 : Int64) = 9664 by decide +kernel)) ?_
  refine z_iload_n B dX12_pack_21 rfl 2 rfl ?_
  refine z_i2l (v := 103) B dX12_pack_22 (by decide +kernel) ?_
  refine z_ladd B dX12_pack_23 ?_
  refine z_top (st1 := [.long 9767]) (congrArg (fun w9 : Int64 => ([.long w9] : List Value)) (show (9664 + 103 : Int64) = 9767 by decide +kernel)) ?_
  refine z_ldc2 (v := 96) B (by decide +kernel) dX12_pack_24 ?_
  refine z_lsub B dX12_pack_27 ?_
  refine z_top (st1 := [.long 9671]) (congrArg (fun w9 : Int64 => ([.long w9] : List Value)) (show (9767 - 96 : Int64) = 9671 by decide +kernel)) ?_
  refine z_lstore (lv' := [(6, .long 9671), (0, .int 105), (1, .int 110), (2, .int 103), (3, .int 0), (4, .int 0), (5, .int 0)]) B dX12_pack_28 (Nat.le_of_ble_eq_true rfl) rfl ?_
  refine z_iload_n B dX12_pack_30 rfl 4 rfl ?_
  refine z_if_ne (tgt := 39) B dX12_pack_31 rfl (fun h9 => absurd (by decide) h9) (fun c_1 => ?_)
  refine z_lload B dX12_pack_34 0 rfl ?_
  refine z_goto (tgt := 52) B dX12_pack_36 rfl ?_
  refine z_lstore (lv' := [(6, .long 9671), (0, .int 105), (1, .int 110), (2, .int 103), (3, .int 0), (4, .int 0), (5, .int 0)]) B dX12_pack_52 (Nat.le_of_ble_eq_true rfl) rfl ?_
  refine z_iload B dX12_pack_54 5 rfl ?_
  refine z_if_ne (tgt := 64) B dX12_pack_56 rfl (fun h9 => absurd (by decide) h9) (fun c_2 => ?_)
  refine z_lload B dX12_pack_59 0 rfl ?_
  refine z_goto (tgt := 78) B dX12_pack_61 rfl ?_
  refine z_lstore (lv' := [(6, .long 9671), (0, .int 105), (1, .int 110), (2, .int 103), (3, .int 0), (4, .int 0), (5, .int 0)]) B dX12_pack_78 (Nat.le_of_ble_eq_true rfl) rfl ?_
  refine z_iload B dX12_pack_80 6 rfl ?_
  refine z_if_ne (tgt := 90) B dX12_pack_82 rfl (fun h9 => absurd (by decide) h9) (fun c_3 => ?_)
  refine z_lload B dX12_pack_85 0 rfl ?_
  refine z_goto (tgt := 104) B dX12_pack_87 rfl ?_
  exact z_ret_l B dX12_pack_104 ⟨rfl, rfl, hI, (fun b9 h9 => rfl)⟩

set_option maxHeartbeats 4000000 in
set_option maxRecDepth 100000 in
theorem r_pack_105_118_101_0_0_0 (G : EnvG) (l : Launch) (Φ : Hm) (sz x : Nat) (rd : (Nat → Int32) → Prop) (fl : Nat) (pe : Nat) (le : Nat) (nx : Nat) (il : Nat) (qu : Nat) (kn : Int32) (ec : Int32) (nu : Int32) (va : Int64)  (hx : G.2.2.2 ≤ x) (hI : Im G x (rd, NN, fl, pe, le, nx, il, qu, kn, ec, nu, va) Φ)  : Ct G l yX12_pack wsX12_pack ({ frames := 0, cells := 0, slots := 0, locals := 0 }) 0 0 [.int 105, .int 118, .int 101, .int 0, .int 0, .int 0] Φ sz (fun v Φ1 sz1 => (v = some (.long 9925)) ∧ sz1 = sz ∧ (Im G x (rd, NN, fl, pe, le, nx, il, qu, kn, ec, nu, va) Φ1) ∧ Fr x (fun j9 => False) Φ Φ1) := by
  refine Ct.of (cc := cX12_pack) (maxL := 8) (ret := (some .long)) (by decide) rfl (Nat.le_of_ble_eq_true rfl) ?_
  intro p9 e9 s9 m9 w9 t9 k9 B
  show Z p9 l e9 _ s9 m9 _ w9 t9 k9 _ G 8 0 [(0, .int 105), (1, .int 118), (2, .int 101), (3, .int 0), (4, .int 0), (5, .int 0)] [] Φ sz 0 0
  refine z_iload_n B dX12_pack_0 rfl 0 rfl ?_
  refine z_i2l (v := 105) B dX12_pack_1 (by decide +kernel) ?_
  refine z_ldc2 (v := 96) B (by decide +kernel) dX12_pack_2 ?_
  refine z_lsub B dX12_pack_5 ?_
  refine z_top (st1 := [.long 9]) (congrArg (fun w9 : Int64 => ([.long w9] : List Value)) (show (105 - 96 : Int64) = 9 by decide +kernel)) ?_
  refine z_ldc2 (v := 32) B (by decide +kernel) dX12_pack_6 ?_
  refine z_lmul B dX12_pack_9 ?_
  refine z_top (st1 := [.long 288]) (congrArg (fun w9 : Int64 => ([.long w9] : List Value)) (show (9 * 32 : Int64) = 288 by decide +kernel)) ?_
  refine z_iload_n B dX12_pack_10 rfl 1 rfl ?_
  refine z_i2l (v := 118) B dX12_pack_11 (by decide +kernel) ?_
  refine z_ladd B dX12_pack_12 ?_
  refine z_top (st1 := [.long 406]) (congrArg (fun w9 : Int64 => ([.long w9] : List Value)) (show (288 + 118 : Int64) = 406 by decide +kernel)) ?_
  refine z_ldc2 (v := 96) B (by decide +kernel) dX12_pack_13 ?_
  refine z_lsub B dX12_pack_16 ?_
  refine z_top (st1 := [.long 310]) (congrArg (fun w9 : Int64 => ([.long w9] : List Value)) (show (406 - 96 : Int64) = 310 by decide +kernel)) ?_
  refine z_ldc2 (v := 32) B (by decide +kernel) dX12_pack_17 ?_
  refine z_lmul B dX12_pack_20 ?_
  refine z_top (st1 := [.long 9920]) (congrArg (fun w9 : Int64 => ([.long w9] : List Value)) (show (310 * 32 : Int64) = 9920 by decide +kernel)) ?_
  refine z_iload_n B dX12_pack_21 rfl 2 rfl ?_
  refine z_i2l (v := 101) B dX12_pack_22 (by decide +kernel) ?_
  refine z_ladd B dX12_pack_23 ?_
  refine z_top (st1 := [.long 10021]) (congrArg (fun w9 : Int64 => ([.long w9] : List Value)) (show (9920 + 101 : Int64) = 10021 by decide +kernel)) ?_
  refine z_ldc2 (v := 96) B (by decide +kernel) dX12_pack_24 ?_
  refine z_lsub B dX12_pack_27 ?_
  refine z_top (st1 := [.long 9925]) (congrArg (fun w9 : Int64 => ([.long w9] : List Value)) (show (10021 - 96 : Int64) = 9925 by decide +kernel)) ?_
  refine z_lstore (lv' := [(6, .long 9925), (0, .int 105), (1, .int 118), (2, .int 101), (3, .int 0), (4, .int 0), (5, .int 0)]) B dX12_pack_28 (Nat.le_of_ble_eq_true rfl) rfl ?_
  refine z_iload_n B dX12_pack_30 rfl 4 rfl ?_
  refine z_if_ne (tgt := 39) B dX12_pack_31 rfl (fun h9 => absurd (by decide) h9) (fun c_1 => ?_)
  refine z_lload B dX12_pack_34 0 rfl ?_
  refine z_goto (tgt := 52) B dX12_pack_36 rfl ?_
  refine z_lstore (lv' := [(6, .long 9925), (0, .int 105), (1, .int 118), (2, .int 101), (3, .int 0), (4, .int 0), (5, .int 0)]) B dX12_pack_52 (Nat.le_of_ble_eq_true rfl) rfl ?_
  refine z_iload B dX12_pack_54 5 rfl ?_
  refine z_if_ne (tgt := 64) B dX12_pack_56 rfl (fun h9 => absurd (by decide) h9) (fun c_2 => ?_)
  refine z_lload B dX12_pack_59 0 rfl ?_
  refine z_goto (tgt := 78) B dX12_pack_61 rfl ?_
  refine z_lstore (lv' := [(6, .long 9925), (0, .int 105), (1, .int 118), (2, .int 101), (3, .int 0), (4, .int 0), (5, .int 0)]) B dX12_pack_78 (Nat.le_of_ble_eq_true rfl) rfl ?_
  refine z_iload B dX12_pack_80 6 rfl ?_
  refine z_if_ne (tgt := 90) B dX12_pack_82 rfl (fun h9 => absurd (by decide) h9) (fun c_3 => ?_)
  refine z_lload B dX12_pack_85 0 rfl ?_
  refine z_goto (tgt := 104) B dX12_pack_87 rfl ?_
  exact z_ret_l B dX12_pack_104 ⟨rfl, rfl, hI, (fun b9 h9 => rfl)⟩

set_option maxHeartbeats 4000000 in
set_option maxRecDepth 100000 in
theorem r_pack_108_97_115_116_0_0 (G : EnvG) (l : Launch) (Φ : Hm) (sz x : Nat) (rd : (Nat → Int32) → Prop) (fl : Nat) (pe : Nat) (le : Nat) (nx : Nat) (il : Nat) (qu : Nat) (kn : Int32) (ec : Int32) (nu : Int32) (va : Int64)  (hx : G.2.2.2 ≤ x) (hI : Im G x (rd, NN, fl, pe, le, nx, il, qu, kn, ec, nu, va) Φ)  : Ct G l yX12_pack wsX12_pack ({ frames := 0, cells := 0, slots := 0, locals := 0 }) 0 0 [.int 108, .int 97, .int 115, .int 116, .int 0, .int 0] Φ sz (fun v Φ1 sz1 => (v = some (.long 394868)) ∧ sz1 = sz ∧ (Im G x (rd, NN, fl, pe, le, nx, il, qu, kn, ec, nu, va) Φ1) ∧ Fr x (fun j9 => False) Φ Φ1) := by
  refine Ct.of (cc := cX12_pack) (maxL := 8) (ret := (some .long)) (by decide) rfl (Nat.le_of_ble_eq_true rfl) ?_
  intro p9 e9 s9 m9 w9 t9 k9 B
  show Z p9 l e9 _ s9 m9 _ w9 t9 k9 _ G 8 0 [(0, .int 108), (1, .int 97), (2, .int 115), (3, .int 116), (4, .int 0), (5, .int 0)] [] Φ sz 0 0
  refine z_iload_n B dX12_pack_0 rfl 0 rfl ?_
  refine z_i2l (v := 108) B dX12_pack_1 (by decide +kernel) ?_
  refine z_ldc2 (v := 96) B (by decide +kernel) dX12_pack_2 ?_
  refine z_lsub B dX12_pack_5 ?_
  refine z_top (st1 := [.long 12]) (congrArg (fun w9 : Int64 => ([.long w9] : List Value)) (show (108 - 96 : Int64) = 12 by decide +kernel)) ?_
  refine z_ldc2 (v := 32) B (by decide +kernel) dX12_pack_6 ?_
  refine z_lmul B dX12_pack_9 ?_
  refine z_top (st1 := [.long 384]) (congrArg (fun w9 : Int64 => ([.long w9] : List Value)) (show (12 * 32 : Int64) = 384 by decide +kernel)) ?_
  refine z_iload_n B dX12_pack_10 rfl 1 rfl ?_
  refine z_i2l (v := 97) B dX12_pack_11 (by decide +kernel) ?_
  refine z_ladd B dX12_pack_12 ?_
  refine z_top (st1 := [.long 481]) (congrArg (fun w9 : Int64 => ([.long w9] : List Value)) (show (384 + 97 : Int64) = 481 by decide +kernel)) ?_
  refine z_ldc2 (v := 96) B (by decide +kernel) dX12_pack_13 ?_
  refine z_lsub B dX12_pack_16 ?_
  refine z_top (st1 := [.long 385]) (congrArg (fun w9 : Int64 => ([.long w9] : List Value)) (show (481 - 96 : Int64) = 385 by decide +kernel)) ?_
  refine z_ldc2 (v := 32) B (by decide +kernel) dX12_pack_17 ?_
  refine z_lmul B dX12_pack_20 ?_
  refine z_top (st1 := [.long 12320]) (congrArg (fun w9 : Int64 => ([.long w9] : List Value)) (show (385 * 32 : Int64) = 12320 by decide +kernel)) ?_
  refine z_iload_n B dX12_pack_21 rfl 2 rfl ?_
  refine z_i2l (v := 115) B dX12_pack_22 (by decide +kernel) ?_
  refine z_ladd B dX12_pack_23 ?_
  refine z_top (st1 := [.long 12435]) (congrArg (fun w9 : Int64 => ([.long w9] : List Value)) (show (12320 + 115 : Int64) = 12435 by decide +kernel)) ?_
  refine z_ldc2 (v := 96) B (by decide +kernel) dX12_pack_24 ?_
  refine z_lsub B dX12_pack_27 ?_
  refine z_top (st1 := [.long 12339]) (congrArg (fun w9 : Int64 => ([.long w9] : List Value)) (show (12435 - 96 : Int64) = 12339 by decide +kernel)) ?_
  refine z_lstore (lv' := [(6, .long 12339), (0, .int 108), (1, .int 97), (2, .int 115), (3, .int 116), (4, .int 0), (5, .int 0)]) B dX12_pack_28 (Nat.le_of_ble_eq_true rfl) rfl ?_
  refine z_iload_n B dX12_pack_30 rfl 4 rfl ?_
  refine z_if_ne (tgt := 39) B dX12_pack_31 rfl (fun c_1 => ?_) (fun h9 => absurd h9 (by decide))
  refine z_lload B dX12_pack_39 0 rfl ?_
  refine z_ldc2 (v := 32) B (by decide +kernel) dX12_pack_41 ?_
  refine z_lmul B dX12_pack_44 ?_
  refine z_top (st1 := [.long 394848]) (congrArg (fun w9 : Int64 => ([.long w9] : List Value)) (show (12339 * 32 : Int64) = 394848 by decide +kernel)) ?_
  refine z_iload_n B dX12_pack_45 rfl 4 rfl ?_
  refine z_i2l (v := 116) B dX12_pack_46 (by decide +kernel) ?_
  refine z_ladd B dX12_pack_47 ?_
  refine z_top (st1 := [.long 394964]) (congrArg (fun w9 : Int64 => ([.long w9] : List Value)) (show (394848 + 116 : Int64) = 394964 by decide +kernel)) ?_
  refine z_ldc2 (v := 96) B (by decide +kernel) dX12_pack_48 ?_
  refine z_lsub B dX12_pack_51 ?_
  refine z_top (st1 := [.long 394868]) (congrArg (fun w9 : Int64 => ([.long w9] : List Value)) (show (394964 - 96 : Int64) = 394868 by decide +kernel)) ?_
  refine z_lstore (lv' := [(6, .long 394868), (0, .int 108), (1, .int 97), (2, .int 115), (3, .int 116), (4, .int 0), (5, .int 0)]) B dX12_pack_52 (Nat.le_of_ble_eq_true rfl) rfl ?_
  refine z_iload B dX12_pack_54 5 rfl ?_
  refine z_if_ne (tgt := 64) B dX12_pack_56 rfl (fun h9 => absurd (by decide) h9) (fun c_2 => ?_)
  refine z_lload B dX12_pack_59 0 rfl ?_
  refine z_goto (tgt := 78) B dX12_pack_61 rfl ?_
  refine z_lstore (lv' := [(6, .long 394868), (0, .int 108), (1, .int 97), (2, .int 115), (3, .int 116), (4, .int 0), (5, .int 0)]) B dX12_pack_78 (Nat.le_of_ble_eq_true rfl) rfl ?_
  refine z_iload B dX12_pack_80 6 rfl ?_
  refine z_if_ne (tgt := 90) B dX12_pack_82 rfl (fun h9 => absurd (by decide) h9) (fun c_3 => ?_)
  refine z_lload B dX12_pack_85 0 rfl ?_
  refine z_goto (tgt := 104) B dX12_pack_87 rfl ?_
  exact z_ret_l B dX12_pack_104 ⟨rfl, rfl, hI, (fun b9 h9 => rfl)⟩

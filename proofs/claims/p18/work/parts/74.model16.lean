set_option maxHeartbeats 4000000 in
set_option maxRecDepth 100000 in
theorem r_pack_108_101_110_103_116_104 (G : EnvG) (l : Launch) (Φ : Hm) (sz x : Nat) (rd : (Nat → Int32) → Prop) (fl : Nat) (pe : Nat) (le : Nat) (nx : Nat) (il : Nat) (qu : Nat) (kn : Int32) (ec : Int32) (nu : Int32) (va : Int64)  (hx : G.2.2.2 ≤ x) (hI : Im G x (rd, NN, fl, pe, le, nx, il, qu, kn, ec, nu, va) Φ)  : Ct G l yX12_pack wsX12_pack ({ frames := 0, cells := 0, slots := 0, locals := 0 }) 0 0 [.int 108, .int 101, .int 110, .int 103, .int 116, .int 104] Φ sz (fun v Φ1 sz1 => (v = some (.long 408362632)) ∧ sz1 = sz ∧ (Im G x (rd, NN, fl, pe, le, nx, il, qu, kn, ec, nu, va) Φ1) ∧ Fr x (fun j9 => False) Φ Φ1) := by
  refine Ct.of (cc := cX12_pack) (maxL := 8) (ret := (some .long)) (by decide) rfl (Nat.le_of_ble_eq_true rfl) ?_
  intro p9 e9 s9 m9 w9 t9 k9 B
  show Z p9 l e9 _ s9 m9 _ w9 t9 k9 _ G 8 0 [(0, .int 108), (1, .int 101), (2, .int 110), (3, .int 103), (4, .int 116), (5, .int 104)] [] Φ sz 0 0
  refine z_iload_n B dX12_pack_0 rfl 0 rfl ?_
  refine z_i2l (v := 108) B dX12_pack_1 (by decide +kernel) ?_
  refine z_ldc2 (v := 96) B (by decide +kernel) dX12_pack_2 ?_
  refine z_lsub B dX12_pack_5 ?_
  refine z_top (st1 := [.long 12]) (congrArg (fun w9 : Int64 => ([.long w9] : List Value)) (show (108 - 96 : Int64) = 12 by decide +kernel)) ?_
  refine z_ldc2 (v := 32) B (by decide +kernel) dX12_pack_6 ?_
  refine z_lmul B dX12_pack_9 ?_
  refine z_top (st1 := [.long 384]) (congrArg (fun w9 : Int64 => ([.long w9] : List Value)) (show (12 * 32 : Int64) = 384 by decide +kernel)) ?_
  refine z_iload_n B dX12_pack_10 rfl 1 rfl ?_
  refine z_i2l (v := 101) B dX12_pack_11 (by decide +kernel) ?_
  refine z_ladd B dX12_pack_12 ?_
  refine z_top (st1 := [.long 485]) (congrArg (fun w9 : Int64 => ([.long w9] : List Value)) (show (384 + 101 : Int64) = 485 by decide +kernel)) ?_
  refine z_ldc2 (v := 96) B (by decide +kernel) dX12_pack_13 ?_
  refine z_lsub B dX12_pack_16 ?_
  refine z_top (st1 := [.long 389]) (congrArg (fun w9 : Int64 => ([.long w9] : List Value)) (show (485 - 96 : Int64) = 389 by decide +kernel)) ?_
  refine z_ldc2 (v := 32) B (by decide +kernel) dX12_pack_17 ?_
  refine z_lmul B dX12_pack_20 ?_
  refine z_top (st1 := [.long 12448]) (congrArg (fun w9 : Int64 => ([.long w9] : List Value)) (show (389 * 32 : Int64) = 12448 by decide +kernel)) ?_
  refine z_iload_n B dX12_pack_21 rfl 2 rfl ?_
  refine z_i2l (v := 110) B dX12_pack_22 (by decide +kernel) ?_
  refine z_ladd B dX12_pack_23 ?_
  refine z_top (st1 := [.long 12558]) (congrArg (fun w9 : Int64 => ([.long w9] : List Value)) (show (12448 + 110 : Int64) = 12558 by decide +kernel)) ?_
  refine z_ldc2 (v := 96) B (by decide +kernel) dX12_pack_24 ?_
  refine z_lsub B dX12_pack_27 ?_
  refine z_top (st1 := [.long 12462]) (congrArg (fun w9 : Int64 => ([.long w9] : List Value)) (show (12558 - 96 : Int64) = 12462 by decide +kernel)) ?_
  refine z_lstore (lv' := [(6, .long 12462), (0, .int 108), (1, .int 101), (2, .int 110), (3, .int 103), (4, .int 116), (5, .int 104)]) B dX12_pack_28 (Nat.le_of_ble_eq_true rfl) rfl ?_
  refine z_iload_n B dX12_pack_30 rfl 4 rfl ?_
  refine z_if_ne (tgt := 39) B dX12_pack_31 rfl (fun c_1 => ?_) (fun h9 => absurd h9 (by decide))
  refine z_lload B dX12_pack_39 0 rfl ?_
  refine z_ldc2 (v := 32) B (by decide +kernel) dX12_pack_41 ?_
  refine z_lmul B dX12_pack_44 ?_
  refine z_top (st1 := [.long 398784]) (congrArg (fun w9 : Int64 => ([.long w9] : List Value)) (show (12462 * 32 : Int64) = 398784 by decide +kernel)) ?_
  refine z_iload_n B dX12_pack_45 rfl 4 rfl ?_
  refine z_i2l (v := 103) B dX12_pack_46 (by decide +kernel) ?_
  refine z_ladd B dX12_pack_47 ?_
  refine z_top (st1 := [.long 398887]) (congrArg (fun w9 : Int64 => ([.long w9] : List Value)) (show (398784 + 103 : Int64) = 398887 by decide +kernel)) ?_
  refine z_ldc2 (v := 96) B (by decide +kernel) dX12_pack_48 ?_
  refine z_lsub B dX12_pack_51 ?_
  refine z_top (st1 := [.long 398791]) (congrArg (fun w9 : Int64 => ([.long w9] : List Value)) (show (398887 - 96 : Int64) = 398791 by decide +kernel)) ?_
  refine z_lstore (lv' := [(6, .long 398791), (0, .int 108), (1, .int 101), (2, .int 110), (3, .int 103), (4, .int 116), (5, .int 104)]) B dX12_pack_52 (Nat.le_of_ble_eq_true rfl) rfl ?_
  refine z_iload B dX12_pack_54 5 rfl ?_
  refine z_if_ne (tgt := 64) B dX12_pack_56 rfl (fun c_2 => ?_) (fun h9 => absurd h9 (by decide))
  refine z_lload B dX12_pack_64 0 rfl ?_
  refine z_ldc2 (v := 32) B (by decide +kernel) dX12_pack_66 ?_
  refine z_lmul B dX12_pack_69 ?_
  refine z_top (st1 := [.long 12761312]) (congrArg (fun w9 : Int64 => ([.long w9] : List Value)) (show (398791 * 32 : Int64) = 12761312 by decide +kernel)) ?_
  refine z_iload B dX12_pack_70 5 rfl ?_
  refine z_i2l (v := 116) B dX12_pack_72 (by decide +kernel) ?_
  refine z_ladd B dX12_pack_73 ?_
  refine z_top (st1 := [.long 12761428]) (congrArg (fun w9 : Int64 => ([.long w9] : List Value)) (show (12761312 + 116 : Int64) = 12761428 by decide +kernel)) ?_
  refine z_ldc2 (v := 96) B (by decide +kernel) dX12_pack_74 ?_
  refine z_lsub B dX12_pack_77 ?_
  refine z_top (st1 := [.long 12761332]) (congrArg (fun w9 : Int64 => ([.long w9] : List Value)) (show (12761428 - 96 : Int64) = 12761332 by decide +kernel)) ?_
  refine z_lstore (lv' := [(6, .long 12761332), (0, .int 108), (1, .int 101), (2, .int 110), (3, .int 103), (4, .int 116), (5, .int 104)]) B dX12_pack_78 (Nat.le_of_ble_eq_true rfl) rfl ?_
  refine z_iload B dX12_pack_80 6 rfl ?_
  refine z_if_ne (tgt := 90) B dX12_pack_82 rfl (fun c_3 => ?_) (fun h9 => absurd h9 (by decide))
  refine z_lload B dX12_pack_90 0 rfl ?_
  refine z_ldc2 (v := 32) B (by decide +kernel) dX12_pack_92 ?_
  refine z_lmul B dX12_pack_95 ?_
  refine z_top (st1 := [.long 408362624]) (congrArg (fun w9 : Int64 => ([.long w9] : List Value)) (show (12761332 * 32 : Int64) = 408362624 by decide +kernel)) ?_
  refine z_iload B dX12_pack_96 6 rfl ?_
  refine z_i2l (v := 104) B dX12_pack_98 (by decide +kernel) ?_
  refine z_ladd B dX12_pack_99 ?_
  refine z_top (st1 := [.long 408362728]) (congrArg (fun w9 : Int64 => ([.long w9] : List Value)) (show (408362624 + 104 : Int64) = 408362728 by decide +kernel)) ?_
  refine z_ldc2 (v := 96) B (by decide +kernel) dX12_pack_100 ?_
  refine z_lsub B dX12_pack_103 ?_
  refine z_top (st1 := [.long 408362632]) (congrArg (fun w9 : Int64 => ([.long w9] : List Value)) (show (408362728 - 96 : Int64) = 408362632 by decide +kernel)) ?_
  exact z_ret_l B dX12_pack_104 ⟨rfl, rfl, hI, (fun b9 h9 => rfl)⟩

set_option maxHeartbeats 4000000 in
set_option maxRecDepth 100000 in
theorem r_pack_108_105_102_101_116_0 (G : EnvG) (l : Launch) (Φ : Hm) (sz x : Nat) (rd : (Nat → Int32) → Prop) (fl : Nat) (pe : Nat) (le : Nat) (nx : Nat) (il : Nat) (qu : Nat) (kn : Int32) (ec : Int32) (nu : Int32) (va : Int64)  (hx : G.2.2.2 ≤ x) (hI : Im G x (rd, NN, fl, pe, le, nx, il, qu, kn, ec, nu, va) Φ)  : Ct G l yX12_pack wsX12_pack ({ frames := 0, cells := 0, slots := 0, locals := 0 }) 0 0 [.int 108, .int 105, .int 102, .int 101, .int 116, .int 0] Φ sz (fun v Φ1 sz1 => (v = some (.long 12884148)) ∧ sz1 = sz ∧ (Im G x (rd, NN, fl, pe, le, nx, il, qu, kn, ec, nu, va) Φ1) ∧ Fr x (fun j9 => False) Φ Φ1) := by
  refine Ct.of (cc := cX12_pack) (maxL := 8) (ret := (some .long)) (by decide) rfl (Nat.le_of_ble_eq_true rfl) ?_
  intro p9 e9 s9 m9 w9 t9 k9 B
  show Z p9 l e9 _ s9 m9 _ w9 t9 k9 _ G 8 0 [(0, .int 108), (1, .int 105), (2, .int 102), (3, .int 101), (4, .int 116), (5, .int 0)] [] Φ sz 0 0
  refine z_iload_n B dX12_pack_0 rfl 0 rfl ?_
  refine z_i2l (v := 108) B dX12_pack_1 (by decide +kernel) ?_
  refine z_ldc2 (v := 96) B (by decide +kernel) dX12_pack_2 ?_
  refine z_lsub B dX12_pack_5 ?_
  refine z_top (st1 := [.long 12]) (congrArg (fun w9 : Int64 => ([.long w9] : List Value)) (show (108 - 96 : Int64) = 12 by decide +kernel)) ?_
  refine z_ldc2 (v := 32) B (by decide +kernel) dX12_pack_6 ?_
  refine z_lmul B dX12_pack_9 ?_
  refine z_top (st1 := [.long 384]) (congrArg (fun w9 : Int64 => ([.long w9] : List Value)) (show (12 * 32 : Int64) = 384 by decide +kernel)) ?_
  refine z_iload_n B dX12_pack_10 rfl 1 rfl ?_
  refine z_i2l (v := 105) B dX12_pack_11 (by decide +kernel) ?_
  refine z_ladd B dX12_pack_12 ?_
  refine z_top (st1 := [.long 489]) (congrArg (fun w9 : Int64 => ([.long w9] : List Value)) (show (384 + 105 : Int64) = 489 by decide +kernel)) ?_
  refine z_ldc2 (v := 96) B (by decide +kernel) dX12_pack_13 ?_
  refine z_lsub B dX12_pack_16 ?_
  refine z_top (st1 := [.long 393]) (congrArg (fun w9 : Int64 => ([.long w9] : List Value)) (show (489 - 96 : Int64) = 393 by decide +kernel)) ?_
  refine z_ldc2 (v := 32) B (by decide +kernel) dX12_pack_17 ?_
  refine z_lmul B dX12_pack_20 ?_
  refine z_top (st1 := [.long 12576]) (congrArg (fun w9 : Int64 => ([.long w9] : List Value)) (show (393 * 32 : Int64) = 12576 by decide +kernel)) ?_
  refine z_iload_n B dX12_pack_21 rfl 2 rfl ?_
  refine z_i2l (v := 102) B dX12_pack_22 (by decide +kernel) ?_
  refine z_ladd B dX12_pack_23 ?_
  refine z_top (st1 := [.long 12678]) (congrArg (fun w9 : Int64 => ([.long w9] : List Value)) (show (12576 + 102 : Int64) = 12678 by decide +kernel)) ?_
  refine z_ldc2 (v := 96) B (by decide +kernel) dX12_pack_24 ?_
  refine z_lsub B dX12_pack_27 ?_
  refine z_top (st1 := [.long 12582]) (congrArg (fun w9 : Int64 => ([.long w9] : List Value)) (show (12678 - 96 : Int64) = 12582 by decide +kernel)) ?_
  refine z_lstore (lv' := [(6, .long 12582), (0, .int 108), (1, .int 105), (2, .int 102), (3, .int 101), (4, .int 116), (5, .int 0)]) B dX12_pack_28 (Nat.le_of_ble_eq_true rfl) rfl ?_
  refine z_iload_n B dX12_pack_30 rfl 4 rfl ?_
  refine z_if_ne (tgt := 39) B dX12_pack_31 rfl (fun c_1 => ?_) (fun h9 => absurd h9 (by decide))
  refine z_lload B dX12_pack_39 0 rfl ?_
  refine z_ldc2 (v := 32) B (by decide +kernel) dX12_pack_41 ?_
  refine z_lmul B dX12_pack_44 ?_
  refine z_top (st1 := [.long 402624]) (congrArg (fun w9 : Int64 => ([.long w9] : List Value)) (show (12582 * 32 : Int64) = 402624 by decide +kernel)) ?_
  refine z_iload_n B dX12_pack_45 rfl 4 rfl ?_
  refine z_i2l (v := 101) B dX12_pack_46 (by decide +kernel) ?_
  refine z_ladd B dX12_pack_47 ?_
  refine z_top (st1 := [.long 402725]) (congrArg (fun w9 : Int64 => ([.long w9] : List Value)) (show (402624 + 101 : Int64) = 402725 by decide +kernel)) ?_
  refine z_ldc2 (v := 96) B (by decide +kernel) dX12_pack_48 ?_
  refine z_lsub B dX12_pack_51 ?_
  refine z_top (st1 := [.long 402629]) (congrArg (fun w9 : Int64 => ([.long w9] : List Value)) (show (402725 - 96 : Int64) = 402629 by decide +kernel)) ?_
  refine z_lstore (lv' := [(6, .long 402629), (0, .int 108), (1, .int 105), (2, .int 102), (3, .int 101), (4, .int 116), (5, .int 0)]) B dX12_pack_52 (Nat.le_of_ble_eq_true rfl) rfl ?_
  refine z_iload B dX12_pack_54 5 rfl ?_
  refine z_if_ne (tgt := 64) B dX12_pack_56 rfl (fun c_2 => ?_) (fun h9 => absurd h9 (by decide))
  refine z_lload B dX12_pack_64 0 rfl ?_
  refine z_ldc2 (v := 32) B (by decide +kernel) dX12_pack_66 ?_
  refine z_lmul B dX12_pack_69 ?_
  refine z_top (st1 := [.long 12884128]) (congrArg (fun w9 : Int64 => ([.long w9] : List Value)) (show (402629 * 32 : Int64) = 12884128 by decide +kernel)) ?_
  refine z_iload B dX12_pack_70 5 rfl ?_
  refine z_i2l (v := 116) B dX12_pack_72 (by decide +kernel) ?_
  refine z_ladd B dX12_pack_73 ?_
  refine z_top (st1 := [.long 12884244]) (congrArg (fun w9 : Int64 => ([.long w9] : List Value)) (show (12884128 + 116 : Int64) = 12884244 by decide +kernel)) ?_
  refine z_ldc2 (v := 96) B (by decide +kernel) dX12_pack_74 ?_
  refine z_lsub B dX12_pack_77 ?_
  refine z_top (st1 := [.long 12884148]) (congrArg (fun w9 : Int64 => ([.long w9] : List Value)) (show (12884244 - 96 : Int64) = 12884148 by decide +kernel)) ?_
  refine z_lstore (lv' := [(6, .long 12884148), (0, .int 108), (1, .int 105), (2, .int 102), (3, .int 101), (4, .int 116), (5, .int 0)]) B dX12_pack_78 (Nat.le_of_ble_eq_true rfl) rfl ?_
  refine z_iload B dX12_pack_80 6 rfl ?_
  refine z_if_ne (tgt := 90) B dX12_pack_82 rfl (fun h9 => absurd (by decide) h9) (fun c_3 => ?_)
  refine z_lload B dX12_pack_85 0 rfl ?_
  refine z_goto (tgt := 104) B dX12_pack_87 rfl ?_
  exact z_ret_l B dX12_pack_104 ⟨rfl, rfl, hI, (fun b9 h9 => rfl)⟩

set_option maxHeartbeats 4000000 in
set_option maxRecDepth 100000 in
theorem r_pack_112_97_99_107_0_0 (G : EnvG) (l : Launch) (Φ : Hm) (sz x : Nat) (rd : (Nat → Int32) → Prop) (fl : Nat) (pe : Nat) (le : Nat) (nx : Nat) (il : Nat) (qu : Nat) (kn : Int32) (ec : Int32) (nu : Int32) (va : Int64)  (hx : G.2.2.2 ≤ x) (hI : Im G x (rd, NN, fl, pe, le, nx, il, qu, kn, ec, nu, va) Φ)  : Ct G l yX12_pack wsX12_pack ({ frames := 0, cells := 0, slots := 0, locals := 0 }) 0 0 [.int 112, .int 97, .int 99, .int 107, .int 0, .int 0] Φ sz (fun v Φ1 sz1 => (v = some (.long 525419)) ∧ sz1 = sz ∧ (Im G x (rd, NN, fl, pe, le, nx, il, qu, kn, ec, nu, va) Φ1) ∧ Fr x (fun j9 => False) Φ Φ1) := by
  refine Ct.of (cc := cX12_pack) (maxL := 8) (ret := (some .long)) (by decide) rfl (Nat.le_of_ble_eq_true rfl) ?_
  intro p9 e9 s9 m9 w9 t9 k9 B
  show Z p9 l e9 _ s9 m9 _ w9 t9 k9 _ G 8 0 [(0, .int 112), (1, .int 97), (2, .int 99), (3, .int 107), (4, .int 0), (5, .int 0)] [] Φ sz 0 0
  refine z_iload_n B dX12_pack_0 rfl 0 rfl ?_
  refine z_i2l (v := 112) B dX12_pack_1 (by decide +kernel) ?_
  refine z_ldc2 (v := 96) B (by decide +kernel) dX12_pack_2 ?_
  refine z_lsub B dX12_pack_5 ?_
  refine z_top (st1 := [.long 16]) (congrArg (fun w9 : Int64 => ([.long w9] : List Value)) (show (112 - 96 : Int64) = 16 by decide +kernel)) ?_
  refine z_ldc2 (v := 32) B (by decide +kernel) dX12_pack_6 ?_
  refine z_lmul B dX12_pack_9 ?_
  refine z_top (st1 := [.long 512]) (congrArg (fun w9 : Int64 => ([.long w9] : List Value)) (show (16 * 32 : Int64) = 512 by decide +kernel)) ?_
  refine z_iload_n B dX12_pack_10 rfl 1 rfl ?_
  refine z_i2l (v := 97) B dX12_pack_11 (by decide +kernel) ?_
  refine z_ladd B dX12_pack_12 ?_
  refine z_top (st1 := [.long 609]) (congrArg (fun w9 : Int64 => ([.long w9] : List Value)) (show (512 + 97 : Int64) = 609 by decide +kernel)) ?_
  refine z_ldc2 (v := 96) B (by decide +kernel) dX12_pack_13 ?_
  refine z_lsub B dX12_pack_16 ?_
  refine z_top (st1 := [.long 513]) (congrArg (fun w9 : Int64 => ([.long w9] : List Value)) (show (609 - 96 : Int64) = 513 by decide +kernel)) ?_
  refine z_ldc2 (v := 32) B (by decide +kernel) dX12_pack_17 ?_
  refine z_lmul B dX12_pack_20 ?_
  refine z_top (st1 := [.long 16416]) (congrArg (fun w9 : Int64 => ([.long w9] : List Value)) (show (513 * 32 : Int64) = 16416 by decide +kernel)) ?_
  refine z_iload_n B dX12_pack_21 rfl 2 rfl ?_
  refine z_i2l (v := 99) B dX12_pack_22 (by decide +kernel) ?_
  refine z_ladd B dX12_pack_23 ?_
  refine z_top (st1 := [.long 16515]) (congrArg (fun w9 : Int64 => ([.long w9] : List Value)) (show (16416 + 99 : Int64) = 16515 by decide +kernel)) ?_
  refine z_ldc2 (v := 96) B (by decide +kernel) dX12_pack_24 ?_
  refine z_lsub B dX12_pack_27 ?_
  refine z_top (st1 := [.long 16419]) (congrArg (fun w9 : Int64 => ([.long w9] : List Value)) (show (16515 - 96 : Int64) = 16419 by decide +kernel)) ?_
  refine z_lstore (lv' := [(6, .long 16419), (0, .int 112), (1, .int 97), (2, .int 99), (3, .int 107), (4, .int 0), (5, .int 0)]) B dX12_pack_28 (Nat.le_of_ble_eq_true rfl) rfl ?_
  refine z_iload_n B dX12_pack_30 rfl 4 rfl ?_
  refine z_if_ne (tgt := 39) B dX12_pack_31 rfl (fun c_1 => ?_) (fun h9 => absurd h9 (by decide))
  refine z_lload B dX12_pack_39 0 rfl ?_
  refine z_ldc2 (v := 32) B (by decide +kernel) dX12_pack_41 ?_
  refine z_lmul B dX12_pack_44 ?_
  refine z_top (st1 := [.long 525408]) (congrArg (fun w9 : Int64 => ([.long w9] : List Value)) (show (16419 * 32 : Int64) = 525408 by decide +kernel)) ?_
  refine z_iload_n B dX12_pack_45 rfl 4 rfl ?_
  refine z_i2l (v := 107) B dX12_pack_46 (by decide +kernel) ?_
  refine z_ladd B dX12_pack_47 ?_
  refine z_top (st1 := [.long 525515]) (congrArg (fun w9 : Int64 => ([.long w9] : List Value)) (show (525408 + 107 : Int64) = 525515 by decide +kernel)) ?_
  refine z_ldc2 (v := 96) B (by decide +kernel) dX12_pack_48 ?_
  refine z_lsub B dX12_pack_51 ?_
  refine z_top (st1 := [.long 525419]) (congrArg (fun w9 : Int64 => ([.long w9] : List Value)) (show (525515 - 96 : Int64) = 525419 by decide +kernel)) ?_
  refine z_lstore (lv' := [(6, .long 525419), (0, .int 112), (1, .int 97), (2, .int 99), (3, .int 107), (4, .int 0), (5, .int 0)]) B dX12_pack_52 (Nat.le_of_ble_eq_true rfl) rfl ?_
  refine z_iload B dX12_pack_54 5 rfl ?_
  refine z_if_ne (tgt := 64) B dX12_pack_56 rfl (fun h9 => absurd (by decide) h9) (fun c_2 => ?_)
  refine z_lload B dX12_pack_59 0 rfl ?_
  refine z_goto (tgt := 78) B dX12_pack_61 rfl ?_
  refine z_lstore (lv' := [(6, .long 525419), (0, .int 112), (1, .int 97), (2, .int 99), (3, .int 107), (4, .int 0), (5, .int 0)]) B dX12_pack_78 (Nat.le_of_ble_eq_true rfl) rfl ?_
  refine z_iload B dX12_pack_80 6 rfl ?_
  refine z_if_ne (tgt := 90) B dX12_pack_82 rfl (fun h9 => absurd (by decide) h9) (fun c_3 => ?_)
  refine z_lload B dX12_pack_85 0 rfl ?_
  refine z_goto (tgt := 104) B dX12_pack_87 rfl ?_
  exact z_ret_l B dX12_pack_104 ⟨rfl, rfl, hI, (fun b9 h9 => rfl)⟩

set_option maxHeartbeats 4000000 in
set_option maxRecDepth 100000 in
theorem r_pack_112_111_114_116_0_0 (G : EnvG) (l : Launch) (Φ : Hm) (sz x : Nat) (rd : (Nat → Int32) → Prop) (fl : Nat) (pe : Nat) (le : Nat) (nx : Nat) (il : Nat) (qu : Nat) (kn : Int32) (ec : Int32) (nu : Int32) (va : Int64)  (hx : G.2.2.2 ≤ x) (hI : Im G x (rd, NN, fl, pe, le, nx, il, qu, kn, ec, nu, va) Φ)  : Ct G l yX12_pack wsX12_pack ({ frames := 0, cells := 0, slots := 0, locals := 0 }) 0 0 [.int 112, .int 111, .int 114, .int 116, .int 0, .int 0] Φ sz (fun v Φ1 sz1 => (v = some (.long 540244)) ∧ sz1 = sz ∧ (Im G x (rd, NN, fl, pe, le, nx, il, qu, kn, ec, nu, va) Φ1) ∧ Fr x (fun j9 => False) Φ Φ1) := by
  refine Ct.of (cc := cX12_pack) (maxL := 8) (ret := (some .long)) (by decide) rfl (Nat.le_of_ble_eq_true rfl) ?_
  intro p9 e9 s9 m9 w9 t9 k9 B
  show Z p9 l e9 _ s9 m9 _ w9 t9 k9 _ G 8 0 [(0, .int 112), (1, .int 111), (2, .int 114), (3, .int 116), (4, .int 0), (5, .int 0)] [] Φ sz 0 0
  refine z_iload_n B dX12_pack_0 rfl 0 rfl ?_
  refine z_i2l (v := 112) B dX12_pack_1 (by decide +kernel) ?_
  refine z_ldc2 (v := 96) B (by decide +kernel) dX12_pack_2 ?_
  refine z_lsub B dX12_pack_5 ?_
  refine z_top (st1 := [.long 16]) (congrArg (fun w9 : Int64 => ([.long w9] : List Value)) (show (112 - 96 : Int64) = 16 by decide +kernel)) ?_
  refine z_ldc2 (v := 32) B (by decide +kernel) dX12_pack_6 ?_
  refine z_lmul B dX12_pack_9 ?_
  refine z_top (st1 := [.long 512]) (congrArg (fun w9 : Int64 => ([.long w9] : List Value)) (show (16 * 32 : Int64) = 512 by decide +kernel)) ?_
  refine z_iload_n B dX12_pack_10 rfl 1 rfl ?_
  refine z_i2l (v := 111) B dX12_pack_11 (by decide +kernel) ?_
  refine z_ladd B dX12_pack_12 ?_
  refine z_top (st1 := [.long 623]) (congrArg (fun w9 : Int64 => ([.long w9] : List Value)) (show (512 + 111 : Int64) = 623 by decide +kernel)) ?_
  refine z_ldc2 (v := 96) B (by decide +kernel) dX12_pack_13 ?_
  refine z_lsub B dX12_pack_16 ?_
  refine z_top (st1 := [.long 527]) (congrArg (fun w9 : Int64 => ([.long w9] : List Value)) (show (623 - 96 : Int64) = 527 by decide +kernel)) ?_
  refine z_ldc2 (v := 32) B (by decide +kernel) dX12_pack_17 ?_
  refine z_lmul B dX12_pack_20 ?_
  refine z_top (st1 := [.long 16864]) (congrArg (fun w9 : Int64 => ([.long w9] : List Value)) (show (527 * 32 : Int64) = 16864 by decide +kernel)) ?_
  refine z_iload_n B dX12_pack_21 rfl 2 rfl ?_
  refine z_i2l (v := 114) B dX12_pack_22 (by decide +kernel) ?_
  refine z_ladd B dX12_pack_23 ?_
  refine z_top (st1 := [.long 16978]) (congrArg (fun w9 : Int64 => ([.long w9] : List Value)) (show (16864 + 114 : Int64) = 16978 by decide +kernel)) ?_
  refine z_ldc2 (v := 96) B (by decide +kernel) dX12_pack_24 ?_
  refine z_lsub B dX12_pack_27 ?_
  refine z_top (st1 := [.long 16882]) (congrArg (fun w9 : Int64 => ([.long w9] : List Value)) (show (16978 - 96 : Int64) = 16882 by decide +kernel)) ?_
  refine z_lstore (lv' := [(6, .long 16882), (0, .int 112), (1, .int 111), (2, .int 114), (3, .int 116), (4, .int 0), (5, .int 0)]) B dX12_pack_28 (Nat.le_of_ble_eq_true rfl) rfl ?_
  refine z_iload_n B dX12_pack_30 rfl 4 rfl ?_
  refine z_if_ne (tgt := 39) B dX12_pack_31 rfl (fun c_1 => ?_) (fun h9 => absurd h9 (by decide))
  refine z_lload B dX12_pack_39 0 rfl ?_
  refine z_ldc2 (v := 32) B (by decide +kernel) dX12_pack_41 ?_
  refine z_lmul B dX12_pack_44 ?_
  refine z_top (st1 := [.long 540224]) (congrArg (fun w9 : Int64 => ([.long w9] : List Value)) (show (16882 * 32 : Int64) = 540224 by decide +kernel)) ?_
  refine z_iload_n B dX12_pack_45 rfl 4 rfl ?_
  refine z_i2l (v := 116) B dX12_pack_46 (by decide +kernel) ?_
  refine z_ladd B dX12_pack_47 ?_
  refine z_top (st1 := [.long 540340]) (congrArg (fun w9 : Int64 => ([.long w9] : List Value)) (show (540224 + 116 : Int64) = 540340 by decide +kernel)) ?_
  refine z_ldc2 (v := 96) B (by decide +kernel) dX12_pack_48 ?_
  refine z_lsub B dX12_pack_51 ?_
  refine z_top (st1 := [.long 540244]) (congrArg (fun w9 : Int64 => ([.long w9] : List Value)) (show (540340 - 96 : Int64) = 540244 by decide +kernel)) ?_
  refine z_lstore (lv' := [(6, .long 540244), (0, .int 112), (1, .int 111), (2, .int 114), (3, .int 116), (4, .int 0), (5, .int 0)]) B dX12_pack_52 (Nat.le_of_ble_eq_true rfl) rfl ?_
  refine z_iload B dX12_pack_54 5 rfl ?_
  refine z_if_ne (tgt := 64) B dX12_pack_56 rfl (fun h9 => absurd (by decide) h9) (fun c_2 => ?_)
  refine z_lload B dX12_pack_59 0 rfl ?_
  refine z_goto (tgt := 78) B dX12_pack_61 rfl ?_
  refine z_lstore (lv' := [(6, .long 540244), (0, .int 112), (1, .int 111), (2, .int 114), (3, .int 116), (4, .int 0), (5, .int 0)]) B dX12_pack_78 (Nat.le_of_ble_eq_true rfl) rfl ?_
  refine z_iload B dX12_pack_80 6 rfl ?_
  refine z_if_ne (tgt := 90) B dX12_pack_82 rfl (fun h9 => absurd (by decide) h9) (fun c_3 => ?_)
  refine z_lload B dX12_pack_85 0 rfl ?_
  refine z_goto (tgt := 104) B dX12_pack_87 rfl ?_
  exact z_ret_l B dX12_pack_104 ⟨rfl, rfl, hI, (fun b9 h9 => rfl)⟩

set_option maxHeartbeats 4000000 in
set_option maxRecDepth 100000 in
theorem r_pack_112_114_111_116_111_0 (G : EnvG) (l : Launch) (Φ : Hm) (sz x : Nat) (rd : (Nat → Int32) → Prop) (fl : Nat) (pe : Nat) (le : Nat) (nx : Nat) (il : Nat) (qu : Nat) (kn : Int32) (ec : Int32) (nu : Int32) (va : Int64)  (hx : G.2.2.2 ≤ x) (hI : Im G x (rd, NN, fl, pe, le, nx, il, qu, kn, ec, nu, va) Φ)  : Ct G l yX12_pack wsX12_pack ({ frames := 0, cells := 0, slots := 0, locals := 0 }) 0 0 [.int 112, .int 114, .int 111, .int 116, .int 111, .int 0] Φ sz (fun v Φ1 sz1 => (v = some (.long 17383055)) ∧ sz1 = sz ∧ (Im G x (rd, NN, fl, pe, le, nx, il, qu, kn, ec, nu, va) Φ1) ∧ Fr x (fun j9 => False) Φ Φ1) := by
  refine Ct.of (cc := cX12_pack) (maxL := 8) (ret := (some .long)) (by decide) rfl (Nat.le_of_ble_eq_true rfl) ?_
  intro p9 e9 s9 m9 w9 t9 k9 B
  show Z p9 l e9 _ s9 m9 _ w9 t9 k9 _ G 8 0 [(0, .int 112), (1, .int 114), (2, .int 111), (3, .int 116), (4, .int 111), (5, .int 0)] [] Φ sz 0 0
  refine z_iload_n B dX12_pack_0 rfl 0 rfl ?_
  refine z_i2l (v := 112) B dX12_pack_1 (by decide +kernel) ?_
  refine z_ldc2 (v := 96) B (by decide +kernel) dX12_pack_2 ?_
  refine z_lsub B dX12_pack_5 ?_
  refine z_top (st1 := [.long 16]) (congrArg (fun w9 : Int64 => ([.long w9] : List Value)) (show (112 - 96 : Int64) = 16 by decide +kernel)) ?_
  refine z_ldc2 (v := 32) B (by decide +kernel) dX12_pack_6 ?_
  refine z_lmul B dX12_pack_9 ?_
  refine z_top (st1 := [.long 512]) (congrArg (fun w9 : Int64 => ([.long w9] : List Value)) (show (16 * 32 : Int64) = 512 by decide +kernel)) ?_
  refine z_iload_n B dX12_pack_10 rfl 1 rfl ?_
  refine z_i2l (v := 114) B dX12_pack_11 (by decide +kernel) ?_
  refine z_ladd B dX12_pack_12 ?_
  refine z_top (st1 := [.long 626]) (congrArg (fun w9 : Int64 => ([.long w9] : List Value)) (show (512 + 114 : Int64) = 626 by decide +kernel)) ?_
  refine z_ldc2 (v := 96) B (by decide +kernel) dX12_pack_13 ?_
  refine z_lsub B dX12_pack_16 ?_
  refine z_top (st1 := [.long 530]) (congrArg (fun w9 : Int64 => ([.long w9] : List Value)) (show (626 - 96 : Int64) = 530 by decide +kernel)) ?_
  refine z_ldc2 (v := 32) B (by decide +kernel) dX12_pack_17 ?_
  refine z_lmul B dX12_pack_20 ?_
  refine z_top (st1 := [.long 16960]) (congrArg (fun w9 : Int64 => ([.long w9] : List Value)) (show (530 * 32 : Int64) = 16960 by decide +kernel)) ?_
  refine z_iload_n B dX12_pack_21 rfl 2 rfl ?_
  refine z_i2l (v := 111) B dX12_pack_22 (by decide +kernel) ?_
  refine z_ladd B dX12_pack_23 ?_
  refine z_top (st1 := [.long 17071]) (congrArg (fun w9 : Int64 => ([.long w9] : List Value)) (show (16960 + 111 : Int64) = 17071 by decide +kernel)) ?_
  refine z_ldc2 (v := 96) B (by decide +kernel) dX12_pack_24 ?_
  refine z_lsub B dX12_pack_27 ?_
  refine z_top (st1 := [.long 16975]) (congrArg (fun w9 : Int64 => ([.long w9] : List Value)) (show (17071 - 96 : Int64) = 16975 by decide +kernel)) ?_
  refine z_lstore (lv' := [(6, .long 16975), (0, .int 112), (1, .int 114), (2, .int 111), (3, .int 116), (4, .int 111), (5, .int 0)]) B dX12_pack_28 (Nat.le_of_ble_eq_true rfl) rfl ?_
  refine z_iload_n B dX12_pack_30 rfl 4 rfl ?_
  refine z_if_ne (tgt := 39) B dX12_pack_31 rfl (fun c_1 => ?_) (fun h9 => absurd h9 (by decide))
  refine z_lload B dX12_pack_39 0 rfl ?_
  refine z_ldc2 (v := 32) B (by decide +kernel) dX12_pack_41 ?_
  refine z_lmul B dX12_pack_44 ?_
  refine z_top (st1 := [.long 543200]) (congrArg (fun w9 : Int64 => ([.long w9] : List Value)) (show (16975 * 32 : Int64) = 543200 by decide +kernel)) ?_
  refine z_iload_n B dX12_pack_45 rfl 4 rfl ?_
  refine z_i2l (v := 116) B dX12_pack_46 (by decide +kernel) ?_
  refine z_ladd B dX12_pack_47 ?_
  refine z_top (st1 := [.long 543316]) (congrArg (fun w9 : Int64 => ([.long w9] : List Value)) (show (543200 + 116 : Int64) = 543316 by decide +kernel)) ?_
  refine z_ldc2 (v := 96) B (by decide +kernel) dX12_pack_48 ?_
  refine z_lsub B dX12_pack_51 ?_
  refine z_top (st1 := [.long 543220]) (congrArg (fun w9 : Int64 => ([.long w9] : List Value)) (show (543316 - 96 : Int64) = 543220 by decide +kernel)) ?_
  refine z_lstore (lv' := [(6, .long 543220), (0, .int 112), (1, .int 114), (2, .int 111), (3, .int 116), (4, .int 111), (5, .int 0)]) B dX12_pack_52 (Nat.le_of_ble_eq_true rfl) rfl ?_
  refine z_iload B dX12_pack_54 5 rfl ?_
  refine z_if_ne (tgt := 64) B dX12_pack_56 rfl (fun c_2 => ?_) (fun h9 => absurd h9 (by decide))
  refine z_lload B dX12_pack_64 0 rfl ?_
  refine z_ldc2 (v := 32) B (by decide +kernel) dX12_pack_66 ?_
  refine z_lmul B dX12_pack_69 ?_
  refine z_top (st1 := [.long 17383040]) (congrArg (fun w9 : Int64 => ([.long w9] : List Value)) (show (543220 * 32 : Int64) = 17383040 by decide +kernel)) ?_
  refine z_iload B dX12_pack_70 5 rfl ?_
  refine z_i2l (v := 111) B dX12_pack_72 (by decide +kernel) ?_
  refine z_ladd B dX12_pack_73 ?_
  refine z_top (st1 := [.long 17383151]) (congrArg (fun w9 : Int64 => ([.long w9] : List Value)) (show (17383040 + 111 : Int64) = 17383151 by decide +kernel)) ?_
  refine z_ldc2 (v := 96) B (by decide +kernel) dX12_pack_74 ?_
  refine z_lsub B dX12_pack_77 ?_
  refine z_top (st1 := [.long 17383055]) (congrArg (fun w9 : Int64 => ([.long w9] : List Value)) (show (17383151 - 96 : Int64) = 17383055 by decide +kernel)) ?_
  refine z_lstore (lv' := [(6, .long 17383055), (0, .int 112), (1, .int 114), (2, .int 111), (3, .int 116), (4, .int 111), (5, .int 0)]) B dX12_pack_78 (Nat.le_of_ble_eq_true rfl) rfl ?_
  refine z_iload B dX12_pack_80 6 rfl ?_
  refine z_if_ne (tgt := 90) B dX12_pack_82 rfl (fun h9 => absurd (by decide) h9) (fun c_3 => ?_)
  refine z_lload B dX12_pack_85 0 rfl ?_
  refine z_goto (tgt := 104) B dX12_pack_87 rfl ?_
  exact z_ret_l B dX12_pack_104 ⟨rfl, rfl, hI, (fun b9 h9 => rfl)⟩

set_option maxHeartbeats 4000000 in
set_option maxRecDepth 100000 in
theorem r_pack_114_97_116_101_0_0 (G : EnvG) (l : Launch) (Φ : Hm) (sz x : Nat) (rd : (Nat → Int32) → Prop) (fl : Nat) (pe : Nat) (le : Nat) (nx : Nat) (il : Nat) (qu : Nat) (kn : Int32) (ec : Int32) (nu : Int32) (va : Int64)  (hx : G.2.2.2 ≤ x) (hI : Im G x (rd, NN, fl, pe, le, nx, il, qu, kn, ec, nu, va) Φ)  : Ct G l yX12_pack wsX12_pack ({ frames := 0, cells := 0, slots := 0, locals := 0 }) 0 0 [.int 114, .int 97, .int 116, .int 101, .int 0, .int 0] Φ sz (fun v Φ1 sz1 => (v = some (.long 591493)) ∧ sz1 = sz ∧ (Im G x (rd, NN, fl, pe, le, nx, il, qu, kn, ec, nu, va) Φ1) ∧ Fr x (fun j9 => False) Φ Φ1) := by
  refine Ct.of (cc := cX12_pack) (maxL := 8) (ret := (some .long)) (by decide) rfl (Nat.le_of_ble_eq_true rfl) ?_
  intro p9 e9 s9 m9 w9 t9 k9 B
  show Z p9 l e9 _ s9 m9 _ w9 t9 k9 _ G 8 0 [(0, .int 114), (1, .int 97), (2, .int 116), (3, .int 101), (4, .int 0), (5, .int 0)] [] Φ sz 0 0
  refine z_iload_n B dX12_pack_0 rfl 0 rfl ?_
  refine z_i2l (v := 114) B dX12_pack_1 (by decide +kernel) ?_
  refine z_ldc2 (v := 96) B (by decide +kernel) dX12_pack_2 ?_
  refine z_lsub B dX12_pack_5 ?_
  refine z_top (st1 := [.long 18]) (congrArg (fun w9 : Int64 => ([.long w9] : List Value)) (show (114 - 96 : Int64) = 18 by decide +kernel)) ?_
  refine z_ldc2 (v := 32) B (by decide +kernel) dX12_pack_6 ?_
  refine z_lmul B dX12_pack_9 ?_
  refine z_top (st1 := [.long 576]) (congrArg (fun w9 : Int64 => ([.long w9] : List Value)) (show (18 * 32 : Int64) = 576 by decide +kernel)) ?_
  refine z_iload_n B dX12_pack_10 rfl 1 rfl ?_
  refine z_i2l (v := 97) B dX12_pack_11 (by decide +kernel) ?_
  refine z_ladd B dX12_pack_12 ?_
  refine z_top (st1 := [.long 673]) (congrArg (fun w9 : Int64 => ([.long w9] : List Value)) (show (576 + 97 : Int64) = 673 by decide +kernel)) ?_
  refine z_ldc2 (v := 96) B (by decide +kernel) dX12_pack_13 ?_
  refine z_lsub B dX12_pack_16 ?_
  refine z_top (st1 := [.long 577]) (congrArg (fun w9 : Int64 => ([.long w9] : List Value)) (show (673 - 96 : Int64) = 577 by decide +kernel)) ?_
  refine z_ldc2 (v := 32) B (by decide +kernel) dX12_pack_17 ?_
  refine z_lmul B dX12_pack_20 ?_
  refine z_top (st1 := [.long 18464]) (congrArg (fun w9 : Int64 => ([.long w9] : List Value)) (show (577 * 32 : Int64) = 18464 by decide +kernel)) ?_
  refine z_iload_n B dX12_pack_21 rfl 2 rfl ?_
  refine z_i2l (v := 116) B dX12_pack_22 (by decide +kernel) ?_
  refine z_ladd B dX12_pack_23 ?_
  refine z_top (st1 := [.long 18580]) (congrArg (fun w9 : Int64 => ([.long w9] : List Value)) (show (18464 + 116 : Int64) = 18580 by decide +kernel)) ?_
  refine z_ldc2 (v := 96) B (by decide +kernel) dX12_pack_24 ?_
  refine z_lsub B dX12_pack_27 ?_
  refine z_top (st1 := [.long 18484]) (congrArg (fun w9 : Int64 => ([.long w9] : List Value)) (show (18580 - 96 : Int64) = 18484 by decide +kernel)) ?_
  refine z_lstore (lv' := [(6, .long 18484), (0, .int 114), (1, .int 97), (2, .int 116), (3, .int 101), (4, .int 0), (5, .int 0)]) B dX12_pack_28 (Nat.le_of_ble_eq_true rfl) rfl ?_
  refine z_iload_n B dX12_pack_30 rfl 4 rfl ?_
  refine z_if_ne (tgt := 39) B dX12_pack_31 rfl (fun c_1 => ?_) (fun h9 => absurd h9 (by decide))
  refine z_lload B dX12_pack_39 0 rfl ?_
  refine z_ldc2 (v := 32) B (by decide +kernel) dX12_pack_41 ?_
  refine z_lmul B dX12_pack_44 ?_
  refine z_top (st1 := [.long 591488]) (congrArg (fun w9 : Int64 => ([.long w9] : List Value)) (show (18484 * 32 : Int64) = 591488 by decide +kernel)) ?_
  refine z_iload_n B dX12_pack_45 rfl 4 rfl ?_
  refine z_i2l (v := 101) B dX12_pack_46 (by decide +kernel) ?_
  refine z_ladd B dX12_pack_47 ?_
  refine z_top (st1 := [.long 591589]) (congrArg (fun w9 : Int64 => ([.long w9] : List Value)) (show (591488 + 101 : Int64) = 591589 by decide +kernel)) ?_
  refine z_ldc2 (v := 96) B (by decide +kernel) dX12_pack_48 ?_
  refine z_lsub B dX12_pack_51 ?_
  refine z_top (st1 := [.long 591493]) (congrArg (fun w9 : Int64 => ([.long w9] : List Value)) (show (591589 - 96 : Int64) = 591493 by decide +kernel)) ?_
  refine z_lstore (lv' := [(6, .long 591493), (0, .int 114), (1, .int 97), (2, .int 116), (3, .int 101), (4, .int 0), (5, .int 0)]) B dX12_pack_52 (Nat.le_of_ble_eq_true rfl) rfl ?_
  refine z_iload B dX12_pack_54 5 rfl ?_
  refine z_if_ne (tgt := 64) B dX12_pack_56 rfl (fun h9 => absurd (by decide) h9) (fun c_2 => ?_)
  refine z_lload B dX12_pack_59 0 rfl ?_
  refine z_goto (tgt := 78) B dX12_pack_61 rfl ?_
  refine z_lstore (lv' := [(6, .long 591493), (0, .int 114), (1, .int 97), (2, .int 116), (3, .int 101), (4, .int 0), (5, .int 0)]) B dX12_pack_78 (Nat.le_of_ble_eq_true rfl) rfl ?_
  refine z_iload B dX12_pack_80 6 rfl ?_
  refine z_if_ne (tgt := 90) B dX12_pack_82 rfl (fun h9 => absurd (by decide) h9) (fun c_3 => ?_)
  refine z_lload B dX12_pack_85 0 rfl ?_
  refine z_goto (tgt := 104) B dX12_pack_87 rfl ?_
  exact z_ret_l B dX12_pack_104 ⟨rfl, rfl, hI, (fun b9 h9 => rfl)⟩

set_option maxHeartbeats 4000000 in
set_option maxRecDepth 100000 in
theorem r_pack_114_101_102_114_0_0 (G : EnvG) (l : Launch) (Φ : Hm) (sz x : Nat) (rd : (Nat → Int32) → Prop) (fl : Nat) (pe : Nat) (le : Nat) (nx : Nat) (il : Nat) (qu : Nat) (kn : Int32) (ec : Int32) (nu : Int32) (va : Int64)  (hx : G.2.2.2 ≤ x) (hI : Im G x (rd, NN, fl, pe, le, nx, il, qu, kn, ec, nu, va) Φ)  : Ct G l yX12_pack wsX12_pack ({ frames := 0, cells := 0, slots := 0, locals := 0 }) 0 0 [.int 114, .int 101, .int 102, .int 114, .int 0, .int 0] Φ sz (fun v Φ1 sz1 => (v = some (.long 595154)) ∧ sz1 = sz ∧ (Im G x (rd, NN, fl, pe, le, nx, il, qu, kn, ec, nu, va) Φ1) ∧ Fr x (fun j9 => False) Φ Φ1) := by
  refine Ct.of (cc := cX12_pack) (maxL := 8) (ret := (some .long)) (by decide) rfl (Nat.le_of_ble_eq_true rfl) ?_
  intro p9 e9 s9 m9 w9 t9 k9 B
  show Z p9 l e9 _ s9 m9 _ w9 t9 k9 _ G 8 0 [(0, .int 114), (1, .int 101), (2, .int 102), (3, .int 114), (4, .int 0), (5, .int 0)] [] Φ sz 0 0
  refine z_iload_n B dX12_pack_0 rfl 0 rfl ?_
  refine z_i2l (v := 114) B dX12_pack_1 (by decide +kernel) ?_
  refine z_ldc2 (v := 96) B (by decide +kernel) dX12_pack_2 ?_
  refine z_lsub B dX12_pack_5 ?_
  refine z_top (st1 := [.long 18]) (congrArg (fun w9 : Int64 => ([.long w9] : List Value)) (show (114 - 96 : Int64) = 18 by decide +kernel)) ?_
  refine z_ldc2 (v := 32) B (by decide +kernel) dX12_pack_6 ?_
  refine z_lmul B dX12_pack_9 ?_
  refine z_top (st1 := [.long 576]) (congrArg (fun w9 : Int64 => ([.long w9] : List Value)) (show (18 * 32 : Int64) = 576 by decide +kernel)) ?_
  refine z_iload_n B dX12_pack_10 rfl 1 rfl ?_
  refine z_i2l (v := 101) B dX12_pack_11 (by decide +kernel) ?_
  refine z_ladd B dX12_pack_12 ?_
  refine z_top (st1 := [.long 677]) (congrArg (fun w9 : Int64 => ([.long w9] : List Value)) (show (576 + 101 : Int64) = 677 by decide +kernel)) ?_
  refine z_ldc2 (v := 96) B (by decide +kernel) dX12_pack_13 ?_
  refine z_lsub B dX12_pack_16 ?_
  refine z_top (st1 := [.long 581]) (congrArg (fun w9 : Int64 => ([.long w9] : List Value)) (show (677 - 96 : Int64) = 581 by decide +kernel)) ?_
  refine z_ldc2 (v := 32) B (by decide +kernel) dX12_pack_17 ?_
  refine z_lmul B dX12_pack_20 ?_
  refine z_top (st1 := [.long 18592]) (congrArg (fun w9 : Int64 => ([.long w9] : List Value)) (show (581 * 32 : Int64) = 18592 by decide +kernel)) ?_
  refine z_iload_n B dX12_pack_21 rfl 2 rfl ?_
  refine z_i2l (v := 102) B dX12_pack_22 (by decide +kernel) ?_
  refine z_ladd B dX12_pack_23 ?_
  refine z_top (st1 := [.long 18694]) (congrArg (fun w9 : Int64 => ([.long w9] : List Value)) (show (18592 + 102 : Int64) = 18694 by decide +kernel)) ?_
  refine z_ldc2 (v := 96) B (by decide +kernel) dX12_pack_24 ?_
  refine z_lsub B dX12_pack_27 ?_
  refine z_top (st1 := [.long 18598]) (congrArg (fun w9 : Int64 => ([.long w9] : List Value)) (show (18694 - 96 : Int64) = 18598 by decide +kernel)) ?_
  refine z_lstore (lv' := [(6, .long 18598), (0, .int 114), (1, .int 101), (2, .int 102), (3, .int 114), (4, .int 0), (5, .int 0)]) B dX12_pack_28 (Nat.le_of_ble_eq_true rfl) rfl ?_
  refine z_iload_n B dX12_pack_30 rfl 4 rfl ?_
  refine z_if_ne (tgt := 39) B dX12_pack_31 rfl (fun c_1 => ?_) (fun h9 => absurd h9 (by decide))
  refine z_lload B dX12_pack_39 0 rfl ?_
  refine z_ldc2 (v := 32) B (by decide +kernel) dX12_pack_41 ?_
  refine z_lmul B dX12_pack_44 ?_
  refine z_top (st1 := [.long 595136]) (congrArg (fun w9 : Int64 => ([.long w9] : List Value)) (show (18598 * 32 : Int64) = 595136 by decide +kernel)) ?_
  refine z_iload_n B dX12_pack_45 rfl 4 rfl ?_
  refine z_i2l (v := 114) B dX12_pack_46 (by decide +kernel) ?_
  refine z_ladd B dX12_pack_47 ?_
  refine z_top (st1 := [.long 595250]) (congrArg (fun w9 : Int64 => ([.long w9] : List Value)) (show (595136 + 114 : Int64) = 595250 by decide +kernel)) ?_
  refine z_ldc2 (v := 96) B (by decide +kernel) dX12_pack_48 ?_
  refine z_lsub B dX12_pack_51 ?_
  refine z_top (st1 := [.long 595154]) (congrArg (fun w9 : Int64 => ([.long w9] : List Value)) (show (595250 - 96 : Int64) = 595154 by decide +kernel)) ?_
  refine z_lstore (lv' := [(6, .long 595154), (0, .int 114), (1, .int 101), (2, .int 102), (3, .int 114), (4, .int 0), (5, .int 0)]) B dX12_pack_52 (Nat.le_of_ble_eq_true rfl) rfl ?_
  refine z_iload B dX12_pack_54 5 rfl ?_
  refine z_if_ne (tgt := 64) B dX12_pack_56 rfl (fun h9 => absurd (by decide) h9) (fun c_2 => ?_)
  refine z_lload B dX12_pack_59 0 rfl ?_
  refine z_goto (tgt := 78) B dX12_pack_61 rfl ?_
  refine z_lstore (lv' := [(6, .long 595154), (0, .int 114), (1, .int 101), (2, .int 102), (3, .int 114), (4, .int 0), (5, .int 0)]) B dX12_pack_78 (Nat.le_of_ble_eq_true rfl) rfl ?_
  refine z_iload B dX12_pack_80 6 rfl ?_
  refine z_if_ne (tgt := 90) B dX12_pack_82 rfl (fun h9 => absurd (by decide) h9) (fun c_3 => ?_)
  refine z_lload B dX12_pack_85 0 rfl ?_
  refine z_goto (tgt := 104) B dX12_pack_87 rfl ?_
  exact z_ret_l B dX12_pack_104 ⟨rfl, rfl, hI, (fun b9 h9 => rfl)⟩

set_option maxHeartbeats 4000000 in
set_option maxRecDepth 100000 in
theorem r_pack_115_97_109_112_108_0 (G : EnvG) (l : Launch) (Φ : Hm) (sz x : Nat) (rd : (Nat → Int32) → Prop) (fl : Nat) (pe : Nat) (le : Nat) (nx : Nat) (il : Nat) (qu : Nat) (kn : Int32) (ec : Int32) (nu : Int32) (va : Int64)  (hx : G.2.2.2 ≤ x) (hI : Im G x (rd, NN, fl, pe, le, nx, il, qu, kn, ec, nu, va) Φ)  : Ct G l yX12_pack wsX12_pack ({ frames := 0, cells := 0, slots := 0, locals := 0 }) 0 0 [.int 115, .int 97, .int 109, .int 112, .int 108, .int 0] Φ sz (fun v Φ1 sz1 => (v = some (.long 19969548)) ∧ sz1 = sz ∧ (Im G x (rd, NN, fl, pe, le, nx, il, qu, kn, ec, nu, va) Φ1) ∧ Fr x (fun j9 => False) Φ Φ1) := by
  refine Ct.of (cc := cX12_pack) (maxL := 8) (ret := (some .long)) (by decide) rfl (Nat.le_of_ble_eq_true rfl) ?_
  intro p9 e9 s9 m9 w9 t9 k9 B
  show Z p9 l e9 _ s9 m9 _ w9 t9 k9 _ G 8 0 [(0, .int 115), (1, .int 97), (2, .int 109), (3, .int 112), (4, .int 108), (5, .int 0)] [] Φ sz 0 0
  refine z_iload_n B dX12_pack_0 rfl 0 rfl ?_
  refine z_i2l (v := 115) B dX12_pack_1 (by decide +kernel) ?_
  refine z_ldc2 (v := 96) B (by decide +kernel) dX12_pack_2 ?_
  refine z_lsub B dX12_pack_5 ?_
  refine z_top (st1 := [.long 19]) (congrArg (fun w9 : Int64 => ([.long w9] : List Value)) (show (115 - 96 : Int64) = 19 by decide +kernel)) ?_
  refine z_ldc2 (v := 32) B (by decide +kernel) dX12_pack_6 ?_
  refine z_lmul B dX12_pack_9 ?_
  refine z_top (st1 := [.long 608]) (congrArg (fun w9 : Int64 => ([.long w9] : List Value)) (show (19 * 32 : Int64) = 608 by decide +kernel)) ?_
  refine z_iload_n B dX12_pack_10 rfl 1 rfl ?_
  refine z_i2l (v := 97) B dX12_pack_11 (by decide +kernel) ?_
  refine z_ladd B dX12_pack_12 ?_
  refine z_top (st1 := [.long 705]) (congrArg (fun w9 : Int64 => ([.long w9] : List Value)) (show (608 + 97 : Int64) = 705 by decide +kernel)) ?_
  refine z_ldc2 (v := 96) B (by decide +kernel) dX12_pack_13 ?_
  refine z_lsub B dX12_pack_16 ?_
  refine z_top (st1 := [.long 609]) (congrArg (fun w9 : Int64 => ([.long w9] : List Value)) (show (705 - 96 : Int64) = 609 by decide +kernel)) ?_
  refine z_ldc2 (v := 32) B (by decide +kernel) dX12_pack_17 ?_
  refine z_lmul B dX12_pack_20 ?_
  refine z_top (st1 := [.long 19488]) (congrArg (fun w9 : Int64 => ([.long w9] : List Value)) (show (609 * 32 : Int64) = 19488 by decide +kernel)) ?_
  refine z_iload_n B dX12_pack_21 rfl 2 rfl ?_
  refine z_i2l (v := 109) B dX12_pack_22 (by decide +kernel) ?_
  refine z_ladd B dX12_pack_23 ?_
  refine z_top (st1 := [.long 19597]) (congrArg (fun w9 : Int64 => ([.long w9] : List Value)) (show (19488 + 109 : Int64) = 19597 by decide +kernel)) ?_
  refine z_ldc2 (v := 96) B (by decide +kernel) dX12_pack_24 ?_
  refine z_lsub B dX12_pack_27 ?_
  refine z_top (st1 := [.long 19501]) (congrArg (fun w9 : Int64 => ([.long w9] : List Value)) (show (19597 - 96 : Int64) = 19501 by decide +kernel)) ?_
  refine z_lstore (lv' := [(6, .long 19501), (0, .int 115), (1, .int 97), (2, .int 109), (3, .int 112), (4, .int 108), (5, .int 0)]) B dX12_pack_28 (Nat.le_of_ble_eq_true rfl) rfl ?_
  refine z_iload_n B dX12_pack_30 rfl 4 rfl ?_
  refine z_if_ne (tgt := 39) B dX12_pack_31 rfl (fun c_1 => ?_) (fun h9 => absurd h9 (by decide))
  refine z_lload B dX12_pack_39 0 rfl ?_
  refine z_ldc2 (v := 32) B (by decide +kernel) dX12_pack_41 ?_
  refine z_lmul B dX12_pack_44 ?_
  refine z_top (st1 := [.long 624032]) (congrArg (fun w9 : Int64 => ([.long w9] : List Value)) (show (19501 * 32 : Int64) = 624032 by decide +kernel)) ?_
  refine z_iload_n B dX12_pack_45 rfl 4 rfl ?_
  refine z_i2l (v := 112) B dX12_pack_46 (by decide +kernel) ?_
  refine z_ladd B dX12_pack_47 ?_
  refine z_top (st1 := [.long 624144]) (congrArg (fun w9 : Int64 => ([.long w9] : List Value)) (show (624032 + 112 : Int64) = 624144 by decide +kernel)) ?_
  refine z_ldc2 (v := 96) B (by decide +kernel) dX12_pack_48 ?_
  refine z_lsub B dX12_pack_51 ?_
  refine z_top (st1 := [.long 624048]) (congrArg (fun w9 : Int64 => ([.long w9] : List Value)) (show (624144 - 96 : Int64) = 624048 by decide +kernel)) ?_
  refine z_lstore (lv' := [(6, .long 624048), (0, .int 115), (1, .int 97), (2, .int 109), (3, .int 112), (4, .int 108), (5, .int 0)]) B dX12_pack_52 (Nat.le_of_ble_eq_true rfl) rfl ?_
  refine z_iload B dX12_pack_54 5 rfl ?_
  refine z_if_ne (tgt := 64) B dX12_pack_56 rfl (fun c_2 => ?_) (fun h9 => absurd h9 (by decide))
  refine z_lload B dX12_pack_64 0 rfl ?_
  refine z_ldc2 (v := 32) B (by decide +kernel) dX12_pack_66 ?_
  refine z_lmul B dX12_pack_69 ?_
  refine z_top (st1 := [.long 19969536]) (congrArg (fun w9 : Int64 => ([.long w9] : List Value)) (show (624048 * 32 : Int64) = 19969536 by decide +kernel)) ?_
  refine z_iload B dX12_pack_70 5 rfl ?_
  refine z_i2l (v := 108) B dX12_pack_72 (by decide +kernel) ?_
  refine z_ladd B dX12_pack_73 ?_
  refine z_top (st1 := [.long 19969644]) (congrArg (fun w9 : Int64 => ([.long w9] : List Value)) (show (19969536 + 108 : Int64) = 19969644 by decide +kernel)) ?_
  refine z_ldc2 (v := 96) B (by decide +kernel) dX12_pack_74 ?_
  refine z_lsub B dX12_pack_77 ?_
  refine z_top (st1 := [.long 19969548]) (congrArg (fun w9 : Int64 => ([.long w9] : List Value)) (show (19969644 - 96 : Int64) = 19969548 by decide +kernel)) ?_
  refine z_lstore (lv' := [(6, .long 19969548), (0, .int 115), (1, .int 97), (2, .int 109), (3, .int 112), (4, .int 108), (5, .int 0)]) B dX12_pack_78 (Nat.le_of_ble_eq_true rfl) rfl ?_
  refine z_iload B dX12_pack_80 6 rfl ?_
  refine z_if_ne (tgt := 90) B dX12_pack_82 rfl (fun h9 => absurd (by decide) h9) (fun c_3 => ?_)
  refine z_lload B dX12_pack_85 0 rfl ?_
  refine z_goto (tgt := 104) B dX12_pack_87 rfl ?_
  exact z_ret_l B dX12_pack_104 ⟨rfl, rfl, hI, (fun b9 h9 => rfl)⟩

set_option maxHeartbeats 4000000 in
set_option maxRecDepth 100000 in
theorem r_pack_115_111_117_114_99_101 (G : EnvG) (l : Launch) (Φ : Hm) (sz x : Nat) (rd : (Nat → Int32) → Prop) (fl : Nat) (pe : Nat) (le : Nat) (nx : Nat) (il : Nat) (qu : Nat) (kn : Int32) (ec : Int32) (nu : Int32) (va : Int64)  (hx : G.2.2.2 ≤ x) (hI : Im G x (rd, NN, fl, pe, le, nx, il, qu, kn, ec, nu, va) Φ)  : Ct G l yX12_pack wsX12_pack ({ frames := 0, cells := 0, slots := 0, locals := 0 }) 0 0 [.int 115, .int 111, .int 117, .int 114, .int 99, .int 101] Φ sz (fun v Φ1 sz1 => (v = some (.long 653969509)) ∧ sz1 = sz ∧ (Im G x (rd, NN, fl, pe, le, nx, il, qu, kn, ec, nu, va) Φ1) ∧ Fr x (fun j9 => False) Φ Φ1) := by
  refine Ct.of (cc := cX12_pack) (maxL := 8) (ret := (some .long)) (by decide) rfl (Nat.le_of_ble_eq_true rfl) ?_
  intro p9 e9 s9 m9 w9 t9 k9 B
  show Z p9 l e9 _ s9 m9 _ w9 t9 k9 _ G 8 0 [(0, .int 115), (1, .int 111), (2, .int 117), (3, .int 114), (4, .int 99), (5, .int 101)] [] Φ sz 0 0
  refine z_iload_n B dX12_pack_0 rfl 0 rfl ?_
  refine z_i2l (v := 115) B dX12_pack_1 (by decide +kernel) ?_
  refine z_ldc2 (v := 96) B (by decide +kernel) dX12_pack_2 ?_
  refine z_lsub B dX12_pack_5 ?_
  refine z_top (st1 := [.long 19]) (congrArg (fun w9 : Int64 => ([.long w9] : List Value)) (show (115 - 96 : Int64) = 19 by decide +kernel)) ?_
  refine z_ldc2 (v := 32) B (by decide +kernel) dX12_pack_6 ?_
  refine z_lmul B dX12_pack_9 ?_
  refine z_top (st1 := [.long 608]) (congrArg (fun w9 : Int64 => ([.long w9] : List Value)) (show (19 * 32 : Int64) = 608 by decide +kernel)) ?_
  refine z_iload_n B dX12_pack_10 rfl 1 rfl ?_
  refine z_i2l (v := 111) B dX12_pack_11 (by decide +kernel) ?_
  refine z_ladd B dX12_pack_12 ?_
  refine z_top (st1 := [.long 719]) (congrArg (fun w9 : Int64 => ([.long w9] : List Value)) (show (608 + 111 : Int64) = 719 by decide +kernel)) ?_
  refine z_ldc2 (v := 96) B (by decide +kernel) dX12_pack_13 ?_
  refine z_lsub B dX12_pack_16 ?_
  refine z_top (st1 := [.long 623]) (congrArg (fun w9 : Int64 => ([.long w9] : List Value)) (show (719 - 96 : Int64) = 623 by decide +kernel)) ?_
  refine z_ldc2 (v := 32) B (by decide +kernel) dX12_pack_17 ?_
  refine z_lmul B dX12_pack_20 ?_
  refine z_top (st1 := [.long 19936]) (congrArg (fun w9 : Int64 => ([.long w9] : List Value)) (show (623 * 32 : Int64) = 19936 by decide +kernel)) ?_
  refine z_iload_n B dX12_pack_21 rfl 2 rfl ?_
  refine z_i2l (v := 117) B dX12_pack_22 (by decide +kernel) ?_
  refine z_ladd B dX12_pack_23 ?_
  refine z_top (st1 := [.long 20053]) (congrArg (fun w9 : Int64 => ([.long w9] : List Value)) (show (19936 + 117 : Int64) = 20053 by decide +kernel)) ?_
  refine z_ldc2 (v := 96) B (by decide +kernel) dX12_pack_24 ?_
  refine z_lsub B dX12_pack_27 ?_
  refine z_top (st1 := [.long 19957]) (congrArg (fun w9 : Int64 => ([.long w9] : List Value)) (show (20053 - 96 : Int64) = 19957 by decide +kernel)) ?_
  refine z_lstore (lv' := [(6, .long 19957), (0, .int 115), (1, .int 111), (2, .int 117), (3, .int 114), (4, .int 99), (5, .int 101)]) B dX12_pack_28 (Nat.le_of_ble_eq_true rfl) rfl ?_
  refine z_iload_n B dX12_pack_30 rfl 4 rfl ?_
  refine z_if_ne (tgt := 39) B dX12_pack_31 rfl (fun c_1 => ?_) (fun h9 => absurd h9 (by decide))
  refine z_lload B dX12_pack_39 0 rfl ?_
  refine z_ldc2 (v := 32) B (by decide +kernel) dX12_pack_41 ?_
  refine z_lmul B dX12_pack_44 ?_
  refine z_top (st1 := [.long 638624]) (congrArg (fun w9 : Int64 => ([.long w9] : List Value)) (show (19957 * 32 : Int64) = 638624 by decide +kernel)) ?_
  refine z_iload_n B dX12_pack_45 rfl 4 rfl ?_
  refine z_i2l (v := 114) B dX12_pack_46 (by decide +kernel) ?_
  refine z_ladd B dX12_pack_47 ?_
  refine z_top (st1 := [.long 638738]) (congrArg (fun w9 : Int64 => ([.long w9] : List Value)) (show (638624 + 114 : Int64) = 638738 by decide +kernel)) ?_
  refine z_ldc2 (v := 96) B (by decide +kernel) dX12_pack_48 ?_
  refine z_lsub B dX12_pack_51 ?_
  refine z_top (st1 := [.long 638642]) (congrArg (fun w9 : Int64 => ([.long w9] : List Value)) (show (638738 - 96 : Int64) = 638642 by decide +kernel)) ?_
  refine z_lstore (lv' := [(6, .long 638642), (0, .int 115), (1, .int 111), (2, .int 117), (3, .int 114), (4, .int 99), (5, .int 101)]) B dX12_pack_52 (Nat.le_of_ble_eq_true rfl) rfl ?_
  refine z_iload B dX12_pack_54 5 rfl ?_
  refine z_if_ne (tgt := 64) B dX12_pack_56 rfl (fun c_2 => ?_) (fun h9 => absurd h9 (by decide))
  refine z_lload B dX12_pack_64 0 rfl ?_
  refine z_ldc2 (v := 32) B (by decide +kernel) dX12_pack_66 ?_
  refine z_lmul B dX12_pack_69 ?_
  refine z_top (st1 := [.long 20436544]) (congrArg (fun w9 : Int64 => ([.long w9] : List Value)) (show (638642 * 32 : Int64) = 20436544 by decide +kernel)) ?_
  refine z_iload B dX12_pack_70 5 rfl ?_
  refine z_i2l (v := 99) B dX12_pack_72 (by decide +kernel) ?_
  refine z_ladd B dX12_pack_73 ?_
  refine z_top (st1 := [.long 20436643]) (congrArg (fun w9 : Int64 => ([.long w9] : List Value)) (show (20436544 + 99 : Int64) = 20436643 by decide +kernel)) ?_
  refine z_ldc2 (v := 96) B (by decide +kernel) dX12_pack_74 ?_
  refine z_lsub B dX12_pack_77 ?_
  refine z_top (st1 := [.long 20436547]) (congrArg (fun w9 : Int64 => ([.long w9] : List Value)) (show (20436643 - 96 : Int64) = 20436547 by decide +kernel)) ?_
  refine z_lstore (lv' := [(6, .long 20436547), (0, .int 115), (1, .int 111), (2, .int 117), (3, .int 114), (4, .int 99), (5, .int 101)]) B dX12_pack_78 (Nat.le_of_ble_eq_true rfl) rfl ?_
  refine z_iload B dX12_pack_80 6 rfl ?_
  refine z_if_ne (tgt := 90) B dX12_pack_82 rfl (fun c_3 => ?_) (fun h9 => absurd h9 (by decide))
  refine z_lload B dX12_pack_90 0 rfl ?_
  refine z_ldc2 (v := 32) B (by decide +kernel) dX12_pack_92 ?_
  refine z_lmul B dX12_pack_95 ?_
  refine z_top (st1 := [.long 653969504]) (congrArg (fun w9 : Int64 => ([.long w9] : List Value)) (show (20436547 * 32 : Int64) = 653969504 by decide +kernel)) ?_
  refine z_iload B dX12_pack_96 6 rfl ?_
  refine z_i2l (v := 101) B dX12_pack_98 (by decide +kernel) ?_
  refine z_ladd B dX12_pack_99 ?_
  refine z_top (st1 := [.long 653969605]) (congrArg (fun w9 : Int64 => ([.long w9] : List Value)) (show (653969504 + 101 : Int64) = 653969605 by decide +kernel)) ?_
  refine z_ldc2 (v := 96) B (by decide +kernel) dX12_pack_100 ?_
  refine z_lsub B dX12_pack_103 ?_
  refine z_top (st1 := [.long 653969509]) (congrArg (fun w9 : Int64 => ([.long w9] : List Value)) (show (653969605 - 96 : Int64) = 653969509 by decide +kernel)) ?_
  exact z_ret_l B dX12_pack_104 ⟨rfl, rfl, hI, (fun b9 h9 => rfl)⟩

set_option maxHeartbeats 4000000 in
set_option maxRecDepth 100000 in
theorem r_pack_116_101_109_112_108_0 (G : EnvG) (l : Launch) (Φ : Hm) (sz x : Nat) (rd : (Nat → Int32) → Prop) (fl : Nat) (pe : Nat) (le : Nat) (nx : Nat) (il : Nat) (qu : Nat) (kn : Int32) (ec : Int32) (nu : Int32) (va : Int64)  (hx : G.2.2.2 ≤ x) (hI : Im G x (rd, NN, fl, pe, le, nx, il, qu, kn, ec, nu, va) Φ)  : Ct G l yX12_pack wsX12_pack ({ frames := 0, cells := 0, slots := 0, locals := 0 }) 0 0 [.int 116, .int 101, .int 109, .int 112, .int 108, .int 0] Φ sz (fun v Φ1 sz1 => (v = some (.long 21149196)) ∧ sz1 = sz ∧ (Im G x (rd, NN, fl, pe, le, nx, il, qu, kn, ec, nu, va) Φ1) ∧ Fr x (fun j9 => False) Φ Φ1) := by
  refine Ct.of (cc := cX12_pack) (maxL := 8) (ret := (some .long)) (by decide) rfl (Nat.le_of_ble_eq_true rfl) ?_
  intro p9 e9 s9 m9 w9 t9 k9 B
  show Z p9 l e9 _ s9 m9 _ w9 t9 k9 _ G 8 0 [(0, .int 116), (1, .int 101), (2, .int 109), (3, .int 112), (4, .int 108), (5, .int 0)] [] Φ sz 0 0
  refine z_iload_n B dX12_pack_0 rfl 0 rfl ?_
  refine z_i2l (v := 116) B dX12_pack_1 (by decide +kernel) ?_
  refine z_ldc2 (v := 96) B (by decide +kernel) dX12_pack_2 ?_
  refine z_lsub B dX12_pack_5 ?_
  refine z_top (st1 := [.long 20]) (congrArg (fun w9 : Int64 => ([.long w9] : List Value)) (show (116 - 96 : Int64) = 20 by decide +kernel)) ?_
  refine z_ldc2 (v := 32) B (by decide +kernel) dX12_pack_6 ?_
  refine z_lmul B dX12_pack_9 ?_
  refine z_top (st1 := [.long 640]) (congrArg (fun w9 : Int64 => ([.long w9] : List Value)) (show (20 * 32 : Int64) = 640 by decide +kernel)) ?_
  refine z_iload_n B dX12_pack_10 rfl 1 rfl ?_
  refine z_i2l (v := 101) B dX12_pack_11 (by decide +kernel) ?_
  refine z_ladd B dX12_pack_12 ?_
  refine z_top (st1 := [.long 741]) (congrArg (fun w9 : Int64 => ([.long w9] : List Value)) (show (640 + 101 : Int64) = 741 by decide +kernel)) ?_
  refine z_ldc2 (v := 96) B (by decide +kernel) dX12_pack_13 ?_
  refine z_lsub B dX12_pack_16 ?_
  refine z_top (st1 := [.long 645]) (congrArg (fun w9 : Int64 => ([.long w9] : List Value)) (show (741 - 96 : Int64) = 645 by decide +kernel)) ?_
  refine z_ldc2 (v := 32) B (by decide +kernel) dX12_pack_17 ?_
  refine z_lmul B dX12_pack_20 ?_
  refine z_top (st1 := [.long 20640]) (congrArg (fun w9 : Int64 => ([.long w9] : List Value)) (show (645 * 32 : Int64) = 20640 by decide +kernel)) ?_
  refine z_iload_n B dX12_pack_21 rfl 2 rfl ?_
  refine z_i2l (v := 109) B dX12_pack_22 (by decide +kernel) ?_
  refine z_ladd B dX12_pack_23 ?_
  refine z_top (st1 := [.long 20749]) (congrArg (fun w9 : Int64 => ([.long w9] : List Value)) (show (20640 + 109 : Int64) = 20749 by decide +kernel)) ?_
  refine z_ldc2 (v := 96) B (by decide +kernel) dX12_pack_24 ?_
  refine z_lsub B dX12_pack_27 ?_
  refine z_top (st1 := [.long 20653]) (congrArg (fun w9 : Int64 => ([.long w9] : List Value)) (show (20749 - 96 : Int64) = 20653 by decide +kernel)) ?_
  refine z_lstore (lv' := [(6, .long 20653), (0, .int 116), (1, .int 101), (2, .int 109), (3, .int 112), (4, .int 108), (5, .int 0)]) B dX12_pack_28 (Nat.le_of_ble_eq_true rfl) rfl ?_
  refine z_iload_n B dX12_pack_30 rfl 4 rfl ?_
  refine z_if_ne (tgt := 39) B dX12_pack_31 rfl (fun c_1 => ?_) (fun h9 => absurd h9 (by decide))
  refine z_lload B dX12_pack_39 0 rfl ?_
  refine z_ldc2 (v := 32) B (by decide +kernel) dX12_pack_41 ?_
  refine z_lmul B dX12_pack_44 ?_
  refine z_top (st1 := [.long 660896]) (congrArg (fun w9 : Int64 => ([.long w9] : List Value)) (show (20653 * 32 : Int64) = 660896 by decide +kernel)) ?_
  refine z_iload_n B dX12_pack_45 rfl 4 rfl ?_
  refine z_i2l (v := 112) B dX12_pack_46 (by decide +kernel) ?_
  refine z_ladd B dX12_pack_47 ?_
  refine z_top (st1 := [.long 661008]) (congrArg (fun w9 : Int64 => ([.long w9] : List Value)) (show (660896 + 112 : Int64) = 661008 by decide +kernel)) ?_
  refine z_ldc2 (v := 96) B (by decide +kernel) dX12_pack_48 ?_
  refine z_lsub B dX12_pack_51 ?_
  refine z_top (st1 := [.long 660912]) (congrArg (fun w9 : Int64 => ([.long w9] : List Value)) (show (661008 - 96 : Int64) = 660912 by decide +kernel)) ?_
  refine z_lstore (lv' := [(6, .long 660912), (0, .int 116), (1, .int 101), (2, .int 109), (3, .int 112), (4, .int 108), (5, .int 0)]) B dX12_pack_52 (Nat.le_of_ble_eq_true rfl) rfl ?_
  refine z_iload B dX12_pack_54 5 rfl ?_
  refine z_if_ne (tgt := 64) B dX12_pack_56 rfl (fun c_2 => ?_) (fun h9 => absurd h9 (by decide))
  refine z_lload B dX12_pack_64 0 rfl ?_
  refine z_ldc2 (v := 32) B (by decide +kernel) dX12_pack_66 ?_
  refine z_lmul B dX12_pack_69 ?_
  refine z_top (st1 := [.long 21149184]) (congrArg (fun w9 : Int64 => ([.long w9] : List Value)) (show (660912 * 32 : Int64) = 21149184 by decide +kernel)) ?_
  refine z_iload B dX12_pack_70 5 rfl ?_
  refine z_i2l (v := 108) B dX12_pack_72 (by decide +kernel) ?_
  refine z_ladd B dX12_pack_73 ?_
  refine z_top (st1 := [.long 21149292]) (congrArg (fun w9 : Int64 => ([.long w9] : List Value)) (show (21149184 + 108 : Int64) = 21149292 by decide +kernel)) ?_
  refine z_ldc2 (v := 96) B (by decide +kernel) dX12_pack_74 ?_
  refine z_lsub B dX12_pack_77 ?_
  refine z_top (st1 := [.long 21149196]) (congrArg (fun w9 : Int64 => ([.long w9] : List Value)) (show (21149292 - 96 : Int64) = 21149196 by decide +kernel)) ?_
  refine z_lstore (lv' := [(6, .long 21149196), (0, .int 116), (1, .int 101), (2, .int 109), (3, .int 112), (4, .int 108), (5, .int 0)]) B dX12_pack_78 (Nat.le_of_ble_eq_true rfl) rfl ?_
  refine z_iload B dX12_pack_80 6 rfl ?_
  refine z_if_ne (tgt := 90) B dX12_pack_82 rfl (fun h9 => absurd (by decide) h9) (fun c_3 => ?_)
  refine z_lload B dX12_pack_85 0 rfl ?_
  refine z_goto (tgt := 104) B dX12_pack_87 rfl ?_
  exact z_ret_l B dX12_pack_104 ⟨rfl, rfl, hI, (fun b9 h9 => rfl)⟩

set_option maxHeartbeats 4000000 in
set_option maxRecDepth 100000 in
theorem r_pack_117_115_101_0_0_0 (G : EnvG) (l : Launch) (Φ : Hm) (sz x : Nat) (rd : (Nat → Int32) → Prop) (fl : Nat) (pe : Nat) (le : Nat) (nx : Nat) (il : Nat) (qu : Nat) (kn : Int32) (ec : Int32) (nu : Int32) (va : Int64)  (hx : G.2.2.2 ≤ x) (hI : Im G x (rd, NN, fl, pe, le, nx, il, qu, kn, ec, nu, va) Φ)  : Ct G l yX12_pack wsX12_pack ({ frames := 0, cells := 0, slots := 0, locals := 0 }) 0 0 [.int 117, .int 115, .int 101, .int 0, .int 0, .int 0] Φ sz (fun v Φ1 sz1 => (v = some (.long 22117)) ∧ sz1 = sz ∧ (Im G x (rd, NN, fl, pe, le, nx, il, qu, kn, ec, nu, va) Φ1) ∧ Fr x (fun j9 => False) Φ Φ1) := by
  refine Ct.of (cc := cX12_pack) (maxL := 8) (ret := (some .long)) (by decide) rfl (Nat.le_of_ble_eq_true rfl) ?_
  intro p9 e9 s9 m9 w9 t9 k9 B
  show Z p9 l e9 _ s9 m9 _ w9 t9 k9 _ G 8 0 [(0, .int 117), (1, .int 115), (2, .int 101), (3, .int 0), (4, .int 0), (5, .int 0)] [] Φ sz 0 0
  refine z_iload_n B dX12_pack_0 rfl 0 rfl ?_
  refine z_i2l (v := 117) B dX12_pack_1 (by decide +kernel) ?_
  refine z_ldc2 (v := 96) B (by decide +kernel) dX12_pack_2 ?_
  refine z_lsub B dX12_pack_5 ?_
  refine z_top (st1 := [.long 21]) (congrArg (fun w9 : Int64 => ([.long w9] : List Value)) (show (117 - 96 : Int64) = 21 by decide +kernel)) ?_
  refine z_ldc2 (v := 32) B (by decide +kernel) dX12_pack_6 ?_
  refine z_lmul B dX12_pack_9 ?_
  refine z_top (st1 := [.long 672]) (congrArg (fun w9 : Int64 => ([.long w9] : List Value)) (show (21 * 32 : Int64) = 672 by decide +kernel)) ?_
  refine z_iload_n B dX12_pack_10 rfl 1 rfl ?_
  refine z_i2l (v := 115) B dX12_pack_11 (by decide +kernel) ?_
  refine z_ladd B dX12_pack_12 ?_
  refine z_top (st1 := [.long 787]) (congrArg (fun w9 : Int64 => ([.long w9] : List Value)) (show (672 + 115 : Int64) = 787 by decide +kernel)) ?_
  refine z_ldc2 (v := 96) B (by decide +kernel) dX12_pack_13 ?_
  refine z_lsub B dX12_pack_16 ?_
  refine z_top (st1 := [.long 691]) (congrArg (fun w9 : Int64 => ([.long w9] : List Value)) (show (787 - 96 : Int64) = 691 by decide +kernel)) ?_
  refine z_ldc2 (v := 32) B (by decide +kernel) dX12_pack_17 ?_
  refine z_lmul B dX12_pack_20 ?_
  refine z_top (st1 := [.long 22112]) (congrArg (fun w9 : Int64 => ([.long w9] : List Value)) (show (691 * 32 : Int64) = 22112 by decide +kernel)) ?_
  refine z_iload_n B dX12_pack_21 rfl 2 rfl ?_
  refine z_i2l (v := 101) B dX12_pack_22 (by decide +kernel) ?_
  refine z_ladd B dX12_pack_23 ?_
  refine z_top (st1 := [.long 22213]) (congrArg (fun w9 : Int64 => ([.long w9] : List Value)) (show (22112 + 101 : Int64) = 22213 by decide +kernel)) ?_
  refine z_ldc2 (v := 96) B (by decide +kernel) dX12_pack_24 ?_
  refine z_lsub B dX12_pack_27 ?_
  refine z_top (st1 := [.long 22117]) (congrArg (fun w9 : Int64 => ([.long w9] : List Value)) (show (22213 - 96 : Int64) = 22117 by decide +kernel)) ?_
  refine z_lstore (lv' := [(6, .long 22117), (0, .int 117), (1, .int 115), (2, .int 101), (3, .int 0), (4, .int 0), (5, .int 0)]) B dX12_pack_28 (Nat.le_of_ble_eq_true rfl) rfl ?_
  refine z_iload_n B dX12_pack_30 rfl 4 rfl ?_
  refine z_if_ne (tgt := 39) B dX12_pack_31 rfl (fun h9 => absurd (by decide) h9) (fun c_1 => ?_)
  refine z_lload B dX12_pack_34 0 rfl ?_
  refine z_goto (tgt := 52) B dX12_pack_36 rfl ?_
  refine z_lstore (lv' := [(6, .long 22117), (0, .int 117), (1, .int 115), (2, .int 101), (3, .int 0), (4, .int 0), (5, .int 0)]) B dX12_pack_52 (Nat.le_of_ble_eq_true rfl) rfl ?_
  refine z_iload B dX12_pack_54 5 rfl ?_
  refine z_if_ne (tgt := 64) B dX12_pack_56 rfl (fun h9 => absurd (by decide) h9) (fun c_2 => ?_)
  refine z_lload B dX12_pack_59 0 rfl ?_
  refine z_goto (tgt := 78) B dX12_pack_61 rfl ?_
  refine z_lstore (lv' := [(6, .long 22117), (0, .int 117), (1, .int 115), (2, .int 101), (3, .int 0), (4, .int 0), (5, .int 0)]) B dX12_pack_78 (Nat.le_of_ble_eq_true rfl) rfl ?_
  refine z_iload B dX12_pack_80 6 rfl ?_
  refine z_if_ne (tgt := 90) B dX12_pack_82 rfl (fun h9 => absurd (by decide) h9) (fun c_3 => ?_)
  refine z_lload B dX12_pack_85 0 rfl ?_
  refine z_goto (tgt := 104) B dX12_pack_87 rfl ?_
  exact z_ret_l B dX12_pack_104 ⟨rfl, rfl, hI, (fun b9 h9 => rfl)⟩

def fHf (kn : Int32) (va : Int64) : Int32 := if kn = 1 then (if va = 653969509 then 0 else if va = 4701109538661870 then 1 else if va = 540244 then 2 else if va = 569607949804 then 3 else if va = 17216935571 then 4 else if va = 2937011 then 5 else if va = 6605428 then 6 else if va = 394868 then 7 else if va = 591493 then 8 else -1) else -1
theorem fHf_nat {kn : Int32} {va : Int64} (h : ¬ fHf kn va = -1) : ∃ n : Nat, n ≤ 8 ∧ fHf kn va = nI n := by
  unfold fHf at h ⊢
  by_cases h0 : kn = 1
  · rw [if_pos h0] at h ⊢
    by_cases h1 : va = 653969509
    · rw [if_pos h1]
      exact ⟨0, by decide, by decide⟩
    rw [if_neg h1] at h ⊢
    by_cases h2 : va = 4701109538661870
    · rw [if_pos h2]
      exact ⟨1, by decide, by decide⟩
    rw [if_neg h2] at h ⊢
    by_cases h3 : va = 540244
    · rw [if_pos h3]
      exact ⟨2, by decide, by decide⟩
    rw [if_neg h3] at h ⊢
    by_cases h4 : va = 569607949804
    · rw [if_pos h4]
      exact ⟨3, by decide, by decide⟩
    rw [if_neg h4] at h ⊢
    by_cases h5 : va = 17216935571
    · rw [if_pos h5]
      exact ⟨4, by decide, by decide⟩
    rw [if_neg h5] at h ⊢
    by_cases h6 : va = 2937011
    · rw [if_pos h6]
      exact ⟨5, by decide, by decide⟩
    rw [if_neg h6] at h ⊢
    by_cases h7 : va = 6605428
    · rw [if_pos h7]
      exact ⟨6, by decide, by decide⟩
    rw [if_neg h7] at h ⊢
    by_cases h8 : va = 394868
    · rw [if_pos h8]
      exact ⟨7, by decide, by decide⟩
    rw [if_neg h8] at h ⊢
    by_cases h9 : va = 591493
    · rw [if_pos h9]
      exact ⟨8, by decide, by decide⟩
    rw [if_neg h9] at h ⊢
    exact absurd rfl h
  · rw [if_neg h0] at h
    exact absurd rfl h
theorem fHf_1 {kn : Int32} {va : Int64} (h : ¬ fHf kn va = -1) : kn = 1 := by
  by_cases h0 : kn = 1
  · exact h0
  · unfold fHf at h
    rw [if_neg h0] at h
    exact absurd rfl h
theorem predI {n : Nat} (h : n < 2 ^ 31) : (nI n - 1).toInt = (n : Int) - 1 := by
  have h1 := predL h
  rw [Int32.toInt_toInt64] at h1
  exact h1
theorem NN.up {f : Nat → Int32} {i : Nat} {v : Int32} (h : NN f) (hi : i < 10 ∨ 51 ≤ i) (h0 : i = 0 → ∃ n : Nat, 1 ≤ n ∧ n ≤ 1024 ∧ v = nI n) (h7 : i = 7 → ∃ n : Nat, 256 ≤ n ∧ n ≤ 600 ∧ v = nI n) (h8 : i = 8 → ∃ n : Nat, n ≤ 1024 ∧ v = nI n) (hu : 51 ≤ i → ∃ n : Nat, n ≤ 3 ∧ v = nI n) : NN (upd f i v) := by
  have e : ∀ j, j ≠ i → upd f i v j = f j := fun j hj => by simp [upd, hj]
  have e2 : upd f i v i = v := by simp [upd]
  obtain ⟨k1, k2, k3, k4, k5, k6, k7, k8, k9⟩ := h
  refine ⟨fun j a b => ?_, fun j a b => ?_, fun j a b => ?_, ?_, ?_, ?_, ?_, fun t ht => ?_, fun t n ht hn hl => ?_⟩
  · rw [e j (by omega)]; exact k1 j a b
  · rw [e j (by omega)]; exact k2 j a b
  · by_cases hj : j = i
    · subst hj
      rw [e2]
      exact hu a
    · rw [e j hj]; exact k3 j a b
  · by_cases hj : i = 7
    · subst hj
      rw [e2]
      exact h7 rfl
    · rw [e 7 (by omega)]; exact k4
  · rw [e 10 (by omega)]; exact k5
  · by_cases hj : i = 0
    · subst hj
      rw [e2]
      exact h0 rfl
    · rw [e 0 (by omega)]; exact k6
  · by_cases hj : i = 8
    · subst hj
      rw [e2]
      exact h8 rfl
    · rw [e 8 (by omega)]; exact k7
  · rw [e (11 + t) (by omega), lsm_ext (g := f) (fun j hj => e _ (by
      obtain ⟨n, hn, hq⟩ := k1 (11 + t) (by omega) (by omega)
      rw [hq, nI_clamp (by omega)] at hj
      omega))]
    exact k8 t ht
  · rw [e (11 + t) (by omega)]
    exact k9 t n ht (by rw [← e 10 (by omega)]; exact hn) hl
/-- sets of fields: how many, and their lengths -/
def pcn (m : Nat) : Nat := (List.range 9).foldl (fun a k => a + m / 2 ^ k % 2) 0
def lmk (m : Nat) : Nat := (List.range 9).foldl (fun a k => a + m / 2 ^ k % 2 * lnN k) 0
theorem msk_all : ∀ m, m < 512 → ∀ n, n < 9 → ((nI m >>> (nI n &&& 31)) &&& 1 = 1 ∨ (nI m ||| ((1 : Int32) <<< (nI n &&& 31)) = nI (m + 2 ^ n) ∧ m + 2 ^ n < 512 ∧ pcn (m + 2 ^ n) = pcn m + 1 ∧ lmk (m + 2 ^ n) = lmk m + lnN n ∧ pcn m ≤ 8)) := by decide +kernel
theorem msk {m n : Nat} (hm : m < 512) (hn : n < 9) (h : ¬ (nI m >>> (nI n &&& 31)) &&& 1 = 1) : nI m ||| ((1 : Int32) <<< (nI n &&& 31)) = nI (m + 2 ^ n) ∧ m + 2 ^ n < 512 ∧ pcn (m + 2 ^ n) = pcn m + 1 ∧ lmk (m + 2 ^ n) = lmk m + lnN n ∧ pcn m ≤ 8 := (msk_all m hm n hn).resolve_left h
theorem lmk_le : ∀ m, m < 512 → lmk m ≤ 29 ∧ pcn m ≤ 9 := by decide +kernel
/-- the row of a template that is being read -/
def TplR (t s m : Nat) (f : Nat → Int32) : Prop := NN f ∧ f 10 = nI t ∧ lsm f (15 + 9 * t) s = lmk m
theorem TplR.fld {t s m n i : Nat} {f : Nat → Int32} (h : TplR t s m f) (ht : t < 4) (hs : s < 9) (hn : n ≤ 8) (hi : i = 15 + 9 * t + s) (hm : lmk (m + 2 ^ n) = lmk m + lnN n) : TplR t (s + 1) (m + 2 ^ n) (upd f i (nI n)) := by
  subst hi
  have e : ∀ j, j ≠ 15 + 9 * t + s → upd f (15 + 9 * t + s) (nI n) j = f j := fun j hj => by simp [upd, hj]
  have e2 : upd f (15 + 9 * t + s) (nI n) (15 + 9 * t + s) = nI n := by simp [upd]
  obtain ⟨⟨k1, k2, k3, k4, k5, k6, k7, k8, k9⟩, h10, hl⟩ := h
  refine ⟨⟨fun j a b => ?_, fun j a b => ?_, fun j a b => ?_, ?_, ?_, ?_, ?_, fun u hu => ?_, fun u q hu hq hl => ?_⟩, ?_, ?_⟩
  · rw [e j (by omega)]; exact k1 j a b
  · by_cases hj : j = 15 + 9 * t + s
    · subst hj
      rw [e2]
      exact ⟨n, hn, rfl⟩
    · rw [e j hj]; exact k2 j a b
  · rw [e j (by omega)]; exact k3 j a b
  · rw [e 7 (by omega)]; exact k4
  · rw [e 10 (by omega)]; exact k5
  · rw [e 0 (by omega)]; exact k6
  · rw [e 8 (by omega)]; exact k7
  · rw [e (11 + u) (by omega)]
    by_cases hu2 : u = t
    · subst hu2
      have h0 : f (11 + u) = 0 := k9 u u hu h10 (Nat.le_refl _)
      rw [h0]
      exact Nat.zero_le _
    · rw [lsm_ext (g := f) (fun j hj => e _ (by
        obtain ⟨q, hq, hq2⟩ := k1 (11 + u) (by omega) (by omega)
        rw [hq2, nI_clamp (by omega)] at hj
        omega))]
      exact k8 u hu
  · rw [e (11 + u) (by omega)]
    exact k9 u q hu (by rw [← e 10 (by omega)]; exact hq) hl
  · rw [e 10 (by omega)]; exact h10
  · rw [lsm_s (n := n) e2 (by omega), lsm_ext (g := f) (fun j hj => e _ (by omega)), hl, hm]
def TplE (t s : Nat) (g : Nat → Int32) : Prop := ∃ f : Nat → Int32, NN f ∧ f 10 = nI t ∧ lsm f (15 + 9 * t) s ≤ 29 ∧ g = upd f (11 + t) (nI s)
theorem TplR.ends {t s m i : Nat} {f : Nat → Int32} (h : TplR t s m f) (hm : m < 512) (hi : i = 11 + t) : TplE t s (upd f i (nI s)) := by
  subst hi
  exact ⟨f, h.1, h.2.1, by rw [h.2.2]; exact (lmk_le m hm).1, rfl⟩
theorem TplE.ten {t s : Nat} {g : Nat → Int32} (h : TplE t s g) (ht : t < 4) : g 10 = nI t := by
  obtain ⟨f, -, h2, -, rfl⟩ := h
  show (if 10 = 11 + t then _ else f 10) = _
  rw [if_neg (by omega)]
  exact h2
theorem TplE.nn {t s i : Nat} {g : Nat → Int32} (h : TplE t s g) (ht : t < 4) (hs : s ≤ 9) (hi : i = 10) : NN (upd g i (nI (t + 1))) := by
  subst hi
  obtain ⟨f, ⟨k1, k2, k3, k4, k5, k6, k7, k8, k9⟩, h10, hl, rfl⟩ := h
  have e : ∀ j, j ≠ 10 → j ≠ 11 + t → upd (upd f (11 + t) (nI s)) 10 (nI (t + 1)) j = f j := fun j hj hk => by simp [upd, hj, hk]
  have e10 : upd (upd f (11 + t) (nI s)) 10 (nI (t + 1)) 10 = nI (t + 1) := by simp [upd]
  have et : upd (upd f (11 + t) (nI s)) 10 (nI (t + 1)) (11 + t) = nI s := by
    show (if 11 + t = 10 then _ else if 11 + t = 11 + t then nI s else _) = _
    rw [if_neg (by omega), if_pos rfl]
  refine ⟨fun j a b => ?_, fun j a b => ?_, fun j a b => ?_, ?_, ?_, ?_, ?_, fun u hu => ?_, fun u q hu hq hl => ?_⟩
  · by_cases hj : j = 11 + t
    · subst hj
      rw [et]
      exact ⟨s, hs, rfl⟩
    · rw [e j (by omega) hj]; exact k1 j a b
  · rw [e j (by omega) (by omega)]; exact k2 j a b
  · rw [e j (by omega) (by omega)]; exact k3 j a b
  · rw [e 7 (by omega) (by omega)]; exact k4
  · rw [e10]; exact ⟨t + 1, by omega, rfl⟩
  · rw [e 0 (by omega) (by omega)]; exact k6
  · rw [e 8 (by omega) (by omega)]; exact k7
  · by_cases hu2 : u = t
    · subst hu2
      rw [et, nI_clamp (by omega), lsm_ext (g := f) (fun j hj => e _ (by omega) (by omega))]
      exact hl
    · rw [e (11 + u) (by omega) (by omega), lsm_ext (g := f) (fun j hj => e _ (by
        obtain ⟨q, hq, hq2⟩ := k1 (11 + u) (by omega) (by omega)
        rw [hq2, nI_clamp (by omega)] at hj
        omega) (by
        obtain ⟨q, hq, hq2⟩ := k1 (11 + u) (by omega) (by omega)
        rw [hq2, nI_clamp (by omega)] at hj
        omega))]
      exact k8 u hu
  · rw [e10] at hq
    obtain ⟨q2, hq2, hq3⟩ := k5
    have hq4 : t + 1 = q := by
      have h9 : (nI (t + 1)).toNatClampNeg = (nI q).toNatClampNeg := by rw [hq]
      rw [nI_clamp (by omega)] at h9
      by_cases hqs : q < 2 ^ 31
      · rw [nI_clamp hqs] at h9
        exact h9
      · exact absurd hl (by omega)
    rw [e (11 + u) (by omega) (by omega)]
    exact k9 u t hu h10 (by omega)
theorem Im.re1 {G : EnvG} {x : Nat} {rd rd1 nw : (Nat → Int32) → Prop} {T : Nat × Nat × Nat × Nat × Nat × Nat × Int32 × Int32 × Int32 × Int64} {Φ : Hm} {f : Nat → Int32} (h : Im G x (rd, nw, T) Φ) (hf : Φ (x + 1) = some (ai_ G 307 f)) (hp : rd1 f) : Im G x (rd1, nw, T) Φ := by
  refine ⟨h.1, fun j h3 h4 => ?_⟩
  have h5 := h.2 j h3 h4
  match j, h3, h5 with
  | 1, _, _ => exact ⟨f, hf, hp⟩
  | 2, _, q => exact q
  | j + 3, _, q => exact q
theorem ld_dec {e e1 : Int32} {n n1 : Nat} (he : e = 0) (h1 : n ≤ n1) (h2 : ¬ e1 = 0 ∨ n < n1) (hn : n1 ≤ 701) : (if e1 = 0 then 1 else 0) + 2 * (702 - n1) < (if e = 0 then 1 else 0) + 2 * (702 - n) := by
  rw [if_pos he]
  rcases h2 with h2 | h2
  · rw [if_neg h2]
    omega
  · split <;> omega

set_option maxHeartbeats 4000000 in
set_option maxRecDepth 100000 in
theorem r_fieldHere (G : EnvG) (l : Launch) (Φ : Hm) (sz x : Nat) (rd : (Nat → Int32) → Prop) (fl : Nat) (pe : Nat) (le : Nat) (nx : Nat) (il : Nat) (qu : Nat) (kn : Int32) (ec : Int32) (nu : Int32) (va : Int64)  (hx : G.2.2.2 ≤ x) (hI : Im G x (rd, NN, fl, pe, le, nx, il, qu, kn, ec, nu, va) Φ)  : Ct G l yX12_fieldHere wsX12_fieldHere ({ frames := 1, cells := 0, slots := 0, locals := 27 }) 0 0 [.ref x] Φ sz (fun v Φ1 sz1 => (v = some (.int (fHf kn va))) ∧ sz1 = sz ∧ (Im G x (rd, NN, fl, pe, le, nx, il, qu, kn, ec, nu, va) Φ1) ∧ Fr x (fun j9 => False) Φ Φ1) := by
  refine Ct.of (cc := cX12_fieldHere) (maxL := 1) (ret := (some .int)) (by decide) rfl (Nat.le_of_ble_eq_true rfl) ?_
  intro p9 e9 s9 m9 w9 t9 k9 B
  show Z p9 l e9 _ s9 m9 _ w9 t9 k9 _ G 1 0 [(0, .ref x)] [] Φ sz 0 0
  refine z_aload_n B dX12_fieldHere_0 rfl 0 rfl ?_
  obtain ⟨v_1, v_2, v_3, n_1, v_4, v_5, v_6, v_7, v_8, v_9, v_10, v_11, v_12, n_2, v_13, n_3, n_4, v_14, v_15, h_1, b_12, b_1, b_2, b_3, b_4, b_5, b_6, b_7, b_8, b_9, b_10, b_11⟩ := im0 hI
  replace b_1 : 1 ≤ n_1 := b_1
  replace b_2 : n_1 ≤ 1024 := b_2
  replace b_3 : fl ≤ 12 := b_3
  replace b_4 : pe ≤ 24 := b_4
  replace b_5 : le ≤ 700 := b_5
  replace b_6 : qu ≤ 12 := b_6
  replace b_7 : n_2 ≤ 8 := b_7
  replace b_8 : n_3 ≤ 24 := b_8
  replace b_9 : n_4 ≤ 24 := b_9
  replace b_10 : il ≤ 700 := b_10
  replace b_11 : nx ≤ 701 := b_11
  have h_2 : Φ x = some (o_ 14 [.int v_1, .ref (x + 1), .ref (x + 2), .int v_2, .int v_3, .int (nI n_1), .int v_4, .int v_5, .ref (x + 3), .ref (x + 4), .int v_6, .long v_7, .ref (x + 5), .int (nI fl), .int v_8, .long v_9, .long v_10, .long v_11, .long v_12, .ref (x + 6), .ref (x + 7), .int (nI pe), .ref (x + 8), .int (nI le), .ref (x + 9), .ref (x + 10), .int (nI qu), .ref (x + 11), .ref (x + 12), .ref (x + 13), .ref (x + 14), .ref (x + 15), .ref (x + 16), .int (nI n_2), .long v_13, .ref (x + 17), .ref (x + 18), .ref (x + 19), .ref (x + 20), .ref (x + 21), .ref (x + 22), .int (nI n_3), .ref (x + 23), .ref (x + 24), .int (nI n_4), .ref (x + 25), .int (nI il), .int (nI nx), .int ec, .int v_14, .int kn, .int v_15, .int nu, .long va]) := h_1
  refine z_get (ref := "FlowExporterModel") (C := RX12) (T := TX12) (N := 54) (ci := 14) (v := .int kn) B (by decide +kernel) rfl 50 (by decide) (by decide +kernel) rfl h_2 rfl dX12_fieldHere_1 ?_
  refine z_iconst (v := 1) B dX12_fieldHere_4 rfl ?_
  refine z_icmp_eq (tgt := 10) B dX12_fieldHere_5 rfl (fun c_1 => ?_) (fun c_1 => ?_)
  · refine z_aload_n B dX12_fieldHere_10 rfl 0 rfl ?_
    refine z_get (ref := "FlowExporterModel") (C := RX12) (T := TX12) (N := 54) (ci := 14) (v := .long va) B (by decide +kernel) rfl 53 (by decide) (by decide +kernel) rfl h_2 rfl dX12_fieldHere_11 ?_
    refine z_bipush (v := 115) B dX12_fieldHere_14 rfl ?_
    refine z_bipush (v := 111) B dX12_fieldHere_16 rfl ?_
    refine z_bipush (v := 117) B dX12_fieldHere_18 rfl ?_
    refine z_bipush (v := 114) B dX12_fieldHere_20 rfl ?_
    refine z_bipush (v := 99) B dX12_fieldHere_22 rfl ?_
    refine z_bipush (v := 101) B dX12_fieldHere_24 rfl ?_
    refine z_callS (As := [.int 115, .int 111, .int 117, .int 114, .int 99, .int 101]) (rest := [.long va]) B (r_pack_115_111_117_114_99_101 G l Φ sz x rd fl pe le nx il qu kn ec nu va  hx hI ) (va_cwS 6 B.1.2.2.2.2 gX12_fieldHere_X12_pack rfl rfl rfl (by decide +kernel) ⟨Nat.le_of_ble_eq_true rfl, Nat.le_of_ble_eq_true rfl⟩) rfl rfl (Nat.le_of_ble_eq_true rfl) dX12_fieldHere_26 ⟨Nat.le_of_ble_eq_true rfl, Nat.le_of_ble_eq_true rfl⟩ (fun r_1 Φ1 sz1 st1 hp1 hs1 => ?_)
    obtain ⟨rfl, hq1, hI1, hF1⟩ := hp1
    subst sz1
    replace hs1 : st1 = [.long 653969509, .long va] := hs1
    subst st1
    replace hI1 : Im G x (rd, NN, fl, pe, le, nx, il, qu, kn, ec, nu, va) Φ1 := hI1
    refine z_lcmp B dX12_fieldHere_29 ?_
    refine z_if_ne (tgt := 35) B dX12_fieldHere_30 rfl (fun c_2 => ?_) (fun c_2 => ?_)
    · refine z_aload_n B dX12_fieldHere_35 rfl 0 rfl ?_
      have h_3 : Φ1 x = some (o_ 14 [.int v_1, .ref (x + 1), .ref (x + 2), .int v_2, .int v_3, .int (nI n_1), .int v_4, .int v_5, .ref (x + 3), .ref (x + 4), .int v_6, .long v_7, .ref (x + 5), .int (nI fl), .int v_8, .long v_9, .long v_10, .long v_11, .long v_12, .ref (x + 6), .ref (x + 7), .int (nI pe), .ref (x + 8), .int (nI le), .ref (x + 9), .ref (x + 10), .int (nI qu), .ref (x + 11), .ref (x + 12), .ref (x + 13), .ref (x + 14), .ref (x + 15), .ref (x + 16), .int (nI n_2), .long v_13, .ref (x + 17), .ref (x + 18), .ref (x + 19), .ref (x + 20), .ref (x + 21), .ref (x + 22), .int (nI n_3), .ref (x + 23), .ref (x + 24), .int (nI n_4), .ref (x + 25), .int (nI il), .int (nI nx), .int ec, .int v_14, .int kn, .int v_15, .int nu, .long va]) := ((hF1 x (fun j9 h8 h7 => (show False from h7).elim)).trans h_2)
      refine z_get (ref := "FlowExporterModel") (C := RX12) (T := TX12) (N := 54) (ci := 14) (v := .long va) B (by decide +kernel) rfl 53 (by decide) (by decide +kernel) rfl h_3 rfl dX12_fieldHere_36 ?_
      refine z_bipush (v := 100) B dX12_fieldHere_39 rfl ?_
      refine z_bipush (v := 101) B dX12_fieldHere_41 rfl ?_
      refine z_bipush (v := 115) B dX12_fieldHere_43 rfl ?_
      refine z_bipush (v := 116) B dX12_fieldHere_45 rfl ?_
      refine z_bipush (v := 105) B dX12_fieldHere_47 rfl ?_
      refine z_bipush (v := 110) B dX12_fieldHere_49 rfl ?_
      refine z_callS (As := [.int 100, .int 101, .int 115, .int 116, .int 105, .int 110]) (rest := [.long va]) B (r_pack_100_101_115_116_105_110 G l Φ1 sz x rd fl pe le nx il qu kn ec nu va  hx hI1 ) (va_cwS 6 B.1.2.2.2.2 gX12_fieldHere_X12_pack rfl rfl rfl (by decide +kernel) ⟨Nat.le_of_ble_eq_true rfl, Nat.le_of_ble_eq_true rfl⟩) rfl rfl (Nat.le_of_ble_eq_true rfl) dX12_fieldHere_51 ⟨Nat.le_of_ble_eq_true rfl, Nat.le_of_ble_eq_true rfl⟩ (fun r_2 Φ2 sz2 st2 hp2 hs2 => ?_)
      obtain ⟨rfl, hq2, hI2, hF2⟩ := hp2
      subst sz2
      replace hs2 : st2 = [.long 140103982, .long va] := hs2
      subst st2
      replace hI2 : Im G x (rd, NN, fl, pe, le, nx, il, qu, kn, ec, nu, va) Φ2 := hI2
      refine z_ldc2 (v := 33554432) B (by decide +kernel) dX12_fieldHere_54 ?_
      refine z_lmul B dX12_fieldHere_57 ?_
      refine z_top (st1 := [.long 4701109536948224, .long va]) (congrArg (fun w9 : Int64 => ([.long w9, .long va] : List Value)) (show (140103982 * 33554432 : Int64) = 4701109536948224 by decide +kernel)) ?_
      refine z_bipush (v := 97) B dX12_fieldHere_58 rfl ?_
      refine z_bipush (v := 116) B dX12_fieldHere_60 rfl ?_
      refine z_bipush (v := 105) B dX12_fieldHere_62 rfl ?_
      refine z_bipush (v := 111) B dX12_fieldHere_64 rfl ?_
      refine z_bipush (v := 110) B dX12_fieldHere_66 rfl ?_
      refine z_iconst (v := 0) B dX12_fieldHere_68 rfl ?_
      refine z_callS (As := [.int 97, .int 116, .int 105, .int 111, .int 110, .int 0]) (rest := [.long 4701109536948224, .long va]) B (r_pack_97_116_105_111_110_0 G l Φ2 sz x rd fl pe le nx il qu kn ec nu va  hx hI2 ) (va_cwS 6 B.1.2.2.2.2 gX12_fieldHere_X12_pack rfl rfl rfl (by decide +kernel) ⟨Nat.le_of_ble_eq_true rfl, Nat.le_of_ble_eq_true rfl⟩) rfl rfl (Nat.le_of_ble_eq_true rfl) dX12_fieldHere_69 ⟨Nat.le_of_ble_eq_true rfl, Nat.le_of_ble_eq_true rfl⟩ (fun r_3 Φ3 sz3 st3 hp3 hs3 => ?_)
      obtain ⟨rfl, hq3, hI3, hF3⟩ := hp3
      subst sz3
      replace hs3 : st3 = [.long 1713646, .long 4701109536948224, .long va] := hs3
      subst st3
      replace hI3 : Im G x (rd, NN, fl, pe, le, nx, il, qu, kn, ec, nu, va) Φ3 := hI3
      refine z_ladd B dX12_fieldHere_72 ?_
      refine z_top (st1 := [.long 4701109538661870, .long va]) (congrArg (fun w9 : Int64 => ([.long w9, .long va] : List Value)) (show (4701109536948224 + 1713646 : Int64) = 4701109538661870 by decide +kernel)) ?_
      refine z_lcmp B dX12_fieldHere_73 ?_
      refine z_if_ne (tgt := 79) B dX12_fieldHere_74 rfl (fun c_3 => ?_) (fun c_3 => ?_)
      · refine z_aload_n B dX12_fieldHere_79 rfl 0 rfl ?_
        have h_4 : Φ3 x = some (o_ 14 [.int v_1, .ref (x + 1), .ref (x + 2), .int v_2, .int v_3, .int (nI n_1), .int v_4, .int v_5, .ref (x + 3), .ref (x + 4), .int v_6, .long v_7, .ref (x + 5), .int (nI fl), .int v_8, .long v_9, .long v_10, .long v_11, .long v_12, .ref (x + 6), .ref (x + 7), .int (nI pe), .ref (x + 8), .int (nI le), .ref (x + 9), .ref (x + 10), .int (nI qu), .ref (x + 11), .ref (x + 12), .ref (x + 13), .ref (x + 14), .ref (x + 15), .ref (x + 16), .int (nI n_2), .long v_13, .ref (x + 17), .ref (x + 18), .ref (x + 19), .ref (x + 20), .ref (x + 21), .ref (x + 22), .int (nI n_3), .ref (x + 23), .ref (x + 24), .int (nI n_4), .ref (x + 25), .int (nI il), .int (nI nx), .int ec, .int v_14, .int kn, .int v_15, .int nu, .long va]) := ((hF3 x (fun j9 h8 h7 => (show False from h7).elim)).trans ((hF2 x (fun j9 h8 h7 => (show False from h7).elim)).trans h_3))
        refine z_get (ref := "FlowExporterModel") (C := RX12) (T := TX12) (N := 54) (ci := 14) (v := .long va) B (by decide +kernel) rfl 53 (by decide) (by decide +kernel) rfl h_4 rfl dX12_fieldHere_80 ?_
        refine z_bipush (v := 112) B dX12_fieldHere_83 rfl ?_
        refine z_bipush (v := 111) B dX12_fieldHere_85 rfl ?_
        refine z_bipush (v := 114) B dX12_fieldHere_87 rfl ?_
        refine z_bipush (v := 116) B dX12_fieldHere_89 rfl ?_
        refine z_iconst (v := 0) B dX12_fieldHere_91 rfl ?_
        refine z_iconst (v := 0) B dX12_fieldHere_92 rfl ?_
        refine z_callS (As := [.int 112, .int 111, .int 114, .int 116, .int 0, .int 0]) (rest := [.long va]) B (r_pack_112_111_114_116_0_0 G l Φ3 sz x rd fl pe le nx il qu kn ec nu va  hx hI3 ) (va_cwS 6 B.1.2.2.2.2 gX12_fieldHere_X12_pack rfl rfl rfl (by decide +kernel) ⟨Nat.le_of_ble_eq_true rfl, Nat.le_of_ble_eq_true rfl⟩) rfl rfl (Nat.le_of_ble_eq_true rfl) dX12_fieldHere_93 ⟨Nat.le_of_ble_eq_true rfl, Nat.le_of_ble_eq_true rfl⟩ (fun r_4 Φ4 sz4 st4 hp4 hs4 => ?_)
        obtain ⟨rfl, hq4, hI4, hF4⟩ := hp4
        subst sz4
        replace hs4 : st4 = [.long 540244, .long va] := hs4
        subst st4
        replace hI4 : Im G x (rd, NN, fl, pe, le, nx, il, qu, kn, ec, nu, va) Φ4 := hI4
        refine z_lcmp B dX12_fieldHere_96 ?_
        refine z_if_ne (tgt := 102) B dX12_fieldHere_97 rfl (fun c_4 => ?_) (fun c_4 => ?_)
        · refine z_aload_n B dX12_fieldHere_102 rfl 0 rfl ?_
          have h_5 : Φ4 x = some (o_ 14 [.int v_1, .ref (x + 1), .ref (x + 2), .int v_2, .int v_3, .int (nI n_1), .int v_4, .int v_5, .ref (x + 3), .ref (x + 4), .int v_6, .long v_7, .ref (x + 5), .int (nI fl), .int v_8, .long v_9, .long v_10, .long v_11, .long v_12, .ref (x + 6), .ref (x + 7), .int (nI pe), .ref (x + 8), .int (nI le), .ref (x + 9), .ref (x + 10), .int (nI qu), .ref (x + 11), .ref (x + 12), .ref (x + 13), .ref (x + 14), .ref (x + 15), .ref (x + 16), .int (nI n_2), .long v_13, .ref (x + 17), .ref (x + 18), .ref (x + 19), .ref (x + 20), .ref (x + 21), .ref (x + 22), .int (nI n_3), .ref (x + 23), .ref (x + 24), .int (nI n_4), .ref (x + 25), .int (nI il), .int (nI nx), .int ec, .int v_14, .int kn, .int v_15, .int nu, .long va]) := ((hF4 x (fun j9 h8 h7 => (show False from h7).elim)).trans h_4)
          refine z_get (ref := "FlowExporterModel") (C := RX12) (T := TX12) (N := 54) (ci := 14) (v := .long va) B (by decide +kernel) rfl 53 (by decide) (by decide +kernel) rfl h_5 rfl dX12_fieldHere_103 ?_
          refine z_bipush (v := 112) B dX12_fieldHere_106 rfl ?_
          refine z_bipush (v := 114) B dX12_fieldHere_108 rfl ?_
          refine z_bipush (v := 111) B dX12_fieldHere_110 rfl ?_
          refine z_bipush (v := 116) B dX12_fieldHere_112 rfl ?_
          refine z_bipush (v := 111) B dX12_fieldHere_114 rfl ?_
          refine z_iconst (v := 0) B dX12_fieldHere_116 rfl ?_
          refine z_callS (As := [.int 112, .int 114, .int 111, .int 116, .int 111, .int 0]) (rest := [.long va]) B (r_pack_112_114_111_116_111_0 G l Φ4 sz x rd fl pe le nx il qu kn ec nu va  hx hI4 ) (va_cwS 6 B.1.2.2.2.2 gX12_fieldHere_X12_pack rfl rfl rfl (by decide +kernel) ⟨Nat.le_of_ble_eq_true rfl, Nat.le_of_ble_eq_true rfl⟩) rfl rfl (Nat.le_of_ble_eq_true rfl) dX12_fieldHere_117 ⟨Nat.le_of_ble_eq_true rfl, Nat.le_of_ble_eq_true rfl⟩ (fun r_5 Φ5 sz5 st5 hp5 hs5 => ?_)
          obtain ⟨rfl, hq5, hI5, hF5⟩ := hp5
          subst sz5
          replace hs5 : st5 = [.long 17383055, .long va] := hs5
          subst st5
          replace hI5 : Im G x (rd, NN, fl, pe, le, nx, il, qu, kn, ec, nu, va) Φ5 := hI5
          refine z_ldc2 (v := 32768) B (by decide +kernel) dX12_fieldHere_120 ?_
          refine z_lmul B dX12_fieldHere_123 ?_
          refine z_top (st1 := [.long 569607946240, .long va]) (congrArg (fun w9 : Int64 => ([.long w9, .long va] : List Value)) (show (17383055 * 32768 : Int64) = 569607946240 by decide +kernel)) ?_
          refine z_bipush (v := 99) B dX12_fieldHere_124 rfl ?_
          refine z_bipush (v := 111) B dX12_fieldHere_126 rfl ?_
          refine z_bipush (v := 108) B dX12_fieldHere_128 rfl ?_
          refine z_iconst (v := 0) B dX12_fieldHere_130 rfl ?_
          refine z_iconst (v := 0) B dX12_fieldHere_131 rfl ?_
          refine z_iconst (v := 0) B dX12_fieldHere_132 rfl ?_
          refine z_callS (As := [.int 99, .int 111, .int 108, .int 0, .int 0, .int 0]) (rest := [.long 569607946240, .long va]) B (r_pack_99_111_108_0_0_0 G l Φ5 sz x rd fl pe le nx il qu kn ec nu va  hx hI5 ) (va_cwS 6 B.1.2.2.2.2 gX12_fieldHere_X12_pack rfl rfl rfl (by decide +kernel) ⟨Nat.le_of_ble_eq_true rfl, Nat.le_of_ble_eq_true rfl⟩) rfl rfl (Nat.le_of_ble_eq_true rfl) dX12_fieldHere_133 ⟨Nat.le_of_ble_eq_true rfl, Nat.le_of_ble_eq_true rfl⟩ (fun r_6 Φ6 sz6 st6 hp6 hs6 => ?_)
          obtain ⟨rfl, hq6, hI6, hF6⟩ := hp6
          subst sz6
          replace hs6 : st6 = [.long 3564, .long 569607946240, .long va] := hs6
          subst st6
          replace hI6 : Im G x (rd, NN, fl, pe, le, nx, il, qu, kn, ec, nu, va) Φ6 := hI6
          refine z_ladd B dX12_fieldHere_136 ?_
          refine z_top (st1 := [.long 569607949804, .long va]) (congrArg (fun w9 : Int64 => ([.long w9, .long va] : List Value)) (show (569607946240 + 3564 : Int64) = 569607949804 by decide +kernel)) ?_
          refine z_lcmp B dX12_fieldHere_137 ?_
          refine z_if_ne (tgt := 143) B dX12_fieldHere_138 rfl (fun c_5 => ?_) (fun c_5 => ?_)
          · refine z_aload_n B dX12_fieldHere_143 rfl 0 rfl ?_
            have h_6 : Φ6 x = some (o_ 14 [.int v_1, .ref (x + 1), .ref (x + 2), .int v_2, .int v_3, .int (nI n_1), .int v_4, .int v_5, .ref (x + 3), .ref (x + 4), .int v_6, .long v_7, .ref (x + 5), .int (nI fl), .int v_8, .long v_9, .long v_10, .long v_11, .long v_12, .ref (x + 6), .ref (x + 7), .int (nI pe), .ref (x + 8), .int (nI le), .ref (x + 9), .ref (x + 10), .int (nI qu), .ref (x + 11), .ref (x + 12), .ref (x + 13), .ref (x + 14), .ref (x + 15), .ref (x + 16), .int (nI n_2), .long v_13, .ref (x + 17), .ref (x + 18), .ref (x + 19), .ref (x + 20), .ref (x + 21), .ref (x + 22), .int (nI n_3), .ref (x + 23), .ref (x + 24), .int (nI n_4), .ref (x + 25), .int (nI il), .int (nI nx), .int ec, .int v_14, .int kn, .int v_15, .int nu, .long va]) := ((hF6 x (fun j9 h8 h7 => (show False from h7).elim)).trans ((hF5 x (fun j9 h8 h7 => (show False from h7).elim)).trans h_5))
            refine z_get (ref := "FlowExporterModel") (C := RX12) (T := TX12) (N := 54) (ci := 14) (v := .long va) B (by decide +kernel) rfl 53 (by decide) (by decide +kernel) rfl h_6 rfl dX12_fieldHere_144 ?_
            refine z_bipush (v := 112) B dX12_fieldHere_147 rfl ?_
            refine z_bipush (v := 97) B dX12_fieldHere_149 rfl ?_
            refine z_bipush (v := 99) B dX12_fieldHere_151 rfl ?_
            refine z_bipush (v := 107) B dX12_fieldHere_153 rfl ?_
            refine z_iconst (v := 0) B dX12_fieldHere_155 rfl ?_
            refine z_iconst (v := 0) B dX12_fieldHere_156 rfl ?_
            refine z_callS (As := [.int 112, .int 97, .int 99, .int 107, .int 0, .int 0]) (rest := [.long va]) B (r_pack_112_97_99_107_0_0 G l Φ6 sz x rd fl pe le nx il qu kn ec nu va  hx hI6 ) (va_cwS 6 B.1.2.2.2.2 gX12_fieldHere_X12_pack rfl rfl rfl (by decide +kernel) ⟨Nat.le_of_ble_eq_true rfl, Nat.le_of_ble_eq_true rfl⟩) rfl rfl (Nat.le_of_ble_eq_true rfl) dX12_fieldHere_157 ⟨Nat.le_of_ble_eq_true rfl, Nat.le_of_ble_eq_true rfl⟩ (fun r_7 Φ7 sz7 st7 hp7 hs7 => ?_)
            obtain ⟨rfl, hq7, hI7, hF7⟩ := hp7
            subst sz7
            replace hs7 : st7 = [.long 525419, .long va] := hs7
            subst st7
            replace hI7 : Im G x (rd, NN, fl, pe, le, nx, il, qu, kn, ec, nu, va) Φ7 := hI7
            refine z_ldc2 (v := 32768) B (by decide +kernel) dX12_fieldHere_160 ?_
            refine z_lmul B dX12_fieldHere_163 ?_
            refine z_top (st1 := [.long 17216929792, .long va]) (congrArg (fun w9 : Int64 => ([.long w9, .long va] : List Value)) (show (525419 * 32768 : Int64) = 17216929792 by decide +kernel)) ?_
            refine z_bipush (v := 101) B dX12_fieldHere_164 rfl ?_
            refine z_bipush (v := 116) B dX12_fieldHere_166 rfl ?_
            refine z_bipush (v := 115) B dX12_fieldHere_168 rfl ?_
            refine z_iconst (v := 0) B dX12_fieldHere_170 rfl ?_
            refine z_iconst (v := 0) B dX12_fieldHere_171 rfl ?_
            refine z_iconst (v := 0) B dX12_fieldHere_172 rfl ?_
            refine z_callS (As := [.int 101, .int 116, .int 115, .int 0, .int 0, .int 0]) (rest := [.long 17216929792, .long va]) B (r_pack_101_116_115_0_0_0 G l Φ7 sz x rd fl pe le nx il qu kn ec nu va  hx hI7 ) (va_cwS 6 B.1.2.2.2.2 gX12_fieldHere_X12_pack rfl rfl rfl (by decide +kernel) ⟨Nat.le_of_ble_eq_true rfl, Nat.le_of_ble_eq_true rfl⟩) rfl rfl (Nat.le_of_ble_eq_true rfl) dX12_fieldHere_173 ⟨Nat.le_of_ble_eq_true rfl, Nat.le_of_ble_eq_true rfl⟩ (fun r_8 Φ8 sz8 st8 hp8 hs8 => ?_)
            obtain ⟨rfl, hq8, hI8, hF8⟩ := hp8
            subst sz8
            replace hs8 : st8 = [.long 5779, .long 17216929792, .long va] := hs8
            subst st8
            replace hI8 : Im G x (rd, NN, fl, pe, le, nx, il, qu, kn, ec, nu, va) Φ8 := hI8
            refine z_ladd B dX12_fieldHere_176 ?_
            refine z_top (st1 := [.long 17216935571, .long va]) (congrArg (fun w9 : Int64 => ([.long w9, .long va] : List Value)) (show (17216929792 + 5779 : Int64) = 17216935571 by decide +kernel)) ?_
            refine z_lcmp B dX12_fieldHere_177 ?_
            refine z_if_ne (tgt := 183) B dX12_fieldHere_178 rfl (fun c_6 => ?_) (fun c_6 => ?_)
            · refine z_aload_n B dX12_fieldHere_183 rfl 0 rfl ?_
              have h_7 : Φ8 x = some (o_ 14 [.int v_1, .ref (x + 1), .ref (x + 2), .int v_2, .int v_3, .int (nI n_1), .int v_4, .int v_5, .ref (x + 3), .ref (x + 4), .int v_6, .long v_7, .ref (x + 5), .int (nI fl), .int v_8, .long v_9, .long v_10, .long v_11, .long v_12, .ref (x + 6), .ref (x + 7), .int (nI pe), .ref (x + 8), .int (nI le), .ref (x + 9), .ref (x + 10), .int (nI qu), .ref (x + 11), .ref (x + 12), .ref (x + 13), .ref (x + 14), .ref (x + 15), .ref (x + 16), .int (nI n_2), .long v_13, .ref (x + 17), .ref (x + 18), .ref (x + 19), .ref (x + 20), .ref (x + 21), .ref (x + 22), .int (nI n_3), .ref (x + 23), .ref (x + 24), .int (nI n_4), .ref (x + 25), .int (nI il), .int (nI nx), .int ec, .int v_14, .int kn, .int v_15, .int nu, .long va]) := ((hF8 x (fun j9 h8 h7 => (show False from h7).elim)).trans ((hF7 x (fun j9 h8 h7 => (show False from h7).elim)).trans h_6))
              refine z_get (ref := "FlowExporterModel") (C := RX12) (T := TX12) (N := 54) (ci := 14) (v := .long va) B (by decide +kernel) rfl 53 (by decide) (by decide +kernel) rfl h_7 rfl dX12_fieldHere_184 ?_
              refine z_bipush (v := 98) B dX12_fieldHere_187 rfl ?_
              refine z_bipush (v := 121) B dX12_fieldHere_189 rfl ?_
              refine z_bipush (v := 116) B dX12_fieldHere_191 rfl ?_
              refine z_bipush (v := 101) B dX12_fieldHere_193 rfl ?_
              refine z_bipush (v := 115) B dX12_fieldHere_195 rfl ?_
              refine z_iconst (v := 0) B dX12_fieldHere_197 rfl ?_
              refine z_callS (As := [.int 98, .int 121, .int 116, .int 101, .int 115, .int 0]) (rest := [.long va]) B (r_pack_98_121_116_101_115_0 G l Φ8 sz x rd fl pe le nx il qu kn ec nu va  hx hI8 ) (va_cwS 6 B.1.2.2.2.2 gX12_fieldHere_X12_pack rfl rfl rfl (by decide +kernel) ⟨Nat.le_of_ble_eq_true rfl, Nat.le_of_ble_eq_true rfl⟩) rfl rfl (Nat.le_of_ble_eq_true rfl) dX12_fieldHere_198 ⟨Nat.le_of_ble_eq_true rfl, Nat.le_of_ble_eq_true rfl⟩ (fun r_9 Φ9 sz9 st9 hp9 hs9 => ?_)
              obtain ⟨rfl, hq9, hI9, hF9⟩ := hp9
              subst sz9
              replace hs9 : st9 = [.long 2937011, .long va] := hs9
              subst st9
              replace hI9 : Im G x (rd, NN, fl, pe, le, nx, il, qu, kn, ec, nu, va) Φ9 := hI9
              refine z_lcmp B dX12_fieldHere_201 ?_
              refine z_if_ne (tgt := 207) B dX12_fieldHere_202 rfl (fun c_7 => ?_) (fun c_7 => ?_)
              · refine z_aload_n B dX12_fieldHere_207 rfl 0 rfl ?_
                have h_8 : Φ9 x = some (o_ 14 [.int v_1, .ref (x + 1), .ref (x + 2), .int v_2, .int v_3, .int (nI n_1), .int v_4, .int v_5, .ref (x + 3), .ref (x + 4), .int v_6, .long v_7, .ref (x + 5), .int (nI fl), .int v_8, .long v_9, .long v_10, .long v_11, .long v_12, .ref (x + 6), .ref (x + 7), .int (nI pe), .ref (x + 8), .int (nI le), .ref (x + 9), .ref (x + 10), .int (nI qu), .ref (x + 11), .ref (x + 12), .ref (x + 13), .ref (x + 14), .ref (x + 15), .ref (x + 16), .int (nI n_2), .long v_13, .ref (x + 17), .ref (x + 18), .ref (x + 19), .ref (x + 20), .ref (x + 21), .ref (x + 22), .int (nI n_3), .ref (x + 23), .ref (x + 24), .int (nI n_4), .ref (x + 25), .int (nI il), .int (nI nx), .int ec, .int v_14, .int kn, .int v_15, .int nu, .long va]) := ((hF9 x (fun j9 h8 h7 => (show False from h7).elim)).trans h_7)
                refine z_get (ref := "FlowExporterModel") (C := RX12) (T := TX12) (N := 54) (ci := 14) (v := .long va) B (by decide +kernel) rfl 53 (by decide) (by decide +kernel) rfl h_8 rfl dX12_fieldHere_208 ?_
                refine z_bipush (v := 102) B dX12_fieldHere_211 rfl ?_
                refine z_bipush (v := 105) B dX12_fieldHere_213 rfl ?_
                refine z_bipush (v := 114) B dX12_fieldHere_215 rfl ?_
                refine z_bipush (v := 115) B dX12_fieldHere_217 rfl ?_
                refine z_bipush (v := 116) B dX12_fieldHere_219 rfl ?_
                refine z_iconst (v := 0) B dX12_fieldHere_221 rfl ?_
                refine z_callS (As := [.int 102, .int 105, .int 114, .int 115, .int 116, .int 0]) (rest := [.long va]) B (r_pack_102_105_114_115_116_0 G l Φ9 sz x rd fl pe le nx il qu kn ec nu va  hx hI9 ) (va_cwS 6 B.1.2.2.2.2 gX12_fieldHere_X12_pack rfl rfl rfl (by decide +kernel) ⟨Nat.le_of_ble_eq_true rfl, Nat.le_of_ble_eq_true rfl⟩) rfl rfl (Nat.le_of_ble_eq_true rfl) dX12_fieldHere_222 ⟨Nat.le_of_ble_eq_true rfl, Nat.le_of_ble_eq_true rfl⟩ (fun r_10 Φ10 sz10 st10 hp10 hs10 => ?_)
                obtain ⟨rfl, hq10, hI10, hF10⟩ := hp10
                subst sz10
                replace hs10 : st10 = [.long 6605428, .long va] := hs10
                subst st10
                replace hI10 : Im G x (rd, NN, fl, pe, le, nx, il, qu, kn, ec, nu, va) Φ10 := hI10
                refine z_lcmp B dX12_fieldHere_225 ?_
                refine z_if_ne (tgt := 232) B dX12_fieldHere_226 rfl (fun c_8 => ?_) (fun c_8 => ?_)
                · refine z_aload_n B dX12_fieldHere_232 rfl 0 rfl ?_
                  have h_9 : Φ10 x = some (o_ 14 [.int v_1, .ref (x + 1), .ref (x + 2), .int v_2, .int v_3, .int (nI n_1), .int v_4, .int v_5, .ref (x + 3), .ref (x + 4), .int v_6, .long v_7, .ref (x + 5), .int (nI fl), .int v_8, .long v_9, .long v_10, .long v_11, .long v_12, .ref (x + 6), .ref (x + 7), .int (nI pe), .ref (x + 8), .int (nI le), .ref (x + 9), .ref (x + 10), .int (nI qu), .ref (x + 11), .ref (x + 12), .ref (x + 13), .ref (x + 14), .ref (x + 15), .ref (x + 16), .int (nI n_2), .long v_13, .ref (x + 17), .ref (x + 18), .ref (x + 19), .ref (x + 20), .ref (x + 21), .ref (x + 22), .int (nI n_3), .ref (x + 23), .ref (x + 24), .int (nI n_4), .ref (x + 25), .int (nI il), .int (nI nx), .int ec, .int v_14, .int kn, .int v_15, .int nu, .long va]) := ((hF10 x (fun j9 h8 h7 => (show False from h7).elim)).trans h_8)
                  refine z_get (ref := "FlowExporterModel") (C := RX12) (T := TX12) (N := 54) (ci := 14) (v := .long va) B (by decide +kernel) rfl 53 (by decide) (by decide +kernel) rfl h_9 rfl dX12_fieldHere_233 ?_
                  refine z_bipush (v := 108) B dX12_fieldHere_236 rfl ?_
                  refine z_bipush (v := 97) B dX12_fieldHere_238 rfl ?_
                  refine z_bipush (v := 115) B dX12_fieldHere_240 rfl ?_
                  refine z_bipush (v := 116) B dX12_fieldHere_242 rfl ?_
                  refine z_iconst (v := 0) B dX12_fieldHere_244 rfl ?_
                  refine z_iconst (v := 0) B dX12_fieldHere_245 rfl ?_
                  refine z_callS (As := [.int 108, .int 97, .int 115, .int 116, .int 0, .int 0]) (rest := [.long va]) B (r_pack_108_97_115_116_0_0 G l Φ10 sz x rd fl pe le nx il qu kn ec nu va  hx hI10 ) (va_cwS 6 B.1.2.2.2.2 gX12_fieldHere_X12_pack rfl rfl rfl (by decide +kernel) ⟨Nat.le_of_ble_eq_true rfl, Nat.le_of_ble_eq_true rfl⟩) rfl rfl (Nat.le_of_ble_eq_true rfl) dX12_fieldHere_246 ⟨Nat.le_of_ble_eq_true rfl, Nat.le_of_ble_eq_true rfl⟩ (fun r_11 Φ11 sz11 st11 hp11 hs11 => ?_)
                  obtain ⟨rfl, hq11, hI11, hF11⟩ := hp11
                  subst sz11
                  replace hs11 : st11 = [.long 394868, .long va] := hs11
                  subst st11
                  replace hI11 : Im G x (rd, NN, fl, pe, le, nx, il, qu, kn, ec, nu, va) Φ11 := hI11
                  refine z_lcmp B dX12_fieldHere_249 ?_
                  refine z_if_ne (tgt := 256) B dX12_fieldHere_250 rfl (fun c_9 => ?_) (fun c_9 => ?_)
                  · refine z_aload_n B dX12_fieldHere_256 rfl 0 rfl ?_
                    have h_10 : Φ11 x = some (o_ 14 [.int v_1, .ref (x + 1), .ref (x + 2), .int v_2, .int v_3, .int (nI n_1), .int v_4, .int v_5, .ref (x + 3), .ref (x + 4), .int v_6, .long v_7, .ref (x + 5), .int (nI fl), .int v_8, .long v_9, .long v_10, .long v_11, .long v_12, .ref (x + 6), .ref (x + 7), .int (nI pe), .ref (x + 8), .int (nI le), .ref (x + 9), .ref (x + 10), .int (nI qu), .ref (x + 11), .ref (x + 12), .ref (x + 13), .ref (x + 14), .ref (x + 15), .ref (x + 16), .int (nI n_2), .long v_13, .ref (x + 17), .ref (x + 18), .ref (x + 19), .ref (x + 20), .ref (x + 21), .ref (x + 22), .int (nI n_3), .ref (x + 23), .ref (x + 24), .int (nI n_4), .ref (x + 25), .int (nI il), .int (nI nx), .int ec, .int v_14, .int kn, .int v_15, .int nu, .long va]) := ((hF11 x (fun j9 h8 h7 => (show False from h7).elim)).trans h_9)
                    refine z_get (ref := "FlowExporterModel") (C := RX12) (T := TX12) (N := 54) (ci := 14) (v := .long va) B (by decide +kernel) rfl 53 (by decide) (by decide +kernel) rfl h_10 rfl dX12_fieldHere_257 ?_
                    refine z_bipush (v := 114) B dX12_fieldHere_260 rfl ?_
                    refine z_bipush (v := 97) B dX12_fieldHere_262 rfl ?_
                    refine z_bipush (v := 116) B dX12_fieldHere_264 rfl ?_
                    refine z_bipush (v := 101) B dX12_fieldHere_266 rfl ?_
                    refine z_iconst (v := 0) B dX12_fieldHere_268 rfl ?_
                    refine z_iconst (v := 0) B dX12_fieldHere_269 rfl ?_
                    refine z_callS (As := [.int 114, .int 97, .int 116, .int 101, .int 0, .int 0]) (rest := [.long va]) B (r_pack_114_97_116_101_0_0 G l Φ11 sz x rd fl pe le nx il qu kn ec nu va  hx hI11 ) (va_cwS 6 B.1.2.2.2.2 gX12_fieldHere_X12_pack rfl rfl rfl (by decide +kernel) ⟨Nat.le_of_ble_eq_true rfl, Nat.le_of_ble_eq_true rfl⟩) rfl rfl (Nat.le_of_ble_eq_true rfl) dX12_fieldHere_270 ⟨Nat.le_of_ble_eq_true rfl, Nat.le_of_ble_eq_true rfl⟩ (fun r_12 Φ12 sz12 st12 hp12 hs12 => ?_)
                    obtain ⟨rfl, hq12, hI12, hF12⟩ := hp12
                    subst sz12
                    replace hs12 : st12 = [.long 591493, .long va] := hs12
                    subst st12
                    replace hI12 : Im G x (rd, NN, fl, pe, le, nx, il, qu, kn, ec, nu, va) Φ12 := hI12
                    refine z_lcmp B dX12_fieldHere_273 ?_
                    refine z_if_ne (tgt := 282) B dX12_fieldHere_274 rfl (fun c_10 => ?_) (fun c_10 => ?_)
                    · refine z_iconst (v := (-1)) B dX12_fieldHere_282 rfl ?_
                      exact z_ret_i B dX12_fieldHere_283 ⟨(show some (Value.int (-1)) = some (.int (fHf kn va)) by unfold fHf; rw [if_pos c_1, if_neg (fun h9 => c_2 ((lg_cmp_eq _ _).mpr h9)), if_neg (fun h9 => c_3 ((lg_cmp_eq _ _).mpr h9)), if_neg (fun h9 => c_4 ((lg_cmp_eq _ _).mpr h9)), if_neg (fun h9 => c_5 ((lg_cmp_eq _ _).mpr h9)), if_neg (fun h9 => c_6 ((lg_cmp_eq _ _).mpr h9)), if_neg (fun h9 => c_7 ((lg_cmp_eq _ _).mpr h9)), if_neg (fun h9 => c_8 ((lg_cmp_eq _ _).mpr h9)), if_neg (fun h9 => c_9 ((lg_cmp_eq _ _).mpr h9)), if_neg (fun h9 => c_10 ((lg_cmp_eq _ _).mpr h9))]), rfl, hI12, (fun b9 h9 => ((hF12 b9 (fun j9 h8 h7 => (show False from h7).elim)).trans ((hF11 b9 (fun j9 h8 h7 => (show False from h7).elim)).trans ((hF10 b9 (fun j9 h8 h7 => (show False from h7).elim)).trans ((hF9 b9 (fun j9 h8 h7 => (show False from h7).elim)).trans ((hF8 b9 (fun j9 h8 h7 => (show False from h7).elim)).trans ((hF7 b9 (fun j9 h8 h7 => (show False from h7).elim)).trans ((hF6 b9 (fun j9 h8 h7 => (show False from h7).elim)).trans ((hF5 b9 (fun j9 h8 h7 => (show False from h7).elim)).trans ((hF4 b9 (fun j9 h8 h7 => (show False from h7).elim)).trans ((hF3 b9 (fun j9 h8 h7 => (show False from h7).elim)).trans ((hF2 b9 (fun j9 h8 h7 => (show False from h7).elim)).trans ((hF1 b9 (fun j9 h8 h7 => (show False from h7).elim)).trans rfl)))))))))))))⟩
                    · refine z_bipush (v := 8) B dX12_fieldHere_277 rfl ?_
                      refine z_goto (tgt := 283) B dX12_fieldHere_279 rfl ?_
                      exact z_ret_i B dX12_fieldHere_283 ⟨(show some (Value.int 8) = some (.int (fHf kn va)) by unfold fHf; rw [if_pos c_1, if_neg (fun h9 => c_2 ((lg_cmp_eq _ _).mpr h9)), if_neg (fun h9 => c_3 ((lg_cmp_eq _ _).mpr h9)), if_neg (fun h9 => c_4 ((lg_cmp_eq _ _).mpr h9)), if_neg (fun h9 => c_5 ((lg_cmp_eq _ _).mpr h9)), if_neg (fun h9 => c_6 ((lg_cmp_eq _ _).mpr h9)), if_neg (fun h9 => c_7 ((lg_cmp_eq _ _).mpr h9)), if_neg (fun h9 => c_8 ((lg_cmp_eq _ _).mpr h9)), if_neg (fun h9 => c_9 ((lg_cmp_eq _ _).mpr h9)), if_pos (lcmp_eq c_10)]), rfl, hI12, (fun b9 h9 => ((hF12 b9 (fun j9 h8 h7 => (show False from h7).elim)).trans ((hF11 b9 (fun j9 h8 h7 => (show False from h7).elim)).trans ((hF10 b9 (fun j9 h8 h7 => (show False from h7).elim)).trans ((hF9 b9 (fun j9 h8 h7 => (show False from h7).elim)).trans ((hF8 b9 (fun j9 h8 h7 => (show False from h7).elim)).trans ((hF7 b9 (fun j9 h8 h7 => (show False from h7).elim)).trans ((hF6 b9 (fun j9 h8 h7 => (show False from h7).elim)).trans ((hF5 b9 (fun j9 h8 h7 => (show False from h7).elim)).trans ((hF4 b9 (fun j9 h8 h7 => (show False from h7).elim)).trans ((hF3 b9 (fun j9 h8 h7 => (show False from h7).elim)).trans ((hF2 b9 (fun j9 h8 h7 => (show False from h7).elim)).trans ((hF1 b9 (fun j9 h8 h7 => (show False from h7).elim)).trans rfl)))))))))))))⟩
                  · refine z_bipush (v := 7) B dX12_fieldHere_253 rfl ?_
                    exact z_ret_i B dX12_fieldHere_255 ⟨(show some (Value.int 7) = some (.int (fHf kn va)) by unfold fHf; rw [if_pos c_1, if_neg (fun h9 => c_2 ((lg_cmp_eq _ _).mpr h9)), if_neg (fun h9 => c_3 ((lg_cmp_eq _ _).mpr h9)), if_neg (fun h9 => c_4 ((lg_cmp_eq _ _).mpr h9)), if_neg (fun h9 => c_5 ((lg_cmp_eq _ _).mpr h9)), if_neg (fun h9 => c_6 ((lg_cmp_eq _ _).mpr h9)), if_neg (fun h9 => c_7 ((lg_cmp_eq _ _).mpr h9)), if_neg (fun h9 => c_8 ((lg_cmp_eq _ _).mpr h9)), if_pos (lcmp_eq c_9)]), rfl, hI11, (fun b9 h9 => ((hF11 b9 (fun j9 h8 h7 => (show False from h7).elim)).trans ((hF10 b9 (fun j9 h8 h7 => (show False from h7).elim)).trans ((hF9 b9 (fun j9 h8 h7 => (show False from h7).elim)).trans ((hF8 b9 (fun j9 h8 h7 => (show False from h7).elim)).trans ((hF7 b9 (fun j9 h8 h7 => (show False from h7).elim)).trans ((hF6 b9 (fun j9 h8 h7 => (show False from h7).elim)).trans ((hF5 b9 (fun j9 h8 h7 => (show False from h7).elim)).trans ((hF4 b9 (fun j9 h8 h7 => (show False from h7).elim)).trans ((hF3 b9 (fun j9 h8 h7 => (show False from h7).elim)).trans ((hF2 b9 (fun j9 h8 h7 => (show False from h7).elim)).trans ((hF1 b9 (fun j9 h8 h7 => (show False from h7).elim)).trans rfl))))))))))))⟩
                · refine z_bipush (v := 6) B dX12_fieldHere_229 rfl ?_
                  exact z_ret_i B dX12_fieldHere_231 ⟨(show some (Value.int 6) = some (.int (fHf kn va)) by unfold fHf; rw [if_pos c_1, if_neg (fun h9 => c_2 ((lg_cmp_eq _ _).mpr h9)), if_neg (fun h9 => c_3 ((lg_cmp_eq _ _).mpr h9)), if_neg (fun h9 => c_4 ((lg_cmp_eq _ _).mpr h9)), if_neg (fun h9 => c_5 ((lg_cmp_eq _ _).mpr h9)), if_neg (fun h9 => c_6 ((lg_cmp_eq _ _).mpr h9)), if_neg (fun h9 => c_7 ((lg_cmp_eq _ _).mpr h9)), if_pos (lcmp_eq c_8)]), rfl, hI10, (fun b9 h9 => ((hF10 b9 (fun j9 h8 h7 => (show False from h7).elim)).trans ((hF9 b9 (fun j9 h8 h7 => (show False from h7).elim)).trans ((hF8 b9 (fun j9 h8 h7 => (show False from h7).elim)).trans ((hF7 b9 (fun j9 h8 h7 => (show False from h7).elim)).trans ((hF6 b9 (fun j9 h8 h7 => (show False from h7).elim)).trans ((hF5 b9 (fun j9 h8 h7 => (show False from h7).elim)).trans ((hF4 b9 (fun j9 h8 h7 => (show False from h7).elim)).trans ((hF3 b9 (fun j9 h8 h7 => (show False from h7).elim)).trans ((hF2 b9 (fun j9 h8 h7 => (show False from h7).elim)).trans ((hF1 b9 (fun j9 h8 h7 => (show False from h7).elim)).trans rfl)))))))))))⟩
              · refine z_iconst (v := 5) B dX12_fieldHere_205 rfl ?_
                exact z_ret_i B dX12_fieldHere_206 ⟨(show some (Value.int 5) = some (.int (fHf kn va)) by unfold fHf; rw [if_pos c_1, if_neg (fun h9 => c_2 ((lg_cmp_eq _ _).mpr h9)), if_neg (fun h9 => c_3 ((lg_cmp_eq _ _).mpr h9)), if_neg (fun h9 => c_4 ((lg_cmp_eq _ _).mpr h9)), if_neg (fun h9 => c_5 ((lg_cmp_eq _ _).mpr h9)), if_neg (fun h9 => c_6 ((lg_cmp_eq _ _).mpr h9)), if_pos (lcmp_eq c_7)]), rfl, hI9, (fun b9 h9 => ((hF9 b9 (fun j9 h8 h7 => (show False from h7).elim)).trans ((hF8 b9 (fun j9 h8 h7 => (show False from h7).elim)).trans ((hF7 b9 (fun j9 h8 h7 => (show False from h7).elim)).trans ((hF6 b9 (fun j9 h8 h7 => (show False from h7).elim)).trans ((hF5 b9 (fun j9 h8 h7 => (show False from h7).elim)).trans ((hF4 b9 (fun j9 h8 h7 => (show False from h7).elim)).trans ((hF3 b9 (fun j9 h8 h7 => (show False from h7).elim)).trans ((hF2 b9 (fun j9 h8 h7 => (show False from h7).elim)).trans ((hF1 b9 (fun j9 h8 h7 => (show False from h7).elim)).trans rfl))))))))))⟩
            · refine z_iconst (v := 4) B dX12_fieldHere_181 rfl ?_
              exact z_ret_i B dX12_fieldHere_182 ⟨(show some (Value.int 4) = some (.int (fHf kn va)) by unfold fHf; rw [if_pos c_1, if_neg (fun h9 => c_2 ((lg_cmp_eq _ _).mpr h9)), if_neg (fun h9 => c_3 ((lg_cmp_eq _ _).mpr h9)), if_neg (fun h9 => c_4 ((lg_cmp_eq _ _).mpr h9)), if_neg (fun h9 => c_5 ((lg_cmp_eq _ _).mpr h9)), if_pos (lcmp_eq c_6)]), rfl, hI8, (fun b9 h9 => ((hF8 b9 (fun j9 h8 h7 => (show False from h7).elim)).trans ((hF7 b9 (fun j9 h8 h7 => (show False from h7).elim)).trans ((hF6 b9 (fun j9 h8 h7 => (show False from h7).elim)).trans ((hF5 b9 (fun j9 h8 h7 => (show False from h7).elim)).trans ((hF4 b9 (fun j9 h8 h7 => (show False from h7).elim)).trans ((hF3 b9 (fun j9 h8 h7 => (show False from h7).elim)).trans ((hF2 b9 (fun j9 h8 h7 => (show False from h7).elim)).trans ((hF1 b9 (fun j9 h8 h7 => (show False from h7).elim)).trans rfl)))))))))⟩
          · refine z_iconst (v := 3) B dX12_fieldHere_141 rfl ?_
            exact z_ret_i B dX12_fieldHere_142 ⟨(show some (Value.int 3) = some (.int (fHf kn va)) by unfold fHf; rw [if_pos c_1, if_neg (fun h9 => c_2 ((lg_cmp_eq _ _).mpr h9)), if_neg (fun h9 => c_3 ((lg_cmp_eq _ _).mpr h9)), if_neg (fun h9 => c_4 ((lg_cmp_eq _ _).mpr h9)), if_pos (lcmp_eq c_5)]), rfl, hI6, (fun b9 h9 => ((hF6 b9 (fun j9 h8 h7 => (show False from h7).elim)).trans ((hF5 b9 (fun j9 h8 h7 => (show False from h7).elim)).trans ((hF4 b9 (fun j9 h8 h7 => (show False from h7).elim)).trans ((hF3 b9 (fun j9 h8 h7 => (show False from h7).elim)).trans ((hF2 b9 (fun j9 h8 h7 => (show False from h7).elim)).trans ((hF1 b9 (fun j9 h8 h7 => (show False from h7).elim)).trans rfl)))))))⟩
        · refine z_iconst (v := 2) B dX12_fieldHere_100 rfl ?_
          exact z_ret_i B dX12_fieldHere_101 ⟨(show some (Value.int 2) = some (.int (fHf kn va)) by unfold fHf; rw [if_pos c_1, if_neg (fun h9 => c_2 ((lg_cmp_eq _ _).mpr h9)), if_neg (fun h9 => c_3 ((lg_cmp_eq _ _).mpr h9)), if_pos (lcmp_eq c_4)]), rfl, hI4, (fun b9 h9 => ((hF4 b9 (fun j9 h8 h7 => (show False from h7).elim)).trans ((hF3 b9 (fun j9 h8 h7 => (show False from h7).elim)).trans ((hF2 b9 (fun j9 h8 h7 => (show False from h7).elim)).trans ((hF1 b9 (fun j9 h8 h7 => (show False from h7).elim)).trans rfl)))))⟩
      · refine z_iconst (v := 1) B dX12_fieldHere_77 rfl ?_
        exact z_ret_i B dX12_fieldHere_78 ⟨(show some (Value.int 1) = some (.int (fHf kn va)) by unfold fHf; rw [if_pos c_1, if_neg (fun h9 => c_2 ((lg_cmp_eq _ _).mpr h9)), if_pos (lcmp_eq c_3)]), rfl, hI3, (fun b9 h9 => ((hF3 b9 (fun j9 h8 h7 => (show False from h7).elim)).trans ((hF2 b9 (fun j9 h8 h7 => (show False from h7).elim)).trans ((hF1 b9 (fun j9 h8 h7 => (show False from h7).elim)).trans rfl))))⟩
    · refine z_iconst (v := 0) B dX12_fieldHere_33 rfl ?_
      exact z_ret_i B dX12_fieldHere_34 ⟨(show some (Value.int 0) = some (.int (fHf kn va)) by unfold fHf; rw [if_pos c_1, if_pos (lcmp_eq c_2)]), rfl, hI1, (fun b9 h9 => ((hF1 b9 (fun j9 h8 h7 => (show False from h7).elim)).trans rfl))⟩
  · refine z_iconst (v := (-1)) B dX12_fieldHere_8 rfl ?_
    exact z_ret_i B dX12_fieldHere_9 ⟨(show some (Value.int (-1)) = some (.int (fHf kn va)) by unfold fHf; rw [if_neg c_1]), rfl, hI, (fun b9 h9 => rfl)⟩

set_option maxHeartbeats 4000000 in
set_option maxRecDepth 100000 in
theorem r_pack_108_101_110_103_116_104 (G : EnvG) (l : Launch) (Φ : Hm) (sz x : Nat) (rd : (Nat → Int32) → Prop) (nw : (Nat → Int32) → Prop) (cr : (Nat → Int64) → Prop) (tp : (Nat → Int32) → Prop) (tt : (Nat → Int64) → Prop) (sI : (Nat → Int32) → Prop) (sT : (Nat → Int32) → Prop) (pt : (Nat → Int32) → Prop) (ql : (Nat → Int32) → Prop) (fl : Nat) (pe : Nat) (le : Nat) (nx : Nat) (il : Nat) (qu : Nat) (kn : Int32) (ec : Int32) (nu : Int32) (va : Int64) (st : Nat) (ep : Int32) (ti : Int32) (ad : Int32) (ob : Int64) (ra : Int32) (rt : Nat) (ex : Int32) (sa : Int64) (us : Int64) (tk : Nat) (th : Int32) (me : Int32) (dr : Int32) (se : Int64) (sn : Int64)  (hx : G.2.2.2 ≤ x) (hI : Im G x (rd, nw, cr, tp, tt, sI, sT, pt, ql, fl, pe, le, nx, il, qu, kn, ec, nu, va, st, ep, ti, ad, ob, ra, rt, ex, sa, us, tk, th, me, dr, se, sn) Φ) (hnw : ∀ f9 : Nat → Int32, nw f9 → NN f9) : Ct G l yX12_pack wsX12_pack ({ frames := 0, cells := 0, slots := 0, locals := 0 }) 0 0 [.int 108, .int 101, .int 110, .int 103, .int 116, .int 104] Φ sz (fun v Φ1 sz1 => (v = some (.long 408362632)) ∧ sz1 = sz ∧ (Im G x (rd, nw, cr, tp, tt, sI, sT, pt, ql, fl, pe, le, nx, il, qu, kn, ec, nu, va, st, ep, ti, ad, ob, ra, rt, ex, sa, us, tk, th, me, dr, se, sn) Φ1) ∧ Fr x (fun j9 => False) Φ Φ1) := by
  refine Ct.of (cc := cX12_pack) (maxL := 8) (ret := (some .long)) (by decide) rfl (Nat.le_of_ble_eq_true rfl) ?_
  intro p9 e9 s9 m9 w9 t9 k9 B
  show Z p9 l e9 _ s9 m9 _ w9 t9 k9 _ G 8 0 [(0, .int 108), (1, .int 101), (2, .int 110), (3, .int 103), (4, .int 116), (5, .int 104)] [] Φ sz 0 0
  refine z_iload_n B dX12_pack_0 rfl 0 rfl ?_
  refine z_i2l (v := 108) B dX12_pack_1 (by decide +kernel) ?_
  refine z_ldc2 (v := 96) B (by decide +kernel) dX12_pack_2 ?_
  refine z_lsub B dX12_pack_5 ?_
  refine z_top (st1 := [.long 12]) (congrArg (fun w9 : Int64 => ([.long w9] : List Value)) (show (108 - 96 : Int64) = 12 by decide +kernel)) ?_
  refine z_ldc2 (v := 32) B (by decide +kernel) dX12_pack_6 ?_
  refine z_lmul B dX12_pack_9 ?_
  refine z_top (st1 := [.long 384]) (congrArg (fun w9 : Int64 => ([.long w9] : List Value)) (show (12 * 32 : Int64) = 384 by decide +kernel)) ?_
  refine z_iload_n B dX12_pack_10 rfl 1 rfl ?_
  refine z_i2l (v := 101) B dX12_pack_11 (by decide +kernel) ?_
  refine z_ladd B dX12_pack_12 ?_
  refine z_top (st1 := [.long 485]) (congrArg (fun w9 : Int64 => ([.long w9] : List Value)) (show (384 + 101 : Int64) = 485 by decide +kernel)) ?_
  refine z_ldc2 (v := 96) B (by decide +kernel) dX12_pack_13 ?_
  refine z_lsub B dX12_pack_16 ?_
  refine z_top (st1 := [.long 389]) (congrArg (fun w9 : Int64 => ([.long w9] : List Value)) (show (485 - 96 : Int64) = 389 by decide +kernel)) ?_
  refine z_ldc2 (v := 32) B (by decide +kernel) dX12_pack_17 ?_
  refine z_lmul B dX12_pack_20 ?_
  refine z_top (st1 := [.long 12448]) (congrArg (fun w9 : Int64 => ([.long w9] : List Value)) (show (389 * 32 : Int64) = 12448 by decide +kernel)) ?_
  refine z_iload_n B dX12_pack_21 rfl 2 rfl ?_
  refine z_i2l (v := 110) B dX12_pack_22 (by decide +kernel) ?_
  refine z_ladd B dX12_pack_23 ?_
  refine z_top (st1 := [.long 12558]) (congrArg (fun w9 : Int64 => ([.long w9] : List Value)) (show (12448 + 110 : Int64) = 12558 by decide +kernel)) ?_
  refine z_ldc2 (v := 96) B (by decide +kernel) dX12_pack_24 ?_
  refine z_lsub B dX12_pack_27 ?_
  refine z_top (st1 := [.long 12462]) (congrArg (fun w9 : Int64 => ([.long w9] : List Value)) (show (12558 - 96 : Int64) = 12462 by decide +kernel)) ?_
  refine z_lstore (lv' := [(6, .long 12462), (0, .int 108), (1, .int 101), (2, .int 110), (3, .int 103), (4, .int 116), (5, .int 104)]) B dX12_pack_28 (Nat.le_of_ble_eq_true rfl) rfl ?_
  refine z_iload_n B dX12_pack_30 rfl 4 rfl ?_
  refine z_if_ne (tgt := 39) B dX12_pack_31 rfl (fun c_1 => ?_) (fun h9 => absurd h9 (by decide))
  refine z_lload B dX12_pack_39 0 rfl ?_
  refine z_ldc2 (v := 32) B (by decide +kernel) dX12_pack_41 ?_
  refine z_lmul B dX12_pack_44 ?_
  refine z_top (st1 := [.long 398784]) (congrArg (fun w9 : Int64 => ([.long w9] : List Value)) (show (12462 * 32 : Int64) = 398784 by decide +kernel)) ?_
  refine z_iload_n B dX12_pack_45 rfl 4 rfl ?_
  refine z_i2l (v := 103) B dX12_pack_46 (by decide +kernel) ?_
  refine z_ladd B dX12_pack_47 ?_
  refine z_top (st1 := [.long 398887]) (congrArg (fun w9 : Int64 => ([.long w9] : List Value)) (show (398784 + 103 : Int64) = 398887 by decide +kernel)) ?_
  refine z_ldc2 (v := 96) B (by decide +kernel) dX12_pack_48 ?_
  refine z_lsub B dX12_pack_51 ?_
  refine z_top (st1 := [.long 398791]) (congrArg (fun w9 : Int64 => ([.long w9] : List Value)) (show (398887 - 96 : Int64) = 398791 by decide +kernel)) ?_
  refine z_lstore (lv' := [(6, .long 398791), (0, .int 108), (1, .int 101), (2, .int 110), (3, .int 103), (4, .int 116), (5, .int 104)]) B dX12_pack_52 (Nat.le_of_ble_eq_true rfl) rfl ?_
  refine z_iload B dX12_pack_54 5 rfl ?_
  refine z_if_ne (tgt := 64) B dX12_pack_56 rfl (fun c_2 => ?_) (fun h9 => absurd h9 (by decide))
  refine z_lload B dX12_pack_64 0 rfl ?_
  refine z_ldc2 (v := 32) B (by decide +kernel) dX12_pack_66 ?_
  refine z_lmul B dX12_pack_69 ?_
  refine z_top (st1 := [.long 12761312]) (congrArg (fun w9 : Int64 => ([.long w9] : List Value)) (show (398791 * 32 : Int64) = 12761312 by decide +kernel)) ?_
  refine z_iload B dX12_pack_70 5 rfl ?_
  refine z_i2l (v := 116) B dX12_pack_72 (by decide +kernel) ?_
  refine z_ladd B dX12_pack_73 ?_
  refine z_top (st1 := [.long 12761428]) (congrArg (fun w9 : Int64 => ([.long w9] : List Value)) (show (12761312 + 116 : Int64) = 12761428 by decide +kernel)) ?_
  refine z_ldc2 (v := 96) B (by decide +kernel) dX12_pack_74 ?_
  refine z_lsub B dX12_pack_77 ?_
  refine z_top (st1 := [.long 12761332]) (congrArg (fun w9 : Int64 => ([.long w9] : List Value)) (show (12761428 - 96 : Int64) = 12761332 by decide +kernel)) ?_
  refine z_lstore (lv' := [(6, .long 12761332), (0, .int 108), (1, .int 101), (2, .int 110), (3, .int 103), (4, .int 116), (5, .int 104)]) B dX12_pack_78 (Nat.le_of_ble_eq_true rfl) rfl ?_
  refine z_iload B dX12_pack_80 6 rfl ?_
  refine z_if_ne (tgt := 90) B dX12_pack_82 rfl (fun c_3 => ?_) (fun h9 => absurd h9 (by decide))
  refine z_lload B dX12_pack_90 0 rfl ?_
  refine z_ldc2 (v := 32) B (by decide +kernel) dX12_pack_92 ?_
  refine z_lmul B dX12_pack_95 ?_
  refine z_top (st1 := [.long 408362624]) (congrArg (fun w9 : Int64 => ([.long w9] : List Value)) (show (12761332 * 32 : Int64) = 408362624 by decide +kernel)) ?_
  refine z_iload B dX12_pack_96 6 rfl ?_
  refine z_i2l (v := 104) B dX12_pack_98 (by decide +kernel) ?_
  refine z_ladd B dX12_pack_99 ?_
  refine z_top (st1 := [.long 408362728]) (congrArg (fun w9 : Int64 => ([.long w9] : List Value)) (show (408362624 + 104 : Int64) = 408362728 by decide +kernel)) ?_
  refine z_ldc2 (v := 96) B (by decide +kernel) dX12_pack_100 ?_
  refine z_lsub B dX12_pack_103 ?_
  refine z_top (st1 := [.long 408362632]) (congrArg (fun w9 : Int64 => ([.long w9] : List Value)) (show (408362728 - 96 : Int64) = 408362632 by decide +kernel)) ?_
  exact z_ret_l B dX12_pack_104 ⟨rfl, rfl, hI, (fun b9 h9 => rfl)⟩

set_option maxHeartbeats 4000000 in
set_option maxRecDepth 100000 in
theorem r_pack_108_105_102_101_116_0 (G : EnvG) (l : Launch) (Φ : Hm) (sz x : Nat) (rd : (Nat → Int32) → Prop) (nw : (Nat → Int32) → Prop) (cr : (Nat → Int64) → Prop) (tp : (Nat → Int32) → Prop) (tt : (Nat → Int64) → Prop) (sI : (Nat → Int32) → Prop) (sT : (Nat → Int32) → Prop) (pt : (Nat → Int32) → Prop) (ql : (Nat → Int32) → Prop) (fl : Nat) (pe : Nat) (le : Nat) (nx : Nat) (il : Nat) (qu : Nat) (kn : Int32) (ec : Int32) (nu : Int32) (va : Int64) (st : Nat) (ep : Int32) (ti : Int32) (ad : Int32) (ob : Int64) (ra : Int32) (rt : Nat) (ex : Int32) (sa : Int64) (us : Int64) (tk : Nat) (th : Int32) (me : Int32) (dr : Int32) (se : Int64) (sn : Int64)  (hx : G.2.2.2 ≤ x) (hI : Im G x (rd, nw, cr, tp, tt, sI, sT, pt, ql, fl, pe, le, nx, il, qu, kn, ec, nu, va, st, ep, ti, ad, ob, ra, rt, ex, sa, us, tk, th, me, dr, se, sn) Φ) (hnw : ∀ f9 : Nat → Int32, nw f9 → NN f9) : Ct G l yX12_pack wsX12_pack ({ frames := 0, cells := 0, slots := 0, locals := 0 }) 0 0 [.int 108, .int 105, .int 102, .int 101, .int 116, .int 0] Φ sz (fun v Φ1 sz1 => (v = some (.long 12884148)) ∧ sz1 = sz ∧ (Im G x (rd, nw, cr, tp, tt, sI, sT, pt, ql, fl, pe, le, nx, il, qu, kn, ec, nu, va, st, ep, ti, ad, ob, ra, rt, ex, sa, us, tk, th, me, dr, se, sn) Φ1) ∧ Fr x (fun j9 => False) Φ Φ1) := by
  refine Ct.of (cc := cX12_pack) (maxL := 8) (ret := (some .long)) (by decide) rfl (Nat.le_of_ble_eq_true rfl) ?_
  intro p9 e9 s9 m9 w9 t9 k9 B
  show Z p9 l e9 _ s9 m9 _ w9 t9 k9 _ G 8 0 [(0, .int 108), (1, .int 105), (2, .int 102), (3, .int 101), (4, .int 116), (5, .int 0)] [] Φ sz 0 0
  refine z_iload_n B dX12_pack_0 rfl 0 rfl ?_
  refine z_i2l (v := 108) B dX12_pack_1 (by decide +kernel) ?_
  refine z_ldc2 (v := 96) B (by decide +kernel) dX12_pack_2 ?_
  refine z_lsub B dX12_pack_5 ?_
  refine z_top (st1 := [.long 12]) (congrArg (fun w9 : Int64 => ([.long w9] : List Value)) (show (108 - 96 : Int64) = 12 by decide +kernel)) ?_
  refine z_ldc2 (v := 32) B (by decide +kernel) dX12_pack_6 ?_
  refine z_lmul B dX12_pack_9 ?_
  refine z_top (st1 := [.long 384]) (congrArg (fun w9 : Int64 => ([.long w9] : List Value)) (show (12 * 32 : Int64) = 384 by decide +kernel)) ?_
  refine z_iload_n B dX12_pack_10 rfl 1 rfl ?_
  refine z_i2l (v := 105) B dX12_pack_11 (by decide +kernel) ?_
  refine z_ladd B dX12_pack_12 ?_
  refine z_top (st1 := [.long 489]) (congrArg (fun w9 : Int64 => ([.long w9] : List Value)) (show (384 + 105 : Int64) = 489 by decide +kernel)) ?_
  refine z_ldc2 (v := 96) B (by decide +kernel) dX12_pack_13 ?_
  refine z_lsub B dX12_pack_16 ?_
  refine z_top (st1 := [.long 393]) (congrArg (fun w9 : Int64 => ([.long w9] : List Value)) (show (489 - 96 : Int64) = 393 by decide +kernel)) ?_
  refine z_ldc2 (v := 32) B (by decide +kernel) dX12_pack_17 ?_
  refine z_lmul B dX12_pack_20 ?_
  refine z_top (st1 := [.long 12576]) (congrArg (fun w9 : Int64 => ([.long w9] : List Value)) (show (393 * 32 : Int64) = 12576 by decide +kernel)) ?_
  refine z_iload_n B dX12_pack_21 rfl 2 rfl ?_
  refine z_i2l (v := 102) B dX12_pack_22 (by decide +kernel) ?_
  refine z_ladd B dX12_pack_23 ?_
  refine z_top (st1 := [.long 12678]) (congrArg (fun w9 : Int64 => ([.long w9] : List Value)) (show (12576 + 102 : Int64) = 12678 by decide +kernel)) ?_
  refine z_ldc2 (v := 96) B (by decide +kernel) dX12_pack_24 ?_
  refine z_lsub B dX12_pack_27 ?_
  refine z_top (st1 := [.long 12582]) (congrArg (fun w9 : Int64 => ([.long w9] : List Value)) (show (12678 - 96 : Int64) = 12582 by decide +kernel)) ?_
  refine z_lstore (lv' := [(6, .long 12582), (0, .int 108), (1, .int 105), (2, .int 102), (3, .int 101), (4, .int 116), (5, .int 0)]) B dX12_pack_28 (Nat.le_of_ble_eq_true rfl) rfl ?_
  refine z_iload_n B dX12_pack_30 rfl 4 rfl ?_
  refine z_if_ne (tgt := 39) B dX12_pack_31 rfl (fun c_1 => ?_) (fun h9 => absurd h9 (by decide))
  refine z_lload B dX12_pack_39 0 rfl ?_
  refine z_ldc2 (v := 32) B (by decide +kernel) dX12_pack_41 ?_
  refine z_lmul B dX12_pack_44 ?_
  refine z_top (st1 := [.long 402624]) (congrArg (fun w9 : Int64 => ([.long w9] : List Value)) (show (12582 * 32 : Int64) = 402624 by decide +kernel)) ?_
  refine z_iload_n B dX12_pack_45 rfl 4 rfl ?_
  refine z_i2l (v := 101) B dX12_pack_46 (by decide +kernel) ?_
  refine z_ladd B dX12_pack_47 ?_
  refine z_top (st1 := [.long 402725]) (congrArg (fun w9 : Int64 => ([.long w9] : List Value)) (show (402624 + 101 : Int64) = 402725 by decide +kernel)) ?_
  refine z_ldc2 (v := 96) B (by decide +kernel) dX12_pack_48 ?_
  refine z_lsub B dX12_pack_51 ?_
  refine z_top (st1 := [.long 402629]) (congrArg (fun w9 : Int64 => ([.long w9] : List Value)) (show (402725 - 96 : Int64) = 402629 by decide +kernel)) ?_
  refine z_lstore (lv' := [(6, .long 402629), (0, .int 108), (1, .int 105), (2, .int 102), (3, .int 101), (4, .int 116), (5, .int 0)]) B dX12_pack_52 (Nat.le_of_ble_eq_true rfl) rfl ?_
  refine z_iload B dX12_pack_54 5 rfl ?_
  refine z_if_ne (tgt := 64) B dX12_pack_56 rfl (fun c_2 => ?_) (fun h9 => absurd h9 (by decide))
  refine z_lload B dX12_pack_64 0 rfl ?_
  refine z_ldc2 (v := 32) B (by decide +kernel) dX12_pack_66 ?_
  refine z_lmul B dX12_pack_69 ?_
  refine z_top (st1 := [.long 12884128]) (congrArg (fun w9 : Int64 => ([.long w9] : List Value)) (show (402629 * 32 : Int64) = 12884128 by decide +kernel)) ?_
  refine z_iload B dX12_pack_70 5 rfl ?_
  refine z_i2l (v := 116) B dX12_pack_72 (by decide +kernel) ?_
  refine z_ladd B dX12_pack_73 ?_
  refine z_top (st1 := [.long 12884244]) (congrArg (fun w9 : Int64 => ([.long w9] : List Value)) (show (12884128 + 116 : Int64) = 12884244 by decide +kernel)) ?_
  refine z_ldc2 (v := 96) B (by decide +kernel) dX12_pack_74 ?_
  refine z_lsub B dX12_pack_77 ?_
  refine z_top (st1 := [.long 12884148]) (congrArg (fun w9 : Int64 => ([.long w9] : List Value)) (show (12884244 - 96 : Int64) = 12884148 by decide +kernel)) ?_
  refine z_lstore (lv' := [(6, .long 12884148), (0, .int 108), (1, .int 105), (2, .int 102), (3, .int 101), (4, .int 116), (5, .int 0)]) B dX12_pack_78 (Nat.le_of_ble_eq_true rfl) rfl ?_
  refine z_iload B dX12_pack_80 6 rfl ?_
  refine z_if_ne (tgt := 90) B dX12_pack_82 rfl (fun h9 => absurd (by decide) h9) (fun c_3 => ?_)
  refine z_lload B dX12_pack_85 0 rfl ?_
  refine z_goto (tgt := 104) B dX12_pack_87 rfl ?_
  exact z_ret_l B dX12_pack_104 ⟨rfl, rfl, hI, (fun b9 h9 => rfl)⟩

set_option maxHeartbeats 4000000 in
set_option maxRecDepth 100000 in
theorem r_pack_112_97_99_107_0_0 (G : EnvG) (l : Launch) (Φ : Hm) (sz x : Nat) (rd : (Nat → Int32) → Prop) (nw : (Nat → Int32) → Prop) (cr : (Nat → Int64) → Prop) (tp : (Nat → Int32) → Prop) (tt : (Nat → Int64) → Prop) (sI : (Nat → Int32) → Prop) (sT : (Nat → Int32) → Prop) (pt : (Nat → Int32) → Prop) (ql : (Nat → Int32) → Prop) (fl : Nat) (pe : Nat) (le : Nat) (nx : Nat) (il : Nat) (qu : Nat) (kn : Int32) (ec : Int32) (nu : Int32) (va : Int64) (st : Nat) (ep : Int32) (ti : Int32) (ad : Int32) (ob : Int64) (ra : Int32) (rt : Nat) (ex : Int32) (sa : Int64) (us : Int64) (tk : Nat) (th : Int32) (me : Int32) (dr : Int32) (se : Int64) (sn : Int64)  (hx : G.2.2.2 ≤ x) (hI : Im G x (rd, nw, cr, tp, tt, sI, sT, pt, ql, fl, pe, le, nx, il, qu, kn, ec, nu, va, st, ep, ti, ad, ob, ra, rt, ex, sa, us, tk, th, me, dr, se, sn) Φ) (hnw : ∀ f9 : Nat → Int32, nw f9 → NN f9) : Ct G l yX12_pack wsX12_pack ({ frames := 0, cells := 0, slots := 0, locals := 0 }) 0 0 [.int 112, .int 97, .int 99, .int 107, .int 0, .int 0] Φ sz (fun v Φ1 sz1 => (v = some (.long 525419)) ∧ sz1 = sz ∧ (Im G x (rd, nw, cr, tp, tt, sI, sT, pt, ql, fl, pe, le, nx, il, qu, kn, ec, nu, va, st, ep, ti, ad, ob, ra, rt, ex, sa, us, tk, th, me, dr, se, sn) Φ1) ∧ Fr x (fun j9 => False) Φ Φ1) := by
  refine Ct.of (cc := cX12_pack) (maxL := 8) (ret := (some .long)) (by decide) rfl (Nat.le_of_ble_eq_true rfl) ?_
  intro p9 e9 s9 m9 w9 t9 k9 B
  show Z p9 l e9 _ s9 m9 _ w9 t9 k9 _ G 8 0 [(0, .int 112), (1, .int 97), (2, .int 99), (3, .int 107), (4, .int 0), (5, .int 0)] [] Φ sz 0 0
  refine z_iload_n B dX12_pack_0 rfl 0 rfl ?_
  refine z_i2l (v := 112) B dX12_pack_1 (by decide +kernel) ?_
  refine z_ldc2 (v := 96) B (by decide +kernel) dX12_pack_2 ?_
  refine z_lsub B dX12_pack_5 ?_
  refine z_top (st1 := [.long 16]) (congrArg (fun w9 : Int64 => ([.long w9] : List Value)) (show (112 - 96 : Int64) = 16 by decide +kernel)) ?_
  refine z_ldc2 (v := 32) B (by decide +kernel) dX12_pack_6 ?_
  refine z_lmul B dX12_pack_9 ?_
  refine z_top (st1 := [.long 512]) (congrArg (fun w9 : Int64 => ([.long w9] : List Value)) (show (16 * 32 : Int64) = 512 by decide +kernel)) ?_
  refine z_iload_n B dX12_pack_10 rfl 1 rfl ?_
  refine z_i2l (v := 97) B dX12_pack_11 (by decide +kernel) ?_
  refine z_ladd B dX12_pack_12 ?_
  refine z_top (st1 := [.long 609]) (congrArg (fun w9 : Int64 => ([.long w9] : List Value)) (show (512 + 97 : Int64) = 609 by decide +kernel)) ?_
  refine z_ldc2 (v := 96) B (by decide +kernel) dX12_pack_13 ?_
  refine z_lsub B dX12_pack_16 ?_
  refine z_top (st1 := [.long 513]) (congrArg (fun w9 : Int64 => ([.long w9] : List Value)) (show (609 - 96 : Int64) = 513 by decide +kernel)) ?_
  refine z_ldc2 (v := 32) B (by decide +kernel) dX12_pack_17 ?_
  refine z_lmul B dX12_pack_20 ?_
  refine z_top (st1 := [.long 16416]) (congrArg (fun w9 : Int64 => ([.long w9] : List Value)) (show (513 * 32 : Int64) = 16416 by decide +kernel)) ?_
  refine z_iload_n B dX12_pack_21 rfl 2 rfl ?_
  refine z_i2l (v := 99) B dX12_pack_22 (by decide +kernel) ?_
  refine z_ladd B dX12_pack_23 ?_
  refine z_top (st1 := [.long 16515]) (congrArg (fun w9 : Int64 => ([.long w9] : List Value)) (show (16416 + 99 : Int64) = 16515 by decide +kernel)) ?_
  refine z_ldc2 (v := 96) B (by decide +kernel) dX12_pack_24 ?_
  refine z_lsub B dX12_pack_27 ?_
  refine z_top (st1 := [.long 16419]) (congrArg (fun w9 : Int64 => ([.long w9] : List Value)) (show (16515 - 96 : Int64) = 16419 by decide +kernel)) ?_
  refine z_lstore (lv' := [(6, .long 16419), (0, .int 112), (1, .int 97), (2, .int 99), (3, .int 107), (4, .int 0), (5, .int 0)]) B dX12_pack_28 (Nat.le_of_ble_eq_true rfl) rfl ?_
  refine z_iload_n B dX12_pack_30 rfl 4 rfl ?_
  refine z_if_ne (tgt := 39) B dX12_pack_31 rfl (fun c_1 => ?_) (fun h9 => absurd h9 (by decide))
  refine z_lload B dX12_pack_39 0 rfl ?_
  refine z_ldc2 (v := 32) B (by decide +kernel) dX12_pack_41 ?_
  refine z_lmul B dX12_pack_44 ?_
  refine z_top (st1 := [.long 525408]) (congrArg (fun w9 : Int64 => ([.long w9] : List Value)) (show (16419 * 32 : Int64) = 525408 by decide +kernel)) ?_
  refine z_iload_n B dX12_pack_45 rfl 4 rfl ?_
  refine z_i2l (v := 107) B dX12_pack_46 (by decide +kernel) ?_
  refine z_ladd B dX12_pack_47 ?_
  refine z_top (st1 := [.long 525515]) (congrArg (fun w9 : Int64 => ([.long w9] : List Value)) (show (525408 + 107 : Int64) = 525515 by decide +kernel)) ?_
  refine z_ldc2 (v := 96) B (by decide +kernel) dX12_pack_48 ?_
  refine z_lsub B dX12_pack_51 ?_
  refine z_top (st1 := [.long 525419]) (congrArg (fun w9 : Int64 => ([.long w9] : List Value)) (show (525515 - 96 : Int64) = 525419 by decide +kernel)) ?_
  refine z_lstore (lv' := [(6, .long 525419), (0, .int 112), (1, .int 97), (2, .int 99), (3, .int 107), (4, .int 0), (5, .int 0)]) B dX12_pack_52 (Nat.le_of_ble_eq_true rfl) rfl ?_
  refine z_iload B dX12_pack_54 5 rfl ?_
  refine z_if_ne (tgt := 64) B dX12_pack_56 rfl (fun h9 => absurd (by decide) h9) (fun c_2 => ?_)
  refine z_lload B dX12_pack_59 0 rfl ?_
  refine z_goto (tgt := 78) B dX12_pack_61 rfl ?_
  refine z_lstore (lv' := [(6, .long 525419), (0, .int 112), (1, .int 97), (2, .int 99), (3, .int 107), (4, .int 0), (5, .int 0)]) B dX12_pack_78 (Nat.le_of_ble_eq_true rfl) rfl ?_
  refine z_iload B dX12_pack_80 6 rfl ?_
  refine z_if_ne (tgt := 90) B dX12_pack_82 rfl (fun h9 => absurd (by decide) h9) (fun c_3 => ?_)
  refine z_lload B dX12_pack_85 0 rfl ?_
  refine z_goto (tgt := 104) B dX12_pack_87 rfl ?_
  exact z_ret_l B dX12_pack_104 ⟨rfl, rfl, hI, (fun b9 h9 => rfl)⟩

set_option maxHeartbeats 4000000 in
set_option maxRecDepth 100000 in
theorem r_pack_112_111_114_116_0_0 (G : EnvG) (l : Launch) (Φ : Hm) (sz x : Nat) (rd : (Nat → Int32) → Prop) (nw : (Nat → Int32) → Prop) (cr : (Nat → Int64) → Prop) (tp : (Nat → Int32) → Prop) (tt : (Nat → Int64) → Prop) (sI : (Nat → Int32) → Prop) (sT : (Nat → Int32) → Prop) (pt : (Nat → Int32) → Prop) (ql : (Nat → Int32) → Prop) (fl : Nat) (pe : Nat) (le : Nat) (nx : Nat) (il : Nat) (qu : Nat) (kn : Int32) (ec : Int32) (nu : Int32) (va : Int64) (st : Nat) (ep : Int32) (ti : Int32) (ad : Int32) (ob : Int64) (ra : Int32) (rt : Nat) (ex : Int32) (sa : Int64) (us : Int64) (tk : Nat) (th : Int32) (me : Int32) (dr : Int32) (se : Int64) (sn : Int64)  (hx : G.2.2.2 ≤ x) (hI : Im G x (rd, nw, cr, tp, tt, sI, sT, pt, ql, fl, pe, le, nx, il, qu, kn, ec, nu, va, st, ep, ti, ad, ob, ra, rt, ex, sa, us, tk, th, me, dr, se, sn) Φ) (hnw : ∀ f9 : Nat → Int32, nw f9 → NN f9) : Ct G l yX12_pack wsX12_pack ({ frames := 0, cells := 0, slots := 0, locals := 0 }) 0 0 [.int 112, .int 111, .int 114, .int 116, .int 0, .int 0] Φ sz (fun v Φ1 sz1 => (v = some (.long 540244)) ∧ sz1 = sz ∧ (Im G x (rd, nw, cr, tp, tt, sI, sT, pt, ql, fl, pe, le, nx, il, qu, kn, ec, nu, va, st, ep, ti, ad, ob, ra, rt, ex, sa, us, tk, th, me, dr, se, sn) Φ1) ∧ Fr x (fun j9 => False) Φ Φ1) := by
  refine Ct.of (cc := cX12_pack) (maxL := 8) (ret := (some .long)) (by decide) rfl (Nat.le_of_ble_eq_true rfl) ?_
  intro p9 e9 s9 m9 w9 t9 k9 B
  show Z p9 l e9 _ s9 m9 _ w9 t9 k9 _ G 8 0 [(0, .int 112), (1, .int 111), (2, .int 114), (3, .int 116), (4, .int 0), (5, .int 0)] [] Φ sz 0 0
  refine z_iload_n B dX12_pack_0 rfl 0 rfl ?_
  refine z_i2l (v := 112) B dX12_pack_1 (by decide +kernel) ?_
  refine z_ldc2 (v := 96) B (by decide +kernel) dX12_pack_2 ?_
  refine z_lsub B dX12_pack_5 ?_
  refine z_top (st1 := [.long 16]) (congrArg (fun w9 : Int64 => ([.long w9] : List Value)) (show (112 - 96 : Int64) = 16 by decide +kernel)) ?_
  refine z_ldc2 (v := 32) B (by decide +kernel) dX12_pack_6 ?_
  refine z_lmul B dX12_pack_9 ?_
  refine z_top (st1 := [.long 512]) (congrArg (fun w9 : Int64 => ([.long w9] : List Value)) (show (16 * 32 : Int64) = 512 by decide +kernel)) ?_
  refine z_iload_n B dX12_pack_10 rfl 1 rfl ?_
  refine z_i2l (v := 111) B dX12_pack_11 (by decide +kernel) ?_
  refine z_ladd B dX12_pack_12 ?_
  refine z_top (st1 := [.long 623]) (congrArg (fun w9 : Int64 => ([.long w9] : List Value)) (show (512 + 111 : Int64) = 623 by decide +kernel)) ?_
  refine z_ldc2 (v := 96) B (by decide +kernel) dX12_pack_13 ?_
  refine z_lsub B dX12_pack_16 ?_
  refine z_top (st1 := [.long 527]) (congrArg (fun w9 : Int64 => ([.long w9] : List Value)) (show (623 - 96 : Int64) = 527 by decide +kernel)) ?_
  refine z_ldc2 (v := 32) B (by decide +kernel) dX12_pack_17 ?_
  refine z_lmul B dX12_pack_20 ?_
  refine z_top (st1 := [.long 16864]) (congrArg (fun w9 : Int64 => ([.long w9] : List Value)) (show (527 * 32 : Int64) = 16864 by decide +kernel)) ?_
  refine z_iload_n B dX12_pack_21 rfl 2 rfl ?_
  refine z_i2l (v := 114) B dX12_pack_22 (by decide +kernel) ?_
  refine z_ladd B dX12_pack_23 ?_
  refine z_top (st1 := [.long 16978]) (congrArg (fun w9 : Int64 => ([.long w9] : List Value)) (show (16864 + 114 : Int64) = 16978 by decide +kernel)) ?_
  refine z_ldc2 (v := 96) B (by decide +kernel) dX12_pack_24 ?_
  refine z_lsub B dX12_pack_27 ?_
  refine z_top (st1 := [.long 16882]) (congrArg (fun w9 : Int64 => ([.long w9] : List Value)) (show (16978 - 96 : Int64) = 16882 by decide +kernel)) ?_
  refine z_lstore (lv' := [(6, .long 16882), (0, .int 112), (1, .int 111), (2, .int 114), (3, .int 116), (4, .int 0), (5, .int 0)]) B dX12_pack_28 (Nat.le_of_ble_eq_true rfl) rfl ?_
  refine z_iload_n B dX12_pack_30 rfl 4 rfl ?_
  refine z_if_ne (tgt := 39) B dX12_pack_31 rfl (fun c_1 => ?_) (fun h9 => absurd h9 (by decide))
  refine z_lload B dX12_pack_39 0 rfl ?_
  refine z_ldc2 (v := 32) B (by decide +kernel) dX12_pack_41 ?_
  refine z_lmul B dX12_pack_44 ?_
  refine z_top (st1 := [.long 540224]) (congrArg (fun w9 : Int64 => ([.long w9] : List Value)) (show (16882 * 32 : Int64) = 540224 by decide +kernel)) ?_
  refine z_iload_n B dX12_pack_45 rfl 4 rfl ?_
  refine z_i2l (v := 116) B dX12_pack_46 (by decide +kernel) ?_
  refine z_ladd B dX12_pack_47 ?_
  refine z_top (st1 := [.long 540340]) (congrArg (fun w9 : Int64 => ([.long w9] : List Value)) (show (540224 + 116 : Int64) = 540340 by decide +kernel)) ?_
  refine z_ldc2 (v := 96) B (by decide +kernel) dX12_pack_48 ?_
  refine z_lsub B dX12_pack_51 ?_
  refine z_top (st1 := [.long 540244]) (congrArg (fun w9 : Int64 => ([.long w9] : List Value)) (show (540340 - 96 : Int64) = 540244 by decide +kernel)) ?_
  refine z_lstore (lv' := [(6, .long 540244), (0, .int 112), (1, .int 111), (2, .int 114), (3, .int 116), (4, .int 0), (5, .int 0)]) B dX12_pack_52 (Nat.le_of_ble_eq_true rfl) rfl ?_
  refine z_iload B dX12_pack_54 5 rfl ?_
  refine z_if_ne (tgt := 64) B dX12_pack_56 rfl (fun h9 => absurd (by decide) h9) (fun c_2 => ?_)
  refine z_lload B dX12_pack_59 0 rfl ?_
  refine z_goto (tgt := 78) B dX12_pack_61 rfl ?_
  refine z_lstore (lv' := [(6, .long 540244), (0, .int 112), (1, .int 111), (2, .int 114), (3, .int 116), (4, .int 0), (5, .int 0)]) B dX12_pack_78 (Nat.le_of_ble_eq_true rfl) rfl ?_
  refine z_iload B dX12_pack_80 6 rfl ?_
  refine z_if_ne (tgt := 90) B dX12_pack_82 rfl (fun h9 => absurd (by decide) h9) (fun c_3 => ?_)
  refine z_lload B dX12_pack_85 0 rfl ?_
  refine z_goto (tgt := 104) B dX12_pack_87 rfl ?_
  exact z_ret_l B dX12_pack_104 ⟨rfl, rfl, hI, (fun b9 h9 => rfl)⟩

set_option maxHeartbeats 4000000 in
set_option maxRecDepth 100000 in
theorem r_pack_112_114_111_116_111_0 (G : EnvG) (l : Launch) (Φ : Hm) (sz x : Nat) (rd : (Nat → Int32) → Prop) (nw : (Nat → Int32) → Prop) (cr : (Nat → Int64) → Prop) (tp : (Nat → Int32) → Prop) (tt : (Nat → Int64) → Prop) (sI : (Nat → Int32) → Prop) (sT : (Nat → Int32) → Prop) (pt : (Nat → Int32) → Prop) (ql : (Nat → Int32) → Prop) (fl : Nat) (pe : Nat) (le : Nat) (nx : Nat) (il : Nat) (qu : Nat) (kn : Int32) (ec : Int32) (nu : Int32) (va : Int64) (st : Nat) (ep : Int32) (ti : Int32) (ad : Int32) (ob : Int64) (ra : Int32) (rt : Nat) (ex : Int32) (sa : Int64) (us : Int64) (tk : Nat) (th : Int32) (me : Int32) (dr : Int32) (se : Int64) (sn : Int64)  (hx : G.2.2.2 ≤ x) (hI : Im G x (rd, nw, cr, tp, tt, sI, sT, pt, ql, fl, pe, le, nx, il, qu, kn, ec, nu, va, st, ep, ti, ad, ob, ra, rt, ex, sa, us, tk, th, me, dr, se, sn) Φ) (hnw : ∀ f9 : Nat → Int32, nw f9 → NN f9) : Ct G l yX12_pack wsX12_pack ({ frames := 0, cells := 0, slots := 0, locals := 0 }) 0 0 [.int 112, .int 114, .int 111, .int 116, .int 111, .int 0] Φ sz (fun v Φ1 sz1 => (v = some (.long 17383055)) ∧ sz1 = sz ∧ (Im G x (rd, nw, cr, tp, tt, sI, sT, pt, ql, fl, pe, le, nx, il, qu, kn, ec, nu, va, st, ep, ti, ad, ob, ra, rt, ex, sa, us, tk, th, me, dr, se, sn) Φ1) ∧ Fr x (fun j9 => False) Φ Φ1) := by
  refine Ct.of (cc := cX12_pack) (maxL := 8) (ret := (some .long)) (by decide) rfl (Nat.le_of_ble_eq_true rfl) ?_
  intro p9 e9 s9 m9 w9 t9 k9 B
  show Z p9 l e9 _ s9 m9 _ w9 t9 k9 _ G 8 0 [(0, .int 112), (1, .int 114), (2, .int 111), (3, .int 116), (4, .int 111), (5, .int 0)] [] Φ sz 0 0
  refine z_iload_n B dX12_pack_0 rfl 0 rfl ?_
  refine z_i2l (v := 112) B dX12_pack_1 (by decide +kernel) ?_
  refine z_ldc2 (v := 96) B (by decide +kernel) dX12_pack_2 ?_
  refine z_lsub B dX12_pack_5 ?_
  refine z_top (st1 := [.long 16]) (congrArg (fun w9 : Int64 => ([.long w9] : List Value)) (show (112 - 96 : Int64) = 16 by decide +kernel)) ?_
  refine z_ldc2 (v := 32) B (by decide +kernel) dX12_pack_6 ?_
  refine z_lmul B dX12_pack_9 ?_
  refine z_top (st1 := [.long 512]) (congrArg (fun w9 : Int64 => ([.long w9] : List Value)) (show (16 * 32 : Int64) = 512 by decide +kernel)) ?_
  refine z_iload_n B dX12_pack_10 rfl 1 rfl ?_
  refine z_i2l (v := 114) B dX12_pack_11 (by decide +kernel) ?_
  refine z_ladd B dX12_pack_12 ?_
  refine z_top (st1 := [.long 626]) (congrArg (fun w9 : Int64 => ([.long w9] : List Value)) (show (512 + 114 : Int64) = 626 by decide +kernel)) ?_
  refine z_ldc2 (v := 96) B (by decide +kernel) dX12_pack_13 ?_
  refine z_lsub B dX12_pack_16 ?_
  refine z_top (st1 := [.long 530]) (congrArg (fun w9 : Int64 => ([.long w9] : List Value)) (show (626 - 96 : Int64) = 530 by decide +kernel)) ?_
  refine z_ldc2 (v := 32) B (by decide +kernel) dX12_pack_17 ?_
  refine z_lmul B dX12_pack_20 ?_
  refine z_top (st1 := [.long 16960]) (congrArg (fun w9 : Int64 => ([.long w9] : List Value)) (show (530 * 32 : Int64) = 16960 by decide +kernel)) ?_
  refine z_iload_n B dX12_pack_21 rfl 2 rfl ?_
  refine z_i2l (v := 111) B dX12_pack_22 (by decide +kernel) ?_
  refine z_ladd B dX12_pack_23 ?_
  refine z_top (st1 := [.long 17071]) (congrArg (fun w9 : Int64 => ([.long w9] : List Value)) (show (16960 + 111 : Int64) = 17071 by decide +kernel)) ?_
  refine z_ldc2 (v := 96) B (by decide +kernel) dX12_pack_24 ?_
  refine z_lsub B dX12_pack_27 ?_
  refine z_top (st1 := [.long 16975]) (congrArg (fun w9 : Int64 => ([.long w9] : List Value)) (show (17071 - 96 : Int64) = 16975 by decide +kernel)) ?_
  refine z_lstore (lv' := [(6, .long 16975), (0, .int 112), (1, .int 114), (2, .int 111), (3, .int 116), (4, .int 111), (5, .int 0)]) B dX12_pack_28 (Nat.le_of_ble_eq_true rfl) rfl ?_
  refine z_iload_n B dX12_pack_30 rfl 4 rfl ?_
  refine z_if_ne (tgt := 39) B dX12_pack_31 rfl (fun c_1 => ?_) (fun h9 => absurd h9 (by decide))
  refine z_lload B dX12_pack_39 0 rfl ?_
  refine z_ldc2 (v := 32) B (by decide +kernel) dX12_pack_41 ?_
  refine z_lmul B dX12_pack_44 ?_
  refine z_top (st1 := [.long 543200]) (congrArg (fun w9 : Int64 => ([.long w9] : List Value)) (show (16975 * 32 : Int64) = 543200 by decide +kernel)) ?_
  refine z_iload_n B dX12_pack_45 rfl 4 rfl ?_
  refine z_i2l (v := 116) B dX12_pack_46 (by decide +kernel) ?_
  refine z_ladd B dX12_pack_47 ?_
  refine z_top (st1 := [.long 543316]) (congrArg (fun w9 : Int64 => ([.long w9] : List Value)) (show (543200 + 116 : Int64) = 543316 by decide +kernel)) ?_
  refine z_ldc2 (v := 96) B (by decide +kernel) dX12_pack_48 ?_
  refine z_lsub B dX12_pack_51 ?_
  refine z_top (st1 := [.long 543220]) (congrArg (fun w9 : Int64 => ([.long w9] : List Value)) (show (543316 - 96 : Int64) = 543220 by decide +kernel)) ?_
  refine z_lstore (lv' := [(6, .long 543220), (0, .int 112), (1, .int 114), (2, .int 111), (3, .int 116), (4, .int 111), (5, .int 0)]) B dX12_pack_52 (Nat.le_of_ble_eq_true rfl) rfl ?_
  refine z_iload B dX12_pack_54 5 rfl ?_
  refine z_if_ne (tgt := 64) B dX12_pack_56 rfl (fun c_2 => ?_) (fun h9 => absurd h9 (by decide))
  refine z_lload B dX12_pack_64 0 rfl ?_
  refine z_ldc2 (v := 32) B (by decide +kernel) dX12_pack_66 ?_
  refine z_lmul B dX12_pack_69 ?_
  refine z_top (st1 := [.long 17383040]) (congrArg (fun w9 : Int64 => ([.long w9] : List Value)) (show (543220 * 32 : Int64) = 17383040 by decide +kernel)) ?_
  refine z_iload B dX12_pack_70 5 rfl ?_
  refine z_i2l (v := 111) B dX12_pack_72 (by decide +kernel) ?_
  refine z_ladd B dX12_pack_73 ?_
  refine z_top (st1 := [.long 17383151]) (congrArg (fun w9 : Int64 => ([.long w9] : List Value)) (show (17383040 + 111 : Int64) = 17383151 by decide +kernel)) ?_
  refine z_ldc2 (v := 96) B (by decide +kernel) dX12_pack_74 ?_
  refine z_lsub B dX12_pack_77 ?_
  refine z_top (st1 := [.long 17383055]) (congrArg (fun w9 : Int64 => ([.long w9] : List Value)) (show (17383151 - 96 : Int64) = 17383055 by decide +kernel)) ?_
  refine z_lstore (lv' := [(6, .long 17383055), (0, .int 112), (1, .int 114), (2, .int 111), (3, .int 116), (4, .int 111), (5, .int 0)]) B dX12_pack_78 (Nat.le_of_ble_eq_true rfl) rfl ?_
  refine z_iload B dX12_pack_80 6 rfl ?_
  refine z_if_ne (tgt := 90) B dX12_pack_82 rfl (fun h9 => absurd (by decide) h9) (fun c_3 => ?_)
  refine z_lload B dX12_pack_85 0 rfl ?_
  refine z_goto (tgt := 104) B dX12_pack_87 rfl ?_
  exact z_ret_l B dX12_pack_104 ⟨rfl, rfl, hI, (fun b9 h9 => rfl)⟩

set_option maxHeartbeats 4000000 in
set_option maxRecDepth 100000 in
theorem r_pack_114_97_116_101_0_0 (G : EnvG) (l : Launch) (Φ : Hm) (sz x : Nat) (rd : (Nat → Int32) → Prop) (nw : (Nat → Int32) → Prop) (cr : (Nat → Int64) → Prop) (tp : (Nat → Int32) → Prop) (tt : (Nat → Int64) → Prop) (sI : (Nat → Int32) → Prop) (sT : (Nat → Int32) → Prop) (pt : (Nat → Int32) → Prop) (ql : (Nat → Int32) → Prop) (fl : Nat) (pe : Nat) (le : Nat) (nx : Nat) (il : Nat) (qu : Nat) (kn : Int32) (ec : Int32) (nu : Int32) (va : Int64) (st : Nat) (ep : Int32) (ti : Int32) (ad : Int32) (ob : Int64) (ra : Int32) (rt : Nat) (ex : Int32) (sa : Int64) (us : Int64) (tk : Nat) (th : Int32) (me : Int32) (dr : Int32) (se : Int64) (sn : Int64)  (hx : G.2.2.2 ≤ x) (hI : Im G x (rd, nw, cr, tp, tt, sI, sT, pt, ql, fl, pe, le, nx, il, qu, kn, ec, nu, va, st, ep, ti, ad, ob, ra, rt, ex, sa, us, tk, th, me, dr, se, sn) Φ) (hnw : ∀ f9 : Nat → Int32, nw f9 → NN f9) : Ct G l yX12_pack wsX12_pack ({ frames := 0, cells := 0, slots := 0, locals := 0 }) 0 0 [.int 114, .int 97, .int 116, .int 101, .int 0, .int 0] Φ sz (fun v Φ1 sz1 => (v = some (.long 591493)) ∧ sz1 = sz ∧ (Im G x (rd, nw, cr, tp, tt, sI, sT, pt, ql, fl, pe, le, nx, il, qu, kn, ec, nu, va, st, ep, ti, ad, ob, ra, rt, ex, sa, us, tk, th, me, dr, se, sn) Φ1) ∧ Fr x (fun j9 => False) Φ Φ1) := by
  refine Ct.of (cc := cX12_pack) (maxL := 8) (ret := (some .long)) (by decide) rfl (Nat.le_of_ble_eq_true rfl) ?_
  intro p9 e9 s9 m9 w9 t9 k9 B
  show Z p9 l e9 _ s9 m9 _ w9 t9 k9 _ G 8 0 [(0, .int 114), (1, .int 97), (2, .int 116), (3, .int 101), (4, .int 0), (5, .int 0)] [] Φ sz 0 0
  refine z_iload_n B dX12_pack_0 rfl 0 rfl ?_
  refine z_i2l (v := 114) B dX12_pack_1 (by decide +kernel) ?_
  refine z_ldc2 (v := 96) B (by decide +kernel) dX12_pack_2 ?_
  refine z_lsub B dX12_pack_5 ?_
  refine z_top (st1 := [.long 18]) (congrArg (fun w9 : Int64 => ([.long w9] : List Value)) (show (114 - 96 : Int64) = 18 by decide +kernel)) ?_
  refine z_ldc2 (v := 32) B (by decide +kernel) dX12_pack_6 ?_
  refine z_lmul B dX12_pack_9 ?_
  refine z_top (st1 := [.long 576]) (congrArg (fun w9 : Int64 => ([.long w9] : List Value)) (show (18 * 32 : Int64) = 576 by decide +kernel)) ?_
  refine z_iload_n B dX12_pack_10 rfl 1 rfl ?_
  refine z_i2l (v := 97) B dX12_pack_11 (by decide +kernel) ?_
  refine z_ladd B dX12_pack_12 ?_
  refine z_top (st1 := [.long 673]) (congrArg (fun w9 : Int64 => ([.long w9] : List Value)) (show (576 + 97 : Int64) = 673 by decide +kernel)) ?_
  refine z_ldc2 (v := 96) B (by decide +kernel) dX12_pack_13 ?_
  refine z_lsub B dX12_pack_16 ?_
  refine z_top (st1 := [.long 577]) (congrArg (fun w9 : Int64 => ([.long w9] : List Value)) (show (673 - 96 : Int64) = 577 by decide +kernel)) ?_
  refine z_ldc2 (v := 32) B (by decide +kernel) dX12_pack_17 ?_
  refine z_lmul B dX12_pack_20 ?_
  refine z_top (st1 := [.long 18464]) (congrArg (fun w9 : Int64 => ([.long w9] : List Value)) (show (577 * 32 : Int64) = 18464 by decide +kernel)) ?_
  refine z_iload_n B dX12_pack_21 rfl 2 rfl ?_
  refine z_i2l (v := 116) B dX12_pack_22 (by decide +kernel) ?_
  refine z_ladd B dX12_pack_23 ?_
  refine z_top (st1 := [.long 18580]) (congrArg (fun w9 : Int64 => ([.long w9] : List Value)) (show (18464 + 116 : Int64) = 18580 by decide +kernel)) ?_
  refine z_ldc2 (v := 96) B (by decide +kernel) dX12_pack_24 ?_
  refine z_lsub B dX12_pack_27 ?_
  refine z_top (st1 := [.long 18484]) (congrArg (fun w9 : Int64 => ([.long w9] : List Value)) (show (18580 - 96 : Int64) = 18484 by decide +kernel)) ?_
  refine z_lstore (lv' := [(6, .long 18484), (0, .int 114), (1, .int 97), (2, .int 116), (3, .int 101), (4, .int 0), (5, .int 0)]) B dX12_pack_28 (Nat.le_of_ble_eq_true rfl) rfl ?_
  refine z_iload_n B dX12_pack_30 rfl 4 rfl ?_
  refine z_if_ne (tgt := 39) B dX12_pack_31 rfl (fun c_1 => ?_) (fun h9 => absurd h9 (by decide))
  refine z_lload B dX12_pack_39 0 rfl ?_
  refine z_ldc2 (v := 32) B (by decide +kernel) dX12_pack_41 ?_
  refine z_lmul B dX12_pack_44 ?_
  refine z_top (st1 := [.long 591488]) (congrArg (fun w9 : Int64 => ([.long w9] : List Value)) (show (18484 * 32 : Int64) = 591488 by decide +kernel)) ?_
  refine z_iload_n B dX12_pack_45 rfl 4 rfl ?_
  refine z_i2l (v := 101) B dX12_pack_46 (by decide +kernel) ?_
  refine z_ladd B dX12_pack_47 ?_
  refine z_top (st1 := [.long 591589]) (congrArg (fun w9 : Int64 => ([.long w9] : List Value)) (show (591488 + 101 : Int64) = 591589 by decide +kernel)) ?_
  refine z_ldc2 (v := 96) B (by decide +kernel) dX12_pack_48 ?_
  refine z_lsub B dX12_pack_51 ?_
  refine z_top (st1 := [.long 591493]) (congrArg (fun w9 : Int64 => ([.long w9] : List Value)) (show (591589 - 96 : Int64) = 591493 by decide +kernel)) ?_
  refine z_lstore (lv' := [(6, .long 591493), (0, .int 114), (1, .int 97), (2, .int 116), (3, .int 101), (4, .int 0), (5, .int 0)]) B dX12_pack_52 (Nat.le_of_ble_eq_true rfl) rfl ?_
  refine z_iload B dX12_pack_54 5 rfl ?_
  refine z_if_ne (tgt := 64) B dX12_pack_56 rfl (fun h9 => absurd (by decide) h9) (fun c_2 => ?_)
  refine z_lload B dX12_pack_59 0 rfl ?_
  refine z_goto (tgt := 78) B dX12_pack_61 rfl ?_
  refine z_lstore (lv' := [(6, .long 591493), (0, .int 114), (1, .int 97), (2, .int 116), (3, .int 101), (4, .int 0), (5, .int 0)]) B dX12_pack_78 (Nat.le_of_ble_eq_true rfl) rfl ?_
  refine z_iload B dX12_pack_80 6 rfl ?_
  refine z_if_ne (tgt := 90) B dX12_pack_82 rfl (fun h9 => absurd (by decide) h9) (fun c_3 => ?_)
  refine z_lload B dX12_pack_85 0 rfl ?_
  refine z_goto (tgt := 104) B dX12_pack_87 rfl ?_
  exact z_ret_l B dX12_pack_104 ⟨rfl, rfl, hI, (fun b9 h9 => rfl)⟩

set_option maxHeartbeats 4000000 in
set_option maxRecDepth 100000 in
theorem r_pack_114_101_102_114_0_0 (G : EnvG) (l : Launch) (Φ : Hm) (sz x : Nat) (rd : (Nat → Int32) → Prop) (nw : (Nat → Int32) → Prop) (cr : (Nat → Int64) → Prop) (tp : (Nat → Int32) → Prop) (tt : (Nat → Int64) → Prop) (sI : (Nat → Int32) → Prop) (sT : (Nat → Int32) → Prop) (pt : (Nat → Int32) → Prop) (ql : (Nat → Int32) → Prop) (fl : Nat) (pe : Nat) (le : Nat) (nx : Nat) (il : Nat) (qu : Nat) (kn : Int32) (ec : Int32) (nu : Int32) (va : Int64) (st : Nat) (ep : Int32) (ti : Int32) (ad : Int32) (ob : Int64) (ra : Int32) (rt : Nat) (ex : Int32) (sa : Int64) (us : Int64) (tk : Nat) (th : Int32) (me : Int32) (dr : Int32) (se : Int64) (sn : Int64)  (hx : G.2.2.2 ≤ x) (hI : Im G x (rd, nw, cr, tp, tt, sI, sT, pt, ql, fl, pe, le, nx, il, qu, kn, ec, nu, va, st, ep, ti, ad, ob, ra, rt, ex, sa, us, tk, th, me, dr, se, sn) Φ) (hnw : ∀ f9 : Nat → Int32, nw f9 → NN f9) : Ct G l yX12_pack wsX12_pack ({ frames := 0, cells := 0, slots := 0, locals := 0 }) 0 0 [.int 114, .int 101, .int 102, .int 114, .int 0, .int 0] Φ sz (fun v Φ1 sz1 => (v = some (.long 595154)) ∧ sz1 = sz ∧ (Im G x (rd, nw, cr, tp, tt, sI, sT, pt, ql, fl, pe, le, nx, il, qu, kn, ec, nu, va, st, ep, ti, ad, ob, ra, rt, ex, sa, us, tk, th, me, dr, se, sn) Φ1) ∧ Fr x (fun j9 => False) Φ Φ1) := by
  refine Ct.of (cc := cX12_pack) (maxL := 8) (ret := (some .long)) (by decide) rfl (Nat.le_of_ble_eq_true rfl) ?_
  intro p9 e9 s9 m9 w9 t9 k9 B
  show Z p9 l e9 _ s9 m9 _ w9 t9 k9 _ G 8 0 [(0, .int 114), (1, .int 101), (2, .int 102), (3, .int 114), (4, .int 0), (5, .int 0)] [] Φ sz 0 0
  refine z_iload_n B dX12_pack_0 rfl 0 rfl ?_
  refine z_i2l (v := 114) B dX12_pack_1 (by decide +kernel) ?_
  refine z_ldc2 (v := 96) B (by decide +kernel) dX12_pack_2 ?_
  refine z_lsub B dX12_pack_5 ?_
  refine z_top (st1 := [.long 18]) (congrArg (fun w9 : Int64 => ([.long w9] : List Value)) (show (114 - 96 : Int64) = 18 by decide +kernel)) ?_
  refine z_ldc2 (v := 32) B (by decide +kernel) dX12_pack_6 ?_
  refine z_lmul B dX12_pack_9 ?_
  refine z_top (st1 := [.long 576]) (congrArg (fun w9 : Int64 => ([.long w9] : List Value)) (show (18 * 32 : Int64) = 576 by decide +kernel)) ?_
  refine z_iload_n B dX12_pack_10 rfl 1 rfl ?_
  refine z_i2l (v := 101) B dX12_pack_11 (by decide +kernel) ?_
  refine z_ladd B dX12_pack_12 ?_
  refine z_top (st1 := [.long 677]) (congrArg (fun w9 : Int64 => ([.long w9] : List Value)) (show (576 + 101 : Int64) = 677 by decide +kernel)) ?_
  refine z_ldc2 (v := 96) B (by decide +kernel) dX12_pack_13 ?_
  refine z_lsub B dX12_pack_16 ?_
  refine z_top (st1 := [.long 581]) (congrArg (fun w9 : Int64 => ([.long w9] : List Value)) (show (677 - 96 : Int64) = 581 by decide +kernel)) ?_
  refine z_ldc2 (v := 32) B (by decide +kernel) dX12_pack_17 ?_
  refine z_lmul B dX12_pack_20 ?_
  refine z_top (st1 := [.long 18592]) (congrArg (fun w9 : Int64 => ([.long w9] : List Value)) (show (581 * 32 : Int64) = 18592 by decide +kernel)) ?_
  refine z_iload_n B dX12_pack_21 rfl 2 rfl ?_
  refine z_i2l (v := 102) B dX12_pack_22 (by decide +kernel) ?_
  refine z_ladd B dX12_pack_23 ?_
  refine z_top (st1 := [.long 18694]) (congrArg (fun w9 : Int64 => ([.long w9] : List Value)) (show (18592 + 102 : Int64) = 18694 by decide +kernel)) ?_
  refine z_ldc2 (v := 96) B (by decide +kernel) dX12_pack_24 ?_
  refine z_lsub B dX12_pack_27 ?_
  refine z_top (st1 := [.long 18598]) (congrArg (fun w9 : Int64 => ([.long w9] : List Value)) (show (18694 - 96 : Int64) = 18598 by decide +kernel)) ?_
  refine z_lstore (lv' := [(6, .long 18598), (0, .int 114), (1, .int 101), (2, .int 102), (3, .int 114), (4, .int 0), (5, .int 0)]) B dX12_pack_28 (Nat.le_of_ble_eq_true rfl) rfl ?_
  refine z_iload_n B dX12_pack_30 rfl 4 rfl ?_
  refine z_if_ne (tgt := 39) B dX12_pack_31 rfl (fun c_1 => ?_) (fun h9 => absurd h9 (by decide))
  refine z_lload B dX12_pack_39 0 rfl ?_
  refine z_ldc2 (v := 32) B (by decide +kernel) dX12_pack_41 ?_
  refine z_lmul B dX12_pack_44 ?_
  refine z_top (st1 := [.long 595136]) (congrArg (fun w9 : Int64 => ([.long w9] : List Value)) (show (18598 * 32 : Int64) = 595136 by decide +kernel)) ?_
  refine z_iload_n B dX12_pack_45 rfl 4 rfl ?_
  refine z_i2l (v := 114) B dX12_pack_46 (by decide +kernel) ?_
  refine z_ladd B dX12_pack_47 ?_
  refine z_top (st1 := [.long 595250]) (congrArg (fun w9 : Int64 => ([.long w9] : List Value)) (show (595136 + 114 : Int64) = 595250 by decide +kernel)) ?_
  refine z_ldc2 (v := 96) B (by decide +kernel) dX12_pack_48 ?_
  refine z_lsub B dX12_pack_51 ?_
  refine z_top (st1 := [.long 595154]) (congrArg (fun w9 : Int64 => ([.long w9] : List Value)) (show (595250 - 96 : Int64) = 595154 by decide +kernel)) ?_
  refine z_lstore (lv' := [(6, .long 595154), (0, .int 114), (1, .int 101), (2, .int 102), (3, .int 114), (4, .int 0), (5, .int 0)]) B dX12_pack_52 (Nat.le_of_ble_eq_true rfl) rfl ?_
  refine z_iload B dX12_pack_54 5 rfl ?_
  refine z_if_ne (tgt := 64) B dX12_pack_56 rfl (fun h9 => absurd (by decide) h9) (fun c_2 => ?_)
  refine z_lload B dX12_pack_59 0 rfl ?_
  refine z_goto (tgt := 78) B dX12_pack_61 rfl ?_
  refine z_lstore (lv' := [(6, .long 595154), (0, .int 114), (1, .int 101), (2, .int 102), (3, .int 114), (4, .int 0), (5, .int 0)]) B dX12_pack_78 (Nat.le_of_ble_eq_true rfl) rfl ?_
  refine z_iload B dX12_pack_80 6 rfl ?_
  refine z_if_ne (tgt := 90) B dX12_pack_82 rfl (fun h9 => absurd (by decide) h9) (fun c_3 => ?_)
  refine z_lload B dX12_pack_85 0 rfl ?_
  refine z_goto (tgt := 104) B dX12_pack_87 rfl ?_
  exact z_ret_l B dX12_pack_104 ⟨rfl, rfl, hI, (fun b9 h9 => rfl)⟩

set_option maxHeartbeats 4000000 in
set_option maxRecDepth 100000 in
theorem r_pack_115_97_109_112_108_0 (G : EnvG) (l : Launch) (Φ : Hm) (sz x : Nat) (rd : (Nat → Int32) → Prop) (nw : (Nat → Int32) → Prop) (cr : (Nat → Int64) → Prop) (tp : (Nat → Int32) → Prop) (tt : (Nat → Int64) → Prop) (sI : (Nat → Int32) → Prop) (sT : (Nat → Int32) → Prop) (pt : (Nat → Int32) → Prop) (ql : (Nat → Int32) → Prop) (fl : Nat) (pe : Nat) (le : Nat) (nx : Nat) (il : Nat) (qu : Nat) (kn : Int32) (ec : Int32) (nu : Int32) (va : Int64) (st : Nat) (ep : Int32) (ti : Int32) (ad : Int32) (ob : Int64) (ra : Int32) (rt : Nat) (ex : Int32) (sa : Int64) (us : Int64) (tk : Nat) (th : Int32) (me : Int32) (dr : Int32) (se : Int64) (sn : Int64)  (hx : G.2.2.2 ≤ x) (hI : Im G x (rd, nw, cr, tp, tt, sI, sT, pt, ql, fl, pe, le, nx, il, qu, kn, ec, nu, va, st, ep, ti, ad, ob, ra, rt, ex, sa, us, tk, th, me, dr, se, sn) Φ) (hnw : ∀ f9 : Nat → Int32, nw f9 → NN f9) : Ct G l yX12_pack wsX12_pack ({ frames := 0, cells := 0, slots := 0, locals := 0 }) 0 0 [.int 115, .int 97, .int 109, .int 112, .int 108, .int 0] Φ sz (fun v Φ1 sz1 => (v = some (.long 19969548)) ∧ sz1 = sz ∧ (Im G x (rd, nw, cr, tp, tt, sI, sT, pt, ql, fl, pe, le, nx, il, qu, kn, ec, nu, va, st, ep, ti, ad, ob, ra, rt, ex, sa, us, tk, th, me, dr, se, sn) Φ1) ∧ Fr x (fun j9 => False) Φ Φ1) := by
  refine Ct.of (cc := cX12_pack) (maxL := 8) (ret := (some .long)) (by decide) rfl (Nat.le_of_ble_eq_true rfl) ?_
  intro p9 e9 s9 m9 w9 t9 k9 B
  show Z p9 l e9 _ s9 m9 _ w9 t9 k9 _ G 8 0 [(0, .int 115), (1, .int 97), (2, .int 109), (3, .int 112), (4, .int 108), (5, .int 0)] [] Φ sz 0 0
  refine z_iload_n B dX12_pack_0 rfl 0 rfl ?_
  refine z_i2l (v := 115) B dX12_pack_1 (by decide +kernel) ?_
  refine z_ldc2 (v := 96) B (by decide +kernel) dX12_pack_2 ?_
  refine z_lsub B dX12_pack_5 ?_
  refine z_top (st1 := [.long 19]) (congrArg (fun w9 : Int64 => ([.long w9] : List Value)) (show (115 - 96 : Int64) = 19 by decide +kernel)) ?_
  refine z_ldc2 (v := 32) B (by decide +kernel) dX12_pack_6 ?_
  refine z_lmul B dX12_pack_9 ?_
  refine z_top (st1 := [.long 608]) (congrArg (fun w9 : Int64 => ([.long w9] : List Value)) (show (19 * 32 : Int64) = 608 by decide +kernel)) ?_
  refine z_iload_n B dX12_pack_10 rfl 1 rfl ?_
  refine z_i2l (v := 97) B dX12_pack_11 (by decide +kernel) ?_
  refine z_ladd B dX12_pack_12 ?_
  refine z_top (st1 := [.long 705]) (congrArg (fun w9 : Int64 => ([.long w9] : List Value)) (show (608 + 97 : Int64) = 705 by decide +kernel)) ?_
  refine z_ldc2 (v := 96) B (by decide +kernel) dX12_pack_13 ?_
  refine z_lsub B dX12_pack_16 ?_
  refine z_top (st1 := [.long 609]) (congrArg (fun w9 : Int64 => ([.long w9] : List Value)) (show (705 - 96 : Int64) = 609 by decide +kernel)) ?_
  refine z_ldc2 (v := 32) B (by decide +kernel) dX12_pack_17 ?_
  refine z_lmul B dX12_pack_20 ?_
  refine z_top (st1 := [.long 19488]) (congrArg (fun w9 : Int64 => ([.long w9] : List Value)) (show (609 * 32 : Int64) = 19488 by decide +kernel)) ?_
  refine z_iload_n B dX12_pack_21 rfl 2 rfl ?_
  refine z_i2l (v := 109) B dX12_pack_22 (by decide +kernel) ?_
  refine z_ladd B dX12_pack_23 ?_
  refine z_top (st1 := [.long 19597]) (congrArg (fun w9 : Int64 => ([.long w9] : List Value)) (show (19488 + 109 : Int64) = 19597 by decide +kernel)) ?_
  refine z_ldc2 (v := 96) B (by decide +kernel) dX12_pack_24 ?_
  refine z_lsub B dX12_pack_27 ?_
  refine z_top (st1 := [.long 19501]) (congrArg (fun w9 : Int64 => ([.long w9] : List Value)) (show (19597 - 96 : Int64) = 19501 by decide +kernel)) ?_
  refine z_lstore (lv' := [(6, .long 19501), (0, .int 115), (1, .int 97), (2, .int 109), (3, .int 112), (4, .int 108), (5, .int 0)]) B dX12_pack_28 (Nat.le_of_ble_eq_true rfl) rfl ?_
  refine z_iload_n B dX12_pack_30 rfl 4 rfl ?_
  refine z_if_ne (tgt := 39) B dX12_pack_31 rfl (fun c_1 => ?_) (fun h9 => absurd h9 (by decide))
  refine z_lload B dX12_pack_39 0 rfl ?_
  refine z_ldc2 (v := 32) B (by decide +kernel) dX12_pack_41 ?_
  refine z_lmul B dX12_pack_44 ?_
  refine z_top (st1 := [.long 624032]) (congrArg (fun w9 : Int64 => ([.long w9] : List Value)) (show (19501 * 32 : Int64) = 624032 by decide +kernel)) ?_
  refine z_iload_n B dX12_pack_45 rfl 4 rfl ?_
  refine z_i2l (v := 112) B dX12_pack_46 (by decide +kernel) ?_
  refine z_ladd B dX12_pack_47 ?_
  refine z_top (st1 := [.long 624144]) (congrArg (fun w9 : Int64 => ([.long w9] : List Value)) (show (624032 + 112 : Int64) = 624144 by decide +kernel)) ?_
  refine z_ldc2 (v := 96) B (by decide +kernel) dX12_pack_48 ?_
  refine z_lsub B dX12_pack_51 ?_
  refine z_top (st1 := [.long 624048]) (congrArg (fun w9 : Int64 => ([.long w9] : List Value)) (show (624144 - 96 : Int64) = 624048 by decide +kernel)) ?_
  refine z_lstore (lv' := [(6, .long 624048), (0, .int 115), (1, .int 97), (2, .int 109), (3, .int 112), (4, .int 108), (5, .int 0)]) B dX12_pack_52 (Nat.le_of_ble_eq_true rfl) rfl ?_
  refine z_iload B dX12_pack_54 5 rfl ?_
  refine z_if_ne (tgt := 64) B dX12_pack_56 rfl (fun c_2 => ?_) (fun h9 => absurd h9 (by decide))
  refine z_lload B dX12_pack_64 0 rfl ?_
  refine z_ldc2 (v := 32) B (by decide +kernel) dX12_pack_66 ?_
  refine z_lmul B dX12_pack_69 ?_
  refine z_top (st1 := [.long 19969536]) (congrArg (fun w9 : Int64 => ([.long w9] : List Value)) (show (624048 * 32 : Int64) = 19969536 by decide +kernel)) ?_
  refine z_iload B dX12_pack_70 5 rfl ?_
  refine z_i2l (v := 108) B dX12_pack_72 (by decide +kernel) ?_
  refine z_ladd B dX12_pack_73 ?_
  refine z_top (st1 := [.long 19969644]) (congrArg (fun w9 : Int64 => ([.long w9] : List Value)) (show (19969536 + 108 : Int64) = 19969644 by decide +kernel)) ?_
  refine z_ldc2 (v := 96) B (by decide +kernel) dX12_pack_74 ?_
  refine z_lsub B dX12_pack_77 ?_
  refine z_top (st1 := [.long 19969548]) (congrArg (fun w9 : Int64 => ([.long w9] : List Value)) (show (19969644 - 96 : Int64) = 19969548 by decide +kernel)) ?_
  refine z_lstore (lv' := [(6, .long 19969548), (0, .int 115), (1, .int 97), (2, .int 109), (3, .int 112), (4, .int 108), (5, .int 0)]) B dX12_pack_78 (Nat.le_of_ble_eq_true rfl) rfl ?_
  refine z_iload B dX12_pack_80 6 rfl ?_
  refine z_if_ne (tgt := 90) B dX12_pack_82 rfl (fun h9 => absurd (by decide) h9) (fun c_3 => ?_)
  refine z_lload B dX12_pack_85 0 rfl ?_
  refine z_goto (tgt := 104) B dX12_pack_87 rfl ?_
  exact z_ret_l B dX12_pack_104 ⟨rfl, rfl, hI, (fun b9 h9 => rfl)⟩

set_option maxHeartbeats 4000000 in
set_option maxRecDepth 100000 in
theorem r_pack_115_111_117_114_99_101 (G : EnvG) (l : Launch) (Φ : Hm) (sz x : Nat) (rd : (Nat → Int32) → Prop) (nw : (Nat → Int32) → Prop) (cr : (Nat → Int64) → Prop) (tp : (Nat → Int32) → Prop) (tt : (Nat → Int64) → Prop) (sI : (Nat → Int32) → Prop) (sT : (Nat → Int32) → Prop) (pt : (Nat → Int32) → Prop) (ql : (Nat → Int32) → Prop) (fl : Nat) (pe : Nat) (le : Nat) (nx : Nat) (il : Nat) (qu : Nat) (kn : Int32) (ec : Int32) (nu : Int32) (va : Int64) (st : Nat) (ep : Int32) (ti : Int32) (ad : Int32) (ob : Int64) (ra : Int32) (rt : Nat) (ex : Int32) (sa : Int64) (us : Int64) (tk : Nat) (th : Int32) (me : Int32) (dr : Int32) (se : Int64) (sn : Int64)  (hx : G.2.2.2 ≤ x) (hI : Im G x (rd, nw, cr, tp, tt, sI, sT, pt, ql, fl, pe, le, nx, il, qu, kn, ec, nu, va, st, ep, ti, ad, ob, ra, rt, ex, sa, us, tk, th, me, dr, se, sn) Φ) (hnw : ∀ f9 : Nat → Int32, nw f9 → NN f9) : Ct G l yX12_pack wsX12_pack ({ frames := 0, cells := 0, slots := 0, locals := 0 }) 0 0 [.int 115, .int 111, .int 117, .int 114, .int 99, .int 101] Φ sz (fun v Φ1 sz1 => (v = some (.long 653969509)) ∧ sz1 = sz ∧ (Im G x (rd, nw, cr, tp, tt, sI, sT, pt, ql, fl, pe, le, nx, il, qu, kn, ec, nu, va, st, ep, ti, ad, ob, ra, rt, ex, sa, us, tk, th, me, dr, se, sn) Φ1) ∧ Fr x (fun j9 => False) Φ Φ1) := by
  refine Ct.of (cc := cX12_pack) (maxL := 8) (ret := (some .long)) (by decide) rfl (Nat.le_of_ble_eq_true rfl) ?_
  intro p9 e9 s9 m9 w9 t9 k9 B
  show Z p9 l e9 _ s9 m9 _ w9 t9 k9 _ G 8 0 [(0, .int 115), (1, .int 111), (2, .int 117), (3, .int 114), (4, .int 99), (5, .int 101)] [] Φ sz 0 0
  refine z_iload_n B dX12_pack_0 rfl 0 rfl ?_
  refine z_i2l (v := 115) B dX12_pack_1 (by decide +kernel) ?_
  refine z_ldc2 (v := 96) B (by decide +kernel) dX12_pack_2 ?_
  refine z_lsub B dX12_pack_5 ?_
  refine z_top (st1 := [.long 19]) (congrArg (fun w9 : Int64 => ([.long w9] : List Value)) (show (115 - 96 : Int64) = 19 by decide +kernel)) ?_
  refine z_ldc2 (v := 32) B (by decide +kernel) dX12_pack_6 ?_
  refine z_lmul B dX12_pack_9 ?_
  refine z_top (st1 := [.long 608]) (congrArg (fun w9 : Int64 => ([.long w9] : List Value)) (show (19 * 32 : Int64) = 608 by decide +kernel)) ?_
  refine z_iload_n B dX12_pack_10 rfl 1 rfl ?_
  refine z_i2l (v := 111) B dX12_pack_11 (by decide +kernel) ?_
  refine z_ladd B dX12_pack_12 ?_
  refine z_top (st1 := [.long 719]) (congrArg (fun w9 : Int64 => ([.long w9] : List Value)) (show (608 + 111 : Int64) = 719 by decide +kernel)) ?_
  refine z_ldc2 (v := 96) B (by decide +kernel) dX12_pack_13 ?_
  refine z_lsub B dX12_pack_16 ?_
  refine z_top (st1 := [.long 623]) (congrArg (fun w9 : Int64 => ([.long w9] : List Value)) (show (719 - 96 : Int64) = 623 by decide +kernel)) ?_
  refine z_ldc2 (v := 32) B (by decide +kernel) dX12_pack_17 ?_
  refine z_lmul B dX12_pack_20 ?_
  refine z_top (st1 := [.long 19936]) (congrArg (fun w9 : Int64 => ([.long w9] : List Value)) (show (623 * 32 : Int64) = 19936 by decide +kernel)) ?_
  refine z_iload_n B dX12_pack_21 rfl 2 rfl ?_
  refine z_i2l (v := 117) B dX12_pack_22 (by decide +kernel) ?_
  refine z_ladd B dX12_pack_23 ?_
  refine z_top (st1 := [.long 20053]) (congrArg (fun w9 : Int64 => ([.long w9] : List Value)) (show (19936 + 117 : Int64) = 20053 by decide +kernel)) ?_
  refine z_ldc2 (v := 96) B (by decide +kernel) dX12_pack_24 ?_
  refine z_lsub B dX12_pack_27 ?_
  refine z_top (st1 := [.long 19957]) (congrArg (fun w9 : Int64 => ([.long w9] : List Value)) (show (20053 - 96 : Int64) = 19957 by decide +kernel)) ?_
  refine z_lstore (lv' := [(6, .long 19957), (0, .int 115), (1, .int 111), (2, .int 117), (3, .int 114), (4, .int 99), (5, .int 101)]) B dX12_pack_28 (Nat.le_of_ble_eq_true rfl) rfl ?_
  refine z_iload_n B dX12_pack_30 rfl 4 rfl ?_
  refine z_if_ne (tgt := 39) B dX12_pack_31 rfl (fun c_1 => ?_) (fun h9 => absurd h9 (by decide))
  refine z_lload B dX12_pack_39 0 rfl ?_
  refine z_ldc2 (v := 32) B (by decide +kernel) dX12_pack_41 ?_
  refine z_lmul B dX12_pack_44 ?_
  refine z_top (st1 := [.long 638624]) (congrArg (fun w9 : Int64 => ([.long w9] : List Value)) (show (19957 * 32 : Int64) = 638624 by decide +kernel)) ?_
  refine z_iload_n B dX12_pack_45 rfl 4 rfl ?_
  refine z_i2l (v := 114) B dX12_pack_46 (by decide +kernel) ?_
  refine z_ladd B dX12_pack_47 ?_
  refine z_top (st1 := [.long 638738]) (congrArg (fun w9 : Int64 => ([.long w9] : List Value)) (show (638624 + 114 : Int64) = 638738 by decide +kernel)) ?_
  refine z_ldc2 (v := 96) B (by decide +kernel) dX12_pack_48 ?_
  refine z_lsub B dX12_pack_51 ?_
  refine z_top (st1 := [.long 638642]) (congrArg (fun w9 : Int64 => ([.long w9] : List Value)) (show (638738 - 96 : Int64) = 638642 by decide +kernel)) ?_
  refine z_lstore (lv' := [(6, .long 638642), (0, .int 115), (1, .int 111), (2, .int 117), (3, .int 114), (4, .int 99), (5, .int 101)]) B dX12_pack_52 (Nat.le_of_ble_eq_true rfl) rfl ?_
  refine z_iload B dX12_pack_54 5 rfl ?_
  refine z_if_ne (tgt := 64) B dX12_pack_56 rfl (fun c_2 => ?_) (fun h9 => absurd h9 (by decide))
  refine z_lload B dX12_pack_64 0 rfl ?_
  refine z_ldc2 (v := 32) B (by decide +kernel) dX12_pack_66 ?_
  refine z_lmul B dX12_pack_69 ?_
  refine z_top (st1 := [.long 20436544]) (congrArg (fun w9 : Int64 => ([.long w9] : List Value)) (show (638642 * 32 : Int64) = 20436544 by decide +kernel)) ?_
  refine z_iload B dX12_pack_70 5 rfl ?_
  refine z_i2l (v := 99) B dX12_pack_72 (by decide +kernel) ?_
  refine z_ladd B dX12_pack_73 ?_
  refine z_top (st1 := [.long 20436643]) (congrArg (fun w9 : Int64 => ([.long w9] : List Value)) (show (20436544 + 99 : Int64) = 20436643 by decide +kernel)) ?_
  refine z_ldc2 (v := 96) B (by decide +kernel) dX12_pack_74 ?_
  refine z_lsub B dX12_pack_77 ?_
  refine z_top (st1 := [.long 20436547]) (congrArg (fun w9 : Int64 => ([.long w9] : List Value)) (show (20436643 - 96 : Int64) = 20436547 by decide +kernel)) ?_
  refine z_lstore (lv' := [(6, .long 20436547), (0, .int 115), (1, .int 111), (2, .int 117), (3, .int 114), (4, .int 99), (5, .int 101)]) B dX12_pack_78 (Nat.le_of_ble_eq_true rfl) rfl ?_
  refine z_iload B dX12_pack_80 6 rfl ?_
  refine z_if_ne (tgt := 90) B dX12_pack_82 rfl (fun c_3 => ?_) (fun h9 => absurd h9 (by decide))
  refine z_lload B dX12_pack_90 0 rfl ?_
  refine z_ldc2 (v := 32) B (by decide +kernel) dX12_pack_92 ?_
  refine z_lmul B dX12_pack_95 ?_
  refine z_top (st1 := [.long 653969504]) (congrArg (fun w9 : Int64 => ([.long w9] : List Value)) (show (20436547 * 32 : Int64) = 653969504 by decide +kernel)) ?_
  refine z_iload B dX12_pack_96 6 rfl ?_
  refine z_i2l (v := 101) B dX12_pack_98 (by decide +kernel) ?_
  refine z_ladd B dX12_pack_99 ?_
  refine z_top (st1 := [.long 653969605]) (congrArg (fun w9 : Int64 => ([.long w9] : List Value)) (show (653969504 + 101 : Int64) = 653969605 by decide +kernel)) ?_
  refine z_ldc2 (v := 96) B (by decide +kernel) dX12_pack_100 ?_
  refine z_lsub B dX12_pack_103 ?_
  refine z_top (st1 := [.long 653969509]) (congrArg (fun w9 : Int64 => ([.long w9] : List Value)) (show (653969605 - 96 : Int64) = 653969509 by decide +kernel)) ?_
  exact z_ret_l B dX12_pack_104 ⟨rfl, rfl, hI, (fun b9 h9 => rfl)⟩

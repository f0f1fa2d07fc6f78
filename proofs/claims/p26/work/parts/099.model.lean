set_option maxHeartbeats 4000000 in
set_option maxRecDepth 100000 in
theorem r_pack_116_101_109_112_108_0 (G : EnvG) (l : Launch) (Φ : Hm) (sz x : Nat) (rd : (Nat → Int32) → Prop) (nw : (Nat → Int32) → Prop) (cr : (Nat → Int64) → Prop) (tp : (Nat → Int32) → Prop) (tt : (Nat → Int64) → Prop) (sI : (Nat → Int32) → Prop) (sT : (Nat → Int32) → Prop) (pt : (Nat → Int32) → Prop) (ql : (Nat → Int32) → Prop) (fl : Nat) (pe : Nat) (le : Nat) (nx : Nat) (il : Nat) (qu : Nat) (kn : Int32) (ec : Int32) (nu : Int32) (va : Int64) (st : Nat) (ep : Int32) (ti : Int32) (ad : Int32) (ob : Int64) (ra : Int32) (rt : Nat) (ex : Int32) (sa : Int64) (us : Int64) (tk : Nat) (th : Int32) (me : Int32) (dr : Int32) (se : Int64) (sn : Int64)  (hx : G.2.2.2 ≤ x) (hI : Im G x (rd, nw, cr, tp, tt, sI, sT, pt, ql, fl, pe, le, nx, il, qu, kn, ec, nu, va, st, ep, ti, ad, ob, ra, rt, ex, sa, us, tk, th, me, dr, se, sn) Φ) (hnw : ∀ f9 : Nat → Int32, nw f9 → NN f9) : Ct G l yX12_pack wsX12_pack ({ frames := 0, cells := 0, slots := 0, locals := 0 }) 0 0 [.int 116, .int 101, .int 109, .int 112, .int 108, .int 0] Φ sz (fun v Φ1 sz1 => (v = some (.long 21149196)) ∧ sz1 = sz ∧ (Im G x (rd, nw, cr, tp, tt, sI, sT, pt, ql, fl, pe, le, nx, il, qu, kn, ec, nu, va, st, ep, ti, ad, ob, ra, rt, ex, sa, us, tk, th, me, dr, se, sn) Φ1) ∧ Fr x (fun j9 => False) Φ Φ1) := by
  refine Ct.of (cc := cX12_pack) (maxL := 8) (ret := (some .long)) (by decide) rfl (Nat.le_of_ble_eq_true rfl) ?_
  intro p9 e9 s9 m9 w9 t9 k9 B
  show Z p9 l e9 _ s9 m9 _ w9 t9 k9 _ G 8 0 [(0, .int 116), (1, .int 101), (2, .int 109), (3, .int 112), (4, .int 108), (5, .int 0)] [] Φ sz 0 0
  refine z_iload_n B dX12_pack_0 rfl 0 rfl ?_
  refine z_i2l (v := 116) B dX12_pack_1 (by decide +kernel) ?_
  refine z_ldc2 (v := 96) B (by decide +kernel) dX12_pack_2 ?_
  refine z_lsub B dX12_pack_5 ?_
  refine z_top (st1 := [.long 20]) (congrArg (fun w9 : Int64 => ([.long w9] : List Value)) (show (116 - 96 : Int64) = 20 by decide +kernel)) ?_
  refine z_ldc2 (v := 32) B (by decide +kernel) dX12_pack_6 ?_
  refine z_lmul B dX12_pack_9 ?_
  refine z_top (st1 := [.long 640]) (congrArg (fun w9 : Int64 => ([.long w9] : List Value)) (show (20 * 32 : Int64) = 640 by decide +kernel)) ?_
  refine z_iload_n B dX12_pack_10 rfl 1 rfl ?_
  refine z_i2l (v := 101) B dX12_pack_11 (by decide +kernel) ?_
  refine z_ladd B dX12_pack_12 ?_
  refine z_top (st1 := [.long 741]) (congrArg (fun w9 : Int64 => ([.long w9] : List Value)) (show (640 + 101 : Int64) = 741 by decide +kernel)) ?_
  refine z_ldc2 (v := 96) B (by decide +kernel) dX12_pack_13 ?_
  refine z_lsub B dX12_pack_16 ?_
  refine z_top (st1 := [.long 645]) (congrArg (fun w9 : Int64 => ([.long w9] : List Value)) (show (741 - 96 : Int64) = 645 by decide +kernel)) ?_
  refine z_ldc2 (v := 32) B (by decide +kernel) dX12_pack_17 ?_
  refine z_lmul B dX12_pack_20 ?_
  refine z_top (st1 := [.long 20640]) (congrArg (fun w9 : Int64 => ([.long w9] : List Value)) (show (645 * 32 : Int64) = 20640 by decide +kernel)) ?_
  refine z_iload_n B dX12_pack_21 rfl 2 rfl ?_
  refine z_i2l (v := 109) B dX12_pack_22 (by decide +kernel) ?_
  refine z_ladd B dX12_pack_23 ?_
  refine z_top (st1 := [.long 20749]) (congrArg (fun w9 : Int64 => ([.long w9] : List Value)) (show (20640 + 109 : Int64) = 20749 by decide +kernel)) ?_
  refine z_ldc2 (v := 96) B (by decide +kernel) dX12_pack_24 ?_
  refine z_lsub B dX12_pack_27 ?_
  refine z_top (st1 := [.long 20653]) (congrArg (fun w9 : Int64 => ([.long w9] : List Value)) (show (20749 - 96 : Int64) = 20653 by decide +kernel)) ?_
  refine z_lstore (lv' := [(6, .long 20653), (0, .int 116), (1, .int 101), (2, .int 109), (3, .int 112), (4, .int 108), (5, .int 0)]) B dX12_pack_28 (Nat.le_of_ble_eq_true rfl) rfl ?_
  refine z_iload_n B dX12_pack_30 rfl 4 rfl ?_
  refine z_if_ne (tgt := 39) B dX12_pack_31 rfl (fun c_1 => ?_) (fun h9 => absurd h9 (by decide))
  refine z_lload B dX12_pack_39 0 rfl ?_
  refine z_ldc2 (v := 32) B (by decide +kernel) dX12_pack_41 ?_
  refine z_lmul B dX12_pack_44 ?_
  refine z_top (st1 := [.long 660896]) (congrArg (fun w9 : Int64 => ([.long w9] : List Value)) (show (20653 * 32 : Int64) = 660896 by decide +kernel)) ?_
  refine z_iload_n B dX12_pack_45 rfl 4 rfl ?_
  refine z_i2l (v := 112) B dX12_pack_46 (by decide +kernel) ?_
  refine z_ladd B dX12_pack_47 ?_
  refine z_top (st1 := [.long 661008]) (congrArg (fun w9 : Int64 => ([.long w9] : List Value)) (show (660896 + 112 : Int64) = 661008 by decide +kernel)) ?_
  refine z_ldc2 (v := 96) B (by decide +kernel) dX12_pack_48 ?_
  refine z_lsub B dX12_pack_51 ?_
  refine z_top (st1 := [.long 660912]) (congrArg (fun w9 : Int64 => ([.long w9] : List Value)) (show (661008 - 96 : Int64) = 660912 by decide +kernel)) ?_
  refine z_lstore (lv' := [(6, .long 660912), (0, .int 116), (1, .int 101), (2, .int 109), (3, .int 112), (4, .int 108), (5, .int 0)]) B dX12_pack_52 (Nat.le_of_ble_eq_true rfl) rfl ?_
  refine z_iload B dX12_pack_54 5 rfl ?_
  refine z_if_ne (tgt := 64) B dX12_pack_56 rfl (fun c_2 => ?_) (fun h9 => absurd h9 (by decide))
  refine z_lload B dX12_pack_64 0 rfl ?_
  refine z_ldc2 (v := 32) B (by decide +kernel) dX12_pack_66 ?_
  refine z_lmul B dX12_pack_69 ?_
  refine z_top (st1 := [.long 21149184]) (congrArg (fun w9 : Int64 => ([.long w9] : List Value)) (show (660912 * 32 : Int64) = 21149184 by decide +kernel)) ?_
  refine z_iload B dX12_pack_70 5 rfl ?_
  refine z_i2l (v := 108) B dX12_pack_72 (by decide +kernel) ?_
  refine z_ladd B dX12_pack_73 ?_
  refine z_top (st1 := [.long 21149292]) (congrArg (fun w9 : Int64 => ([.long w9] : List Value)) (show (21149184 + 108 : Int64) = 21149292 by decide +kernel)) ?_
  refine z_ldc2 (v := 96) B (by decide +kernel) dX12_pack_74 ?_
  refine z_lsub B dX12_pack_77 ?_
  refine z_top (st1 := [.long 21149196]) (congrArg (fun w9 : Int64 => ([.long w9] : List Value)) (show (21149292 - 96 : Int64) = 21149196 by decide +kernel)) ?_
  refine z_lstore (lv' := [(6, .long 21149196), (0, .int 116), (1, .int 101), (2, .int 109), (3, .int 112), (4, .int 108), (5, .int 0)]) B dX12_pack_78 (Nat.le_of_ble_eq_true rfl) rfl ?_
  refine z_iload B dX12_pack_80 6 rfl ?_
  refine z_if_ne (tgt := 90) B dX12_pack_82 rfl (fun h9 => absurd (by decide) h9) (fun c_3 => ?_)
  refine z_lload B dX12_pack_85 0 rfl ?_
  refine z_goto (tgt := 104) B dX12_pack_87 rfl ?_
  exact z_ret_l B dX12_pack_104 ⟨rfl, rfl, hI, (fun b9 h9 => rfl)⟩

set_option maxHeartbeats 4000000 in
set_option maxRecDepth 100000 in
theorem r_pack_117_115_101_0_0_0 (G : EnvG) (l : Launch) (Φ : Hm) (sz x : Nat) (rd : (Nat → Int32) → Prop) (nw : (Nat → Int32) → Prop) (cr : (Nat → Int64) → Prop) (tp : (Nat → Int32) → Prop) (tt : (Nat → Int64) → Prop) (sI : (Nat → Int32) → Prop) (sT : (Nat → Int32) → Prop) (pt : (Nat → Int32) → Prop) (ql : (Nat → Int32) → Prop) (fl : Nat) (pe : Nat) (le : Nat) (nx : Nat) (il : Nat) (qu : Nat) (kn : Int32) (ec : Int32) (nu : Int32) (va : Int64) (st : Nat) (ep : Int32) (ti : Int32) (ad : Int32) (ob : Int64) (ra : Int32) (rt : Nat) (ex : Int32) (sa : Int64) (us : Int64) (tk : Nat) (th : Int32) (me : Int32) (dr : Int32) (se : Int64) (sn : Int64)  (hx : G.2.2.2 ≤ x) (hI : Im G x (rd, nw, cr, tp, tt, sI, sT, pt, ql, fl, pe, le, nx, il, qu, kn, ec, nu, va, st, ep, ti, ad, ob, ra, rt, ex, sa, us, tk, th, me, dr, se, sn) Φ) (hnw : ∀ f9 : Nat → Int32, nw f9 → NN f9) : Ct G l yX12_pack wsX12_pack ({ frames := 0, cells := 0, slots := 0, locals := 0 }) 0 0 [.int 117, .int 115, .int 101, .int 0, .int 0, .int 0] Φ sz (fun v Φ1 sz1 => (v = some (.long 22117)) ∧ sz1 = sz ∧ (Im G x (rd, nw, cr, tp, tt, sI, sT, pt, ql, fl, pe, le, nx, il, qu, kn, ec, nu, va, st, ep, ti, ad, ob, ra, rt, ex, sa, us, tk, th, me, dr, se, sn) Φ1) ∧ Fr x (fun j9 => False) Φ Φ1) := by
  refine Ct.of (cc := cX12_pack) (maxL := 8) (ret := (some .long)) (by decide) rfl (Nat.le_of_ble_eq_true rfl) ?_
  intro p9 e9 s9 m9 w9 t9 k9 B
  show Z p9 l e9 _ s9 m9 _ w9 t9 k9 _ G 8 0 [(0, .int 117), (1, .int 115), (2, .int 101), (3, .int 0), (4, .int 0), (5, .int 0)] [] Φ sz 0 0
  refine z_iload_n B dX12_pack_0 rfl 0 rfl ?_
  refine z_i2l (v := 117) B dX12_pack_1 (by decide +kernel) ?_
  refine z_ldc2 (v := 96) B (by decide +kernel) dX12_pack_2 ?_
  refine z_lsub B dX12_pack_5 ?_
  refine z_top (st1 := [.long 21]) (congrArg (fun w9 : Int64 => ([.long w9] : List Value)) (show (117 - 96 : Int64) = 21 by decide +kernel)) ?_
  refine z_ldc2 (v := 32) B (by decide +kernel) dX12_pack_6 ?_
  refine z_lmul B dX12_pack_9 ?_
  refine z_top (st1 := [.long 672]) (congrArg (fun w9 : Int64 => ([.long w9] : List Value)) (show (21 * 32 : Int64) = 672 by decide +kernel)) ?_
  refine z_iload_n B dX12_pack_10 rfl 1 rfl ?_
  refine z_i2l (v := 115) B dX12_pack_11 (by decide +kernel) ?_
  refine z_ladd B dX12_pack_12 ?_
  refine z_top (st1 := [.long 787]) (congrArg (fun w9 : Int64 => ([.long w9] : List Value)) (show (672 + 115 : Int64) = 787 by decide +kernel)) ?_
  refine z_ldc2 (v := 96) B (by decide +kernel) dX12_pack_13 ?_
  refine z_lsub B dX12_pack_16 ?_
  refine z_top (st1 := [.long 691]) (congrArg (fun w9 : Int64 => ([.long w9] : List Value)) (show (787 - 96 : Int64) = 691 by decide +kernel)) ?_
  refine z_ldc2 (v := 32) B (by decide +kernel) dX12_pack_17 ?_
  refine z_lmul B dX12_pack_20 ?_
  refine z_top (st1 := [.long 22112]) (congrArg (fun w9 : Int64 => ([.long w9] : List Value)) (show (691 * 32 : Int64) = 22112 by decide +kernel)) ?_
  refine z_iload_n B dX12_pack_21 rfl 2 rfl ?_
  refine z_i2l (v := 101) B dX12_pack_22 (by decide +kernel) ?_
  refine z_ladd B dX12_pack_23 ?_
  refine z_top (st1 := [.long 22213]) (congrArg (fun w9 : Int64 => ([.long w9] : List Value)) (show (22112 + 101 : Int64) = 22213 by decide +kernel)) ?_
  refine z_ldc2 (v := 96) B (by decide +kernel) dX12_pack_24 ?_
  refine z_lsub B dX12_pack_27 ?_
  refine z_top (st1 := [.long 22117]) (congrArg (fun w9 : Int64 => ([.long w9] : List Value)) (show (22213 - 96 : Int64) = 22117 by decide +kernel)) ?_
  refine z_lstore (lv' := [(6, .long 22117), (0, .int 117), (1, .int 115), (2, .int 101), (3, .int 0), (4, .int 0), (5, .int 0)]) B dX12_pack_28 (Nat.le_of_ble_eq_true rfl) rfl ?_
  refine z_iload_n B dX12_pack_30 rfl 4 rfl ?_
  refine z_if_ne (tgt := 39) B dX12_pack_31 rfl (fun h9 => absurd (by decide) h9) (fun c_1 => ?_)
  refine z_lload B dX12_pack_34 0 rfl ?_
  refine z_goto (tgt := 52) B dX12_pack_36 rfl ?_
  refine z_lstore (lv' := [(6, .long 22117), (0, .int 117), (1, .int 115), (2, .int 101), (3, .int 0), (4, .int 0), (5, .int 0)]) B dX12_pack_52 (Nat.le_of_ble_eq_true rfl) rfl ?_
  refine z_iload B dX12_pack_54 5 rfl ?_
  refine z_if_ne (tgt := 64) B dX12_pack_56 rfl (fun h9 => absurd (by decide) h9) (fun c_2 => ?_)
  refine z_lload B dX12_pack_59 0 rfl ?_
  refine z_goto (tgt := 78) B dX12_pack_61 rfl ?_
  refine z_lstore (lv' := [(6, .long 22117), (0, .int 117), (1, .int 115), (2, .int 101), (3, .int 0), (4, .int 0), (5, .int 0)]) B dX12_pack_78 (Nat.le_of_ble_eq_true rfl) rfl ?_
  refine z_iload B dX12_pack_80 6 rfl ?_
  refine z_if_ne (tgt := 90) B dX12_pack_82 rfl (fun h9 => absurd (by decide) h9) (fun c_3 => ?_)
  refine z_lload B dX12_pack_85 0 rfl ?_
  refine z_goto (tgt := 104) B dX12_pack_87 rfl ?_
  exact z_ret_l B dX12_pack_104 ⟨rfl, rfl, hI, (fun b9 h9 => rfl)⟩

noncomputable def fHf (kn : Int32) (va : Int64) : Int32 := if kn = 1 then (if va = 653969509 then 0 else if va = 4701109538661870 then 1 else if va = 540244 then 2 else if va = 569607949804 then 3 else if va = 17216935571 then 4 else if va = 2937011 then 5 else if va = 6605428 then 6 else if va = 394868 then 7 else if va = 591493 then 8 else -1) else -1
/-- the field at hand is the word at hand -/
theorem fH_eq {f : Nat → Int32} {n p st nx : Nat} {kn : Int32} {va : Int64} (h : TkR (bA f n) p kn st nx va) (hp : p ≤ n) : ∃ k, Tk (bA f n) p k st nx ∧ fHf kn va = wd fdW (bA f n) k st nx ∧ ¬ k = 1 ∧ kn = kR k := by
  obtain ⟨k, h1, h2, h3, h4, h5, h6⟩ := TkR_k h hp
  refine ⟨k, h1, ?_, h3, h2⟩
  by_cases hk : k = 2
  · subst hk
    have hva := h5 rfl
    have h0 : kn = 1 := h2
    unfold fHf
    rw [if_pos h0]
    by_cases g0 : va = 653969509
    · rw [if_pos g0]
      exact (fd_hit (i := 0) h1 hp hva (by decide) (g0.trans (by decide +kernel))).symm
    rw [if_neg g0]
    by_cases g1 : va = 4701109538661870
    · rw [if_pos g1]
      exact (fd_hit (i := 1) h1 hp hva (by decide) (g1.trans (by decide +kernel))).symm
    rw [if_neg g1]
    by_cases g2 : va = 540244
    · rw [if_pos g2]
      exact (fd_hit (i := 2) h1 hp hva (by decide) (g2.trans (by decide +kernel))).symm
    rw [if_neg g2]
    by_cases g3 : va = 569607949804
    · rw [if_pos g3]
      exact (fd_hit (i := 3) h1 hp hva (by decide) (g3.trans (by decide +kernel))).symm
    rw [if_neg g3]
    by_cases g4 : va = 17216935571
    · rw [if_pos g4]
      exact (fd_hit (i := 4) h1 hp hva (by decide) (g4.trans (by decide +kernel))).symm
    rw [if_neg g4]
    by_cases g5 : va = 2937011
    · rw [if_pos g5]
      exact (fd_hit (i := 5) h1 hp hva (by decide) (g5.trans (by decide +kernel))).symm
    rw [if_neg g5]
    by_cases g6 : va = 6605428
    · rw [if_pos g6]
      exact (fd_hit (i := 6) h1 hp hva (by decide) (g6.trans (by decide +kernel))).symm
    rw [if_neg g6]
    by_cases g7 : va = 394868
    · rw [if_pos g7]
      exact (fd_hit (i := 7) h1 hp hva (by decide) (g7.trans (by decide +kernel))).symm
    rw [if_neg g7]
    by_cases g8 : va = 591493
    · rw [if_pos g8]
      exact (fd_hit (i := 8) h1 hp hva (by decide) (g8.trans (by decide +kernel))).symm
    rw [if_neg g8]
    refine (fd_mis hva (fun i hi e => ?_)).symm
    rcases (show i = 0 ∨ i = 1 ∨ i = 2 ∨ i = 3 ∨ i = 4 ∨ i = 5 ∨ i = 6 ∨ i = 7 ∨ i = 8 by omega) with rfl | rfl | rfl | rfl | rfl | rfl | rfl | rfl | rfl
    · exact g0 (e.trans (by decide +kernel))
    · exact g1 (e.trans (by decide +kernel))
    · exact g2 (e.trans (by decide +kernel))
    · exact g3 (e.trans (by decide +kernel))
    · exact g4 (e.trans (by decide +kernel))
    · exact g5 (e.trans (by decide +kernel))
    · exact g6 (e.trans (by decide +kernel))
    · exact g7 (e.trans (by decide +kernel))
    · exact g8 (e.trans (by decide +kernel))
  · rw [wd_no hk]
    unfold fHf
    refine if_neg (fun e => ?_)
    have h7 : k - 1 = 1 := kR_k (c := 1) (h2.symm.trans e) h4 (by omega)
    omega
noncomputable def NNt (t : Nat) (g : Nat → Int32) : Prop := NN g ∧ g 10 = nI t
theorem fHf_nat {kn : Int32} {va : Int64} (h : ¬ fHf kn va = -1) : ∃ n, n ≤ 8 ∧ fHf kn va = nI n := by
  unfold fHf at h ⊢
  by_cases h0 : kn = 1
  · rw [if_pos h0] at h ⊢
    by_cases g0 : va = 653969509
    · rw [if_pos g0]
      exact ⟨0, by decide, rfl⟩
    rw [if_neg g0] at h ⊢
    by_cases g1 : va = 4701109538661870
    · rw [if_pos g1]
      exact ⟨1, by decide, rfl⟩
    rw [if_neg g1] at h ⊢
    by_cases g2 : va = 540244
    · rw [if_pos g2]
      exact ⟨2, by decide, rfl⟩
    rw [if_neg g2] at h ⊢
    by_cases g3 : va = 569607949804
    · rw [if_pos g3]
      exact ⟨3, by decide, rfl⟩
    rw [if_neg g3] at h ⊢
    by_cases g4 : va = 17216935571
    · rw [if_pos g4]
      exact ⟨4, by decide, rfl⟩
    rw [if_neg g4] at h ⊢
    by_cases g5 : va = 2937011
    · rw [if_pos g5]
      exact ⟨5, by decide, rfl⟩
    rw [if_neg g5] at h ⊢
    by_cases g6 : va = 6605428
    · rw [if_pos g6]
      exact ⟨6, by decide, rfl⟩
    rw [if_neg g6] at h ⊢
    by_cases g7 : va = 394868
    · rw [if_pos g7]
      exact ⟨7, by decide, rfl⟩
    rw [if_neg g7] at h ⊢
    by_cases g8 : va = 591493
    · rw [if_pos g8]
      exact ⟨8, by decide, rfl⟩
    rw [if_neg g8] at h ⊢
    exact absurd rfl h
  · rw [if_neg h0] at h
    exact absurd rfl h
/-! a word for a row, and the row itself, cell by cell -/
noncomputable def AndC (P : (Nat → Int32) → Prop) (c : Cf) (g : Nat → Int32) : Prop := P g ∧ ∀ j, j < 307 → g j = c j
theorem AndC.upi {P Q : (Nat → Int32) → Prop} {c : Cf} {g : Nat → Int32} {i k : Nat} {v w : Int32} (h : AndC P c g) (hq : Q (upd g i v)) (hv : v = w) (hi : i = k) : AndC Q (upd c k w) (upd g i v) := by
  subst hv
  subst hi
  refine ⟨hq, fun j hj => ?_⟩
  by_cases e : j = i
  · subst e
    rw [upd_at, upd_at]
  · rw [upd_ne e, upd_ne e]
    exact h.2 j hj
theorem AndC.up {P Q : (Nat → Int32) → Prop} {c : Cf} {g : Nat → Int32} {i : Nat} {v w : Int32} (h : AndC P c g) (hq : Q (upd g i v)) (hv : v = w) : AndC Q (upd c i w) (upd g i v) := AndC.upi h hq hv rfl
abbrev NNc (t : Nat) (c : Cf) (g : Nat → Int32) : Prop := AndC (NNt t) c g
theorem predI {n : Nat} (h : n < 2 ^ 31) : (nI n - 1).toInt = (n : Int) - 1 := by
  have h1 := predL h
  rw [Int32.toInt_toInt64] at h1
  exact h1
theorem NN.up {f : Nat → Int32} {i : Nat} {v : Int32} (h : NN f) (hi : i < 10 ∨ 51 ≤ i) (h0 : i = 0 → ∃ n : Nat, 1 ≤ n ∧ n ≤ 1024 ∧ v = nI n) (h7 : i = 7 → ∃ n : Nat, 256 ≤ n ∧ n ≤ 600 ∧ v = nI n) (h8 : i = 8 → ∃ n : Nat, n ≤ 1024 ∧ v = nI n) (hu : 51 ≤ i → ∃ n : Nat, n ≤ 3 ∧ v = nI n) : NN (upd f i v) := by
  have e : ∀ j, j ≠ i → upd f i v j = f j := fun j hj => by simp [upd, hj]
  have e2 : upd f i v i = v := by simp [upd]
  obtain ⟨k1, k2, k3, k4, k5, k6, k7, k8, k9⟩ := h
  refine ⟨fun j a b => ?_, fun j a b => ?_, fun j a b => ?_, ?_, ?_, ?_, ?_, fun t ht => ?_, fun t n ht hn hl => ?_⟩
  · rw [e j (by clear h0 h7 h8 hu; omega)]; exact k1 j a b
  · rw [e j (by clear h0 h7 h8 hu; omega)]; exact k2 j a b
  · by_cases hj : j = i
    · subst hj
      rw [e2]
      exact hu a
    · rw [e j hj]; exact k3 j a b
  · by_cases hj : i = 7
    · subst hj
      rw [e2]
      exact h7 rfl
    · rw [e 7 (by clear h0 h7 h8 hu; omega)]; exact k4
  · rw [e 10 (by clear h0 h7 h8 hu; omega)]; exact k5
  · by_cases hj : i = 0
    · subst hj
      rw [e2]
      exact h0 rfl
    · rw [e 0 (by clear h0 h7 h8 hu; omega)]; exact k6
  · by_cases hj : i = 8
    · subst hj
      rw [e2]
      exact h8 rfl
    · rw [e 8 (by clear h0 h7 h8 hu; omega)]; exact k7
  · rw [e (11 + t) (by clear h0 h7 h8 hu; omega), lsm_ext (g := f) (fun j hj => e _ (by
      obtain ⟨n, hn, hq⟩ := k1 (11 + t) (by clear h0 h7 h8 hu; omega) (by clear h0 h7 h8 hu; omega)
      rw [hq, nI_clamp (by clear h0 h7 h8 hu; omega)] at hj
      clear h0 h7 h8 hu
      omega))]
    exact k8 t ht
  · rw [e (11 + t) (by clear h0 h7 h8 hu; omega)]
    exact k9 t n ht (by rw [← e 10 (by clear h0 h7 h8 hu; omega)]; exact hn) hl
/-- sets of fields: how many, and their lengths -/
noncomputable def pcn (m : Nat) : Nat := (List.range 9).foldl (fun a k => a + m / 2 ^ k % 2) 0
noncomputable def lmk (m : Nat) : Nat := (List.range 9).foldl (fun a k => a + m / 2 ^ k % 2 * lnN k) 0
theorem msk_all : ∀ m, m < 512 → ∀ n, n < 9 → ((nI m >>> (nI n &&& 31)) &&& 1 = 1 ∨ (nI m ||| ((1 : Int32) <<< (nI n &&& 31)) = nI (m + 2 ^ n) ∧ m + 2 ^ n < 512 ∧ pcn (m + 2 ^ n) = pcn m + 1 ∧ lmk (m + 2 ^ n) = lmk m + lnN n ∧ pcn m ≤ 8)) := by decide +kernel
theorem msk {m n : Nat} (hm : m < 512) (hn : n < 9) (h : ¬ (nI m >>> (nI n &&& 31)) &&& 1 = 1) : nI m ||| ((1 : Int32) <<< (nI n &&& 31)) = nI (m + 2 ^ n) ∧ m + 2 ^ n < 512 ∧ pcn (m + 2 ^ n) = pcn m + 1 ∧ lmk (m + 2 ^ n) = lmk m + lnN n ∧ pcn m ≤ 8 := (msk_all m hm n hn).resolve_left h
theorem lmk_le : ∀ m, m < 512 → lmk m ≤ 29 ∧ pcn m ≤ 9 := by decide +kernel
/-- the row of a template that is being read -/
noncomputable def TplR (t s m : Nat) (f : Nat → Int32) : Prop := NN f ∧ f 10 = nI t ∧ lsm f (15 + 9 * t) s = lmk m
theorem TplR.fld {t s m n i : Nat} {f : Nat → Int32} (h : TplR t s m f) (ht : t < 4) (hs : s < 9) (hn : n ≤ 8) (hi : i = 15 + 9 * t + s) (hm : lmk (m + 2 ^ n) = lmk m + lnN n) : TplR t (s + 1) (m + 2 ^ n) (upd f i (nI n)) := by
  subst hi
  have e : ∀ j, j ≠ 15 + 9 * t + s → upd f (15 + 9 * t + s) (nI n) j = f j := fun j hj => by simp [upd, hj]
  have e2 : upd f (15 + 9 * t + s) (nI n) (15 + 9 * t + s) = nI n := by simp [upd]
  obtain ⟨⟨k1, k2, k3, k4, k5, k6, k7, k8, k9⟩, h10, hl⟩ := h
  refine ⟨⟨fun j a b => ?_, fun j a b => ?_, fun j a b => ?_, ?_, ?_, ?_, ?_, fun u hu => ?_, fun u q hu hq hl => ?_⟩, ?_, ?_⟩
  · rw [e j (by omega)]; exact k1 j a b
  · by_cases hj : j = 15 + 9 * t + s
    · subst hj
      rw [e2]
      exact ⟨n, hn, rfl⟩
    · rw [e j hj]; exact k2 j a b
  · rw [e j (by omega)]; exact k3 j a b
  · rw [e 7 (by omega)]; exact k4
  · rw [e 10 (by omega)]; exact k5
  · rw [e 0 (by omega)]; exact k6
  · rw [e 8 (by omega)]; exact k7
  · rw [e (11 + u) (by omega)]
    by_cases hu2 : u = t
    · subst hu2
      have h0 : f (11 + u) = 0 := k9 u u hu h10 (Nat.le_refl _)
      rw [h0]
      exact Nat.zero_le _
    · rw [lsm_ext (g := f) (fun j hj => e _ (by
        obtain ⟨q, hq, hq2⟩ := k1 (11 + u) (by omega) (by omega)
        rw [hq2, nI_clamp (by omega)] at hj
        omega))]
      exact k8 u hu
  · rw [e (11 + u) (by omega)]
    exact k9 u q hu (by rw [← e 10 (by omega)]; exact hq) hl
  · rw [e 10 (by omega)]; exact h10
  · rw [lsm_s (n := n) e2 (by omega), lsm_ext (g := f) (fun j hj => e _ (by omega)), hl, hm]
noncomputable def TplE (t s : Nat) (g : Nat → Int32) : Prop := ∃ f : Nat → Int32, NN f ∧ f 10 = nI t ∧ lsm f (15 + 9 * t) s ≤ 29 ∧ g = upd f (11 + t) (nI s)
theorem TplR.ends {t s m i : Nat} {f : Nat → Int32} (h : TplR t s m f) (hm : m < 512) (hi : i = 11 + t) : TplE t s (upd f i (nI s)) := by
  subst hi
  exact ⟨f, h.1, h.2.1, by rw [h.2.2]; exact (lmk_le m hm).1, rfl⟩
theorem TplE.ten {t s : Nat} {g : Nat → Int32} (h : TplE t s g) (ht : t < 4) : g 10 = nI t := by
  obtain ⟨f, -, h2, -, rfl⟩ := h
  show (if 10 = 11 + t then _ else f 10) = _
  rw [if_neg (by omega)]
  exact h2
theorem TplE.nn {t s i : Nat} {g : Nat → Int32} (h : TplE t s g) (ht : t < 4) (hs : s ≤ 9) (hi : i = 10) : NN (upd g i (nI (t + 1))) := by
  subst hi
  obtain ⟨f, ⟨k1, k2, k3, k4, k5, k6, k7, k8, k9⟩, h10, hl, rfl⟩ := h
  have e : ∀ j, j ≠ 10 → j ≠ 11 + t → upd (upd f (11 + t) (nI s)) 10 (nI (t + 1)) j = f j := fun j hj hk => by simp [upd, hj, hk]
  have e10 : upd (upd f (11 + t) (nI s)) 10 (nI (t + 1)) 10 = nI (t + 1) := by simp [upd]
  have et : upd (upd f (11 + t) (nI s)) 10 (nI (t + 1)) (11 + t) = nI s := by
    show (if 11 + t = 10 then _ else if 11 + t = 11 + t then nI s else _) = _
    rw [if_neg (by omega), if_pos rfl]
  refine ⟨fun j a b => ?_, fun j a b => ?_, fun j a b => ?_, ?_, ?_, ?_, ?_, fun u hu => ?_, fun u q hu hq hl => ?_⟩
  · by_cases hj : j = 11 + t
    · subst hj
      rw [et]
      exact ⟨s, hs, rfl⟩
    · rw [e j (by omega) hj]; exact k1 j a b
  · rw [e j (by omega) (by omega)]; exact k2 j a b
  · rw [e j (by omega) (by omega)]; exact k3 j a b
  · rw [e 7 (by omega) (by omega)]; exact k4
  · rw [e10]; exact ⟨t + 1, by omega, rfl⟩
  · rw [e 0 (by omega) (by omega)]; exact k6
  · rw [e 8 (by omega) (by omega)]; exact k7
  · by_cases hu2 : u = t
    · subst hu2
      rw [et, nI_clamp (by omega), lsm_ext (g := f) (fun j hj => e _ (by omega) (by omega))]
      exact hl
    · rw [e (11 + u) (by omega) (by omega), lsm_ext (g := f) (fun j hj => e _ (by
        obtain ⟨q, hq, hq2⟩ := k1 (11 + u) (by omega) (by omega)
        rw [hq2, nI_clamp (by omega)] at hj
        omega) (by
        obtain ⟨q, hq, hq2⟩ := k1 (11 + u) (by omega) (by omega)
        rw [hq2, nI_clamp (by omega)] at hj
        omega))]
      exact k8 u hu
  · rw [e10] at hq
    obtain ⟨q2, hq2, hq3⟩ := k5
    have hq4 : t + 1 = q := by
      have h9 : (nI (t + 1)).toNatClampNeg = (nI q).toNatClampNeg := by rw [hq]
      rw [nI_clamp (by omega)] at h9
      by_cases hqs : q < 2 ^ 31
      · rw [nI_clamp hqs] at h9
        exact h9
      · exact absurd hl (by omega)
    rw [e (11 + u) (by omega) (by omega)]
    exact k9 u t hu h10 (by omega)
theorem Im.re1 {G : EnvG} {x : Nat} {rd rd1 nw : (Nat → Int32) → Prop} {T : ((Nat → Int64) → Prop) × ((Nat → Int32) → Prop) × ((Nat → Int64) → Prop) × ((Nat → Int32) → Prop) × ((Nat → Int32) → Prop) × ((Nat → Int32) → Prop) × ((Nat → Int32) → Prop) × Nat × Nat × Nat × Nat × Nat × Nat × Int32 × Int32 × Int32 × Int64 × Nat × Int32 × Int32 × Int32 × Int64 × Int32 × Nat × Int32 × Int64 × Int64 × Nat × Int32 × Int32 × Int32 × Int64 × Int64} {Φ : Hm} {f : Nat → Int32} (h : Im G x (rd, nw, T) Φ) (hf : Φ (x + 1) = some (ai_ G 307 f)) (hp : rd1 f) : Im G x (rd1, nw, T) Φ := by
  refine ⟨h.1, fun j h3 h4 => ?_⟩
  have h5 := h.2 j h3 h4
  match j, h3, h5 with
  | 1, _, _ => exact ⟨f, hf, hp⟩
  | 2, _, q => exact q
  | j + 3, _, q => exact q
theorem ld_dec {e e1 : Int32} {n n1 : Nat} (he : e = 0) (h1 : n ≤ n1) (h2 : ¬ e1 = 0 ∨ n < n1) (hn : n1 ≤ 701) : (if e1 = 0 then 1 else 0) + 2 * (702 - n1) < (if e = 0 then 1 else 0) + 2 * (702 - n) := by
  rw [if_pos he]
  rcases h2 with h2 | h2
  · rw [if_neg h2]
    omega
  · split <;> omega

theorem hu_X12_fieldHere_X12 : ∀ w ∈ u_ws RX12 TX12 54, w ∈ wsX12_fieldHere := fun _ h => List.mem_cons_of_mem _ (List.mem_append_right _ (h))

theorem hv_X12_fieldHere_476 : Cond.fieldLink RX12 476 "FlowExporterModel" (TX12 50).2.1 (TX12 50).2.2.1 ∈ wsX12_fieldHere := List.mem_cons_of_mem _ (List.mem_append_left _ (List.mem_of_getElem? (i := 0) rfl))

theorem hv_X12_fieldHere_467 : Cond.fieldLink RX12 467 "FlowExporterModel" (TX12 53).2.1 (TX12 53).2.2.1 ∈ wsX12_fieldHere := List.mem_cons_of_mem _ (List.mem_append_left _ (List.mem_of_getElem? (i := 1) rfl))

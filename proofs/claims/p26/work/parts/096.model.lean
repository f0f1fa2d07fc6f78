theorem dX12_fail_0 : decode cX12_fail 0 = .ok (.aload_n 0, 1) := by decide +kernel
theorem dX12_fail_1 : decode cX12_fail 1 = .ok (.iload_n 1, 1) := by decide +kernel
theorem dX12_fail_2 : decode cX12_fail 2 = .ok (.putfield 447, 3) := by decide +kernel
theorem dX12_fail_5 : decode cX12_fail 5 = .ok (.aload_n 0, 1) := by decide +kernel
theorem dX12_fail_6 : decode cX12_fail 6 = .ok (.aload_n 0, 1) := by decide +kernel
theorem dX12_fail_7 : decode cX12_fail 7 = .ok (.getfield 464, 3) := by decide +kernel
theorem dX12_fail_10 : decode cX12_fail 10 = .ok (.putfield 92, 3) := by decide +kernel
theorem dX12_fail_13 : decode cX12_fail 13 = .ok (.iconst 0, 1) := by decide +kernel
theorem dX12_fail_14 : decode cX12_fail 14 = .ok (.ireturn, 1) := by decide +kernel
theorem dX12_pack_0 : decode cX12_pack 0 = .ok (.iload_n 0, 1) := by decide +kernel
theorem dX12_pack_1 : decode cX12_pack 1 = .ok (.i2l, 1) := by decide +kernel
theorem dX12_pack_2 : decode cX12_pack 2 = .ok (.ldc2_w 481, 3) := by decide +kernel
theorem dX12_pack_5 : decode cX12_pack 5 = .ok (.lsub, 1) := by decide +kernel
theorem dX12_pack_6 : decode cX12_pack 6 = .ok (.ldc2_w 479, 3) := by decide +kernel
theorem dX12_pack_9 : decode cX12_pack 9 = .ok (.lmul, 1) := by decide +kernel
theorem dX12_pack_10 : decode cX12_pack 10 = .ok (.iload_n 1, 1) := by decide +kernel
theorem dX12_pack_11 : decode cX12_pack 11 = .ok (.i2l, 1) := by decide +kernel
theorem dX12_pack_12 : decode cX12_pack 12 = .ok (.ladd, 1) := by decide +kernel
theorem dX12_pack_13 : decode cX12_pack 13 = .ok (.ldc2_w 481, 3) := by decide +kernel
theorem dX12_pack_16 : decode cX12_pack 16 = .ok (.lsub, 1) := by decide +kernel
theorem dX12_pack_17 : decode cX12_pack 17 = .ok (.ldc2_w 479, 3) := by decide +kernel
theorem dX12_pack_20 : decode cX12_pack 20 = .ok (.lmul, 1) := by decide +kernel
theorem dX12_pack_21 : decode cX12_pack 21 = .ok (.iload_n 2, 1) := by decide +kernel
theorem dX12_pack_22 : decode cX12_pack 22 = .ok (.i2l, 1) := by decide +kernel
theorem dX12_pack_23 : decode cX12_pack 23 = .ok (.ladd, 1) := by decide +kernel
theorem dX12_pack_24 : decode cX12_pack 24 = .ok (.ldc2_w 481, 3) := by decide +kernel
theorem dX12_pack_27 : decode cX12_pack 27 = .ok (.lsub, 1) := by decide +kernel
theorem dX12_pack_28 : decode cX12_pack 28 = .ok (.lstore 6, 2) := by decide +kernel
theorem dX12_pack_30 : decode cX12_pack 30 = .ok (.iload_n 3, 1) := by decide +kernel
theorem dX12_pack_31 : decode cX12_pack 31 = .ok (.ifCond .ne 8, 3) := by decide +kernel
theorem dX12_pack_34 : decode cX12_pack 34 = .ok (.lload 6, 2) := by decide +kernel
theorem dX12_pack_36 : decode cX12_pack 36 = .ok (.goto 16, 3) := by decide +kernel
theorem dX12_pack_39 : decode cX12_pack 39 = .ok (.lload 6, 2) := by decide +kernel
theorem dX12_pack_41 : decode cX12_pack 41 = .ok (.ldc2_w 479, 3) := by decide +kernel
theorem dX12_pack_44 : decode cX12_pack 44 = .ok (.lmul, 1) := by decide +kernel
theorem dX12_pack_45 : decode cX12_pack 45 = .ok (.iload_n 3, 1) := by decide +kernel
theorem dX12_pack_46 : decode cX12_pack 46 = .ok (.i2l, 1) := by decide +kernel
theorem dX12_pack_47 : decode cX12_pack 47 = .ok (.ladd, 1) := by decide +kernel
theorem dX12_pack_48 : decode cX12_pack 48 = .ok (.ldc2_w 481, 3) := by decide +kernel
theorem dX12_pack_51 : decode cX12_pack 51 = .ok (.lsub, 1) := by decide +kernel
theorem dX12_pack_52 : decode cX12_pack 52 = .ok (.lstore 6, 2) := by decide +kernel
theorem dX12_pack_54 : decode cX12_pack 54 = .ok (.iload 4, 2) := by decide +kernel
theorem dX12_pack_56 : decode cX12_pack 56 = .ok (.ifCond .ne 8, 3) := by decide +kernel
theorem dX12_pack_59 : decode cX12_pack 59 = .ok (.lload 6, 2) := by decide +kernel
theorem dX12_pack_61 : decode cX12_pack 61 = .ok (.goto 17, 3) := by decide +kernel
theorem dX12_pack_64 : decode cX12_pack 64 = .ok (.lload 6, 2) := by decide +kernel
theorem dX12_pack_66 : decode cX12_pack 66 = .ok (.ldc2_w 479, 3) := by decide +kernel
theorem dX12_pack_69 : decode cX12_pack 69 = .ok (.lmul, 1) := by decide +kernel
theorem dX12_pack_70 : decode cX12_pack 70 = .ok (.iload 4, 2) := by decide +kernel
theorem dX12_pack_72 : decode cX12_pack 72 = .ok (.i2l, 1) := by decide +kernel
theorem dX12_pack_73 : decode cX12_pack 73 = .ok (.ladd, 1) := by decide +kernel
theorem dX12_pack_74 : decode cX12_pack 74 = .ok (.ldc2_w 481, 3) := by decide +kernel
theorem dX12_pack_77 : decode cX12_pack 77 = .ok (.lsub, 1) := by decide +kernel
theorem dX12_pack_78 : decode cX12_pack 78 = .ok (.lstore 6, 2) := by decide +kernel
theorem dX12_pack_80 : decode cX12_pack 80 = .ok (.iload 5, 2) := by decide +kernel
theorem dX12_pack_82 : decode cX12_pack 82 = .ok (.ifCond .ne 8, 3) := by decide +kernel
theorem dX12_pack_85 : decode cX12_pack 85 = .ok (.lload 6, 2) := by decide +kernel
theorem dX12_pack_87 : decode cX12_pack 87 = .ok (.goto 17, 3) := by decide +kernel
theorem dX12_pack_90 : decode cX12_pack 90 = .ok (.lload 6, 2) := by decide +kernel
theorem dX12_pack_92 : decode cX12_pack 92 = .ok (.ldc2_w 479, 3) := by decide +kernel
theorem dX12_pack_95 : decode cX12_pack 95 = .ok (.lmul, 1) := by decide +kernel
theorem dX12_pack_96 : decode cX12_pack 96 = .ok (.iload 5, 2) := by decide +kernel
theorem dX12_pack_98 : decode cX12_pack 98 = .ok (.i2l, 1) := by decide +kernel
theorem dX12_pack_99 : decode cX12_pack 99 = .ok (.ladd, 1) := by decide +kernel
theorem dX12_pack_100 : decode cX12_pack 100 = .ok (.ldc2_w 481, 3) := by decide +kernel
theorem dX12_pack_103 : decode cX12_pack 103 = .ok (.lsub, 1) := by decide +kernel
theorem dX12_pack_104 : decode cX12_pack 104 = .ok (.lreturn, 1) := by decide +kernel
theorem hu_X12_fail_X12 : ∀ w ∈ u_ws RX12 TX12 54, w ∈ wsX12_fail := fun _ h => List.mem_cons_of_mem _ (List.mem_append_right _ (h))

theorem hv_X12_fail_447 : Cond.fieldLink RX12 447 "FlowExporterModel" (TX12 48).2.1 (TX12 48).2.2.1 ∈ wsX12_fail := List.mem_cons_of_mem _ (List.mem_append_left _ (List.mem_of_getElem? (i := 0) rfl))

theorem hv_X12_fail_464 : Cond.fieldLink RX12 464 "FlowExporterModel" (TX12 51).2.1 (TX12 51).2.2.1 ∈ wsX12_fail := List.mem_cons_of_mem _ (List.mem_append_left _ (List.mem_of_getElem? (i := 1) rfl))

theorem hv_X12_fail_92 : Cond.fieldLink RX12 92 "FlowExporterModel" (TX12 49).2.1 (TX12 49).2.2.1 ∈ wsX12_fail := List.mem_cons_of_mem _ (List.mem_append_left _ (List.mem_of_getElem? (i := 2) rfl))

set_option maxHeartbeats 4000000 in
set_option maxRecDepth 100000 in
theorem r_fail (G : EnvG) (l : Launch) (Φ : Hm) (sz x : Nat) (rd : (Nat → Int32) → Prop) (nw : (Nat → Int32) → Prop) (cr : (Nat → Int64) → Prop) (tp : (Nat → Int32) → Prop) (tt : (Nat → Int64) → Prop) (sI : (Nat → Int32) → Prop) (sT : (Nat → Int32) → Prop) (pt : (Nat → Int32) → Prop) (ql : (Nat → Int32) → Prop) (fl : Nat) (pe : Nat) (le : Nat) (nx : Nat) (il : Nat) (qu : Nat) (kn : Int32) (ec : Int32) (nu : Int32) (va : Int64) (st : Nat) (ep : Int32) (ti : Int32) (ad : Int32) (ob : Int64) (ra : Int32) (rt : Nat) (ex : Int32) (sa : Int64) (us : Int64) (tk : Nat) (th : Int32) (me : Int32) (dr : Int32) (se : Int64) (sn : Int64) (a : Int32) (hx : G.2.2.2 ≤ x) (hI : Im G x (rd, nw, cr, tp, tt, sI, sT, pt, ql, fl, pe, le, nx, il, qu, kn, ec, nu, va, st, ep, ti, ad, ob, ra, rt, ex, sa, us, tk, th, me, dr, se, sn) Φ) (hnw : ∀ f9 : Nat → Int32, nw f9 → NN f9) : Ct G l yX12_fail wsX12_fail ({ frames := 0, cells := 0, slots := 0, locals := 0 }) 0 0 [.ref x, .int a] Φ sz (fun v Φ1 sz1 => (v = some (.int 0)) ∧ sz1 = sz ∧ (Im G x (rd, nw, cr, tp, tt, sI, sT, pt, ql, fl, pe, le, nx, il, qu, kn, a, nu, va, st, (nI st), ti, ad, ob, ra, rt, ex, sa, us, tk, th, me, dr, se, sn) Φ1) ∧ Fr x (fun j9 => j9 = 0) Φ Φ1) := by
  refine Ct.of (cc := cX12_fail) (maxL := 2) (ret := (some .boolean)) (by decide) rfl (Nat.le_of_ble_eq_true rfl) ?_
  intro p9 e9 s9 m9 w9 t9 k9 B
  show Z p9 l e9 _ s9 m9 _ w9 t9 k9 _ G 2 0 [(0, .ref x), (1, .int a)] [] Φ sz 0 0
  refine z_aload_n B dX12_fail_0 rfl 0 rfl ?_
  refine z_iload_n B dX12_fail_1 rfl 1 rfl ?_
  obtain ⟨n_1, v_1, n_2, h_1, b_13, b_1, b_2, b_3, b_4, b_5, b_6, b_7, b_8, b_9, b_10, b_11, b_12⟩ := im0 hI
  replace b_1 : 1 ≤ rt := b_1
  replace b_2 : rt ≤ 1024 := b_2
  replace b_3 : fl ≤ 12 := b_3
  replace b_4 : pe ≤ 24 := b_4
  replace b_5 : le ≤ 700 := b_5
  replace b_6 : qu ≤ 12 := b_6
  replace b_7 : n_1 ≤ 8 := b_7
  replace b_8 : n_2 ≤ 24 := b_8
  replace b_9 : tk ≤ 24 := b_9
  replace b_10 : il ≤ 700 := b_10
  replace b_11 : nx ≤ 701 := b_11
  replace b_12 : st ≤ 701 := b_12
  have h_2 : Φ x = some (o_ 14 [.int th, .ref (x + 1), .ref (x + 2), .int ti, .int ra, .int (nI rt), .int ex, .int ad, .ref (x + 3), .ref (x + 4), .int me, .long se, .ref (x + 5), .int (nI fl), .int dr, .long ob, .long sa, .long sn, .long us, .ref (x + 6), .ref (x + 7), .int (nI pe), .ref (x + 8), .int (nI le), .ref (x + 9), .ref (x + 10), .int (nI qu), .ref (x + 11), .ref (x + 12), .ref (x + 13), .ref (x + 14), .ref (x + 15), .ref (x + 16), .int (nI n_1), .long v_1, .ref (x + 17), .ref (x + 18), .ref (x + 19), .ref (x + 20), .ref (x + 21), .ref (x + 22), .int (nI n_2), .ref (x + 23), .ref (x + 24), .int (nI tk), .ref (x + 25), .int (nI il), .int (nI nx), .int ec, .int ep, .int kn, .int (nI st), .int nu, .long va]) := h_1
  refine z_put (ref := "FlowExporterModel") (C := RX12) (T := TX12) (N := 54) (ci := 14) (v := .int a) B hu_X12_fail_X12 tyX12 tyX12_ok nmX12 rfl 48 (Nat.le_of_ble_eq_true rfl) hv_X12_fail_447 rfl (Or.inl rfl) h_2 hx rfl rfl (Nat.le_of_ble_eq_true rfl) dX12_fail_2 (fun Φ1 hΦ1 => ?_)
  have h_3 : Φ1 x = some (o_ 14 [.int th, .ref (x + 1), .ref (x + 2), .int ti, .int ra, .int (nI rt), .int ex, .int ad, .ref (x + 3), .ref (x + 4), .int me, .long se, .ref (x + 5), .int (nI fl), .int dr, .long ob, .long sa, .long sn, .long us, .ref (x + 6), .ref (x + 7), .int (nI pe), .ref (x + 8), .int (nI le), .ref (x + 9), .ref (x + 10), .int (nI qu), .ref (x + 11), .ref (x + 12), .ref (x + 13), .ref (x + 14), .ref (x + 15), .ref (x + 16), .int (nI n_1), .long v_1, .ref (x + 17), .ref (x + 18), .ref (x + 19), .ref (x + 20), .ref (x + 21), .ref (x + 22), .int (nI n_2), .ref (x + 23), .ref (x + 24), .int (nI tk), .ref (x + 25), .int (nI il), .int (nI nx), .int a, .int ep, .int kn, .int (nI st), .int nu, .long va]) := fset_at hΦ1
  have hI1 : Im G x (rd, nw, cr, tp, tt, sI, sT, pt, ql, fl, pe, le, nx, il, qu, kn, a, nu, va, st, ep, ti, ad, ob, ra, rt, ex, sa, us, tk, th, me, dr, se, sn) Φ1 := Im.put0 hI hΦ1 ⟨n_1, v_1, n_2, rfl, b_13, b_1, b_2, b_3, b_4, b_5, b_6, b_7, b_8, b_9, b_10, b_11, b_12⟩
  refine z_aload_n B dX12_fail_5 rfl 0 rfl ?_
  refine z_aload_n B dX12_fail_6 rfl 0 rfl ?_
  refine z_get (ref := "FlowExporterModel") (C := RX12) (T := TX12) (N := 54) (ci := 14) (v := .int (nI st)) B hu_X12_fail_X12 rfl 51 (Nat.le_of_ble_eq_true rfl) hv_X12_fail_464 rfl h_3 rfl dX12_fail_7 ?_
  refine z_put (ref := "FlowExporterModel") (C := RX12) (T := TX12) (N := 54) (ci := 14) (v := .int (nI st)) B hu_X12_fail_X12 tyX12 tyX12_ok nmX12 rfl 49 (Nat.le_of_ble_eq_true rfl) hv_X12_fail_92 rfl (Or.inl rfl) h_3 hx rfl rfl (Nat.le_of_ble_eq_true rfl) dX12_fail_10 (fun Φ2 hΦ2 => ?_)
  have h_4 : Φ2 x = some (o_ 14 [.int th, .ref (x + 1), .ref (x + 2), .int ti, .int ra, .int (nI rt), .int ex, .int ad, .ref (x + 3), .ref (x + 4), .int me, .long se, .ref (x + 5), .int (nI fl), .int dr, .long ob, .long sa, .long sn, .long us, .ref (x + 6), .ref (x + 7), .int (nI pe), .ref (x + 8), .int (nI le), .ref (x + 9), .ref (x + 10), .int (nI qu), .ref (x + 11), .ref (x + 12), .ref (x + 13), .ref (x + 14), .ref (x + 15), .ref (x + 16), .int (nI n_1), .long v_1, .ref (x + 17), .ref (x + 18), .ref (x + 19), .ref (x + 20), .ref (x + 21), .ref (x + 22), .int (nI n_2), .ref (x + 23), .ref (x + 24), .int (nI tk), .ref (x + 25), .int (nI il), .int (nI nx), .int a, .int (nI st), .int kn, .int (nI st), .int nu, .long va]) := fset_at hΦ2
  have hI2 : Im G x (rd, nw, cr, tp, tt, sI, sT, pt, ql, fl, pe, le, nx, il, qu, kn, a, nu, va, st, nI st, ti, ad, ob, ra, rt, ex, sa, us, tk, th, me, dr, se, sn) Φ2 := Im.put0 hI1 hΦ2 ⟨n_1, v_1, n_2, rfl, b_13, b_1, b_2, b_3, b_4, b_5, b_6, b_7, b_8, b_9, b_10, b_11, b_12⟩
  refine z_iconst (v := 0) B dX12_fail_13 rfl ?_
  exact z_ret_z B dX12_fail_14 (by decide) ⟨rfl, rfl, hI2, (fun b9 h9 => ((fset_fr hΦ2 (fun h8 => h9 (0) h8 (show 0 = 0 by decide))).trans ((fset_fr hΦ1 (fun h8 => h9 (0) h8 (show 0 = 0 by decide))).trans rfl)))⟩

theorem kR_k {k c : Nat} (h : kR k = nI c) (hk : k ≤ 5) (hc : c ≤ 5) : k - 1 = c := (nI_eq (a := k - 1) (b := c) (by omega) (by omega)).mp h
theorem TkR_k {f : Nat → Int32} {n p st nx : Nat} {kn : Int32} {va : Int64} (h : TkR (bA f n) p kn st nx va) (hp : p ≤ n) : ∃ k, Tk (bA f n) p k st nx ∧ kn = kR k ∧ ¬ k = 1 ∧ k ≤ 5 ∧ (k = 2 → va = Int64.ofNat (wv (bA f n) st (nx - st))) ∧ (k = 3 → va = Int64.ofNat (nv (bA f n) st (nx - st))) := by
  obtain ⟨k, h1, h2, h3, h4, h5⟩ := h
  exact ⟨k, h1, h2, h3, (Tk_ok h1 hp).2.2.2.1, h4, h5⟩
theorem TkR_b {f : Nat → Int32} {n p st nx : Nat} {kn : Int32} {va : Int64} (h : TkR (bA f n) p kn st nx va) (hp : p ≤ n) : p ≤ st ∧ st ≤ nx ∧ nx ≤ n ∧ (kn = 0 ∨ p < nx) := by
  obtain ⟨k, h1, h2, h3, h4, h5⟩ := h
  obtain ⟨a, b, c, d, _, _, e⟩ := Tk_ok h1 hp
  refine ⟨a, b, c, ?_⟩
  by_cases hk : k = 0
  · subst hk
    exact Or.inl h2
  · exact Or.inr (by have := e hk; omega)
theorem rn_e1 {f : Nat → Int32} {n p st nx : Nat} {kn : Int32} {va : Int64} {lo hi : Int} (h : TkR (bA f n) p kn st nx va) (hp : p ≤ n) (hk : ¬ kn = 2) : numAt (bA f n) p lo hi = (1, st, 0) := by
  obtain ⟨k, h1, h2, h3, h4, -, -⟩ := TkR_k h hp
  refine numAt_1 h1 (fun e => hk ?_)
  subst e
  exact h2
theorem rn_3 {f : Nat → Int32} {n p st nx : Nat} {kn : Int32} {va : Int64} (h : TkR (bA f n) p kn st nx va) (hp : p ≤ n) (hk : kn = 2) : Tk (bA f n) p 3 st nx ∧ va = Int64.ofNat (nv (bA f n) st (nx - st)) ∧ nv (bA f n) st (nx - st) < 1000000 := by
  obtain ⟨k, h1, h2, h3, h4, h5, h6⟩ := TkR_k h hp
  have h7 : k - 1 = 2 := kR_k (h2.symm.trans hk) h4 (by omega)
  have h8 : k = 3 := by omega
  subst h8
  obtain ⟨a, b, c⟩ := (Tk_ok h1 hp).2.2.2.2.1 rfl
  exact ⟨h1, h6 rfl, nv_big c a (Nat.le_refl nx)⟩
theorem rn_ok {f : Nat → Int32} {n p st nx w : Nat} {kn : Int32} {lo hi : Int} (h : TkR (bA f n) p kn st nx (Int64.ofNat w)) (hp : p ≤ n) (hk : kn = 2) (hw : w < 2 ^ 63) (h1 : lo ≤ (w : Int)) (h2 : (w : Int) ≤ hi) : numAt (bA f n) p lo hi = (0, nx, w) ∧ w < 1000000 := by
  obtain ⟨a, b, c⟩ := rn_3 h hp hk
  have e : w = nv (bA f n) st (nx - st) := by
    have h3 := congrArg Int64.toInt b
    rw [Int64.toInt_ofNat_of_lt hw, Int64.toInt_ofNat_of_lt (by omega)] at h3
    omega
  subst e
  exact ⟨numAt_0 a h1 h2, c⟩
theorem rn_e2 {f : Nat → Int32} {n p st nx a : Nat} {kn b : Int32} {va : Int64} (h : TkR (bA f n) p kn st nx va) (hp : p ≤ n) (hk : kn = 2) (ha : a < 2 ^ 31) (hr : ¬ inP va (nI a).toInt64 b.toInt64) : numAt (bA f n) p (a : Int) b.toInt = (2, st, 0) := by
  obtain ⟨c1, c2, c3⟩ := rn_3 h hp hk
  refine numAt_2 c1 (fun q => hr ?_)
  rw [inP_L, c2, natL ha, Int32.toInt_toInt64, Int64.toInt_ofNat_of_lt (by omega)]
  exact q
theorem re_1 {f : Nat → Int32} {n p st nx : Nat} {kn : Int32} {va : Int64} (h : TkR (bA f n) p kn st nx va) (hp : p ≤ n) (hk : kn = 3) : semi (bA f n) p = (0, nx) := by
  obtain ⟨k, h1, h2, h3, h4, h5, h6⟩ := TkR_k h hp
  have h7 : k - 1 = 3 := kR_k (h2.symm.trans hk) h4 (by omega)
  have h8 : k = 4 := by omega
  subst h8
  exact semi_0 h1
theorem re_0 {f : Nat → Int32} {n p st nx : Nat} {kn : Int32} {va : Int64} (h : TkR (bA f n) p kn st nx va) (hp : p ≤ n) (hk : ¬ kn = 3) : semi (bA f n) p = (1, st) := by
  obtain ⟨k, h1, h2, h3, h4, h5, h6⟩ := TkR_k h hp
  refine semi_1 h1 (fun e => hk ?_)
  subst e
  exact h2
/-! words: by their packed numbers -/
theorem IsW_un {b : Nat → Int32} {s m : Nat} {u w : List Nat} (h : IsW b s m u) (h2 : IsW b s m w) (hu : ∀ i, i < u.length → u.getD i 0 < 256) (hw : ∀ i, i < w.length → w.getD i 0 < 256) : u = w := by
  obtain ⟨e1, a⟩ := h
  obtain ⟨e2, c⟩ := h2
  apply List.ext_getElem (by omega)
  intro i h1 h3
  have h4 := (a i (by omega)).symm.trans (c i (by omega))
  have h5 := hu i h1
  have h6 := hw i h3
  have h7 := (nI_eq (a := u.getD i 0) (b := w.getD i 0) (by omega) (by omega)).mp h4
  rw [List.getD_eq_getElem?_getD, List.getD_eq_getElem?_getD, List.getElem?_eq_getElem h1, List.getElem?_eq_getElem h3] at h7
  exact h7
theorem pk_hit {f : Nat → Int32} {n p s e i : Nat} {va : Int64} (L : List (List Nat)) (hT : Tk (bA f n) p 2 s e) (hp : p ≤ n) (hva : va = Int64.ofNat (wv (bA f n) s (e - s))) (hi : i < L.length) (hl : lett (L.getD i [])) (hpk : pkL (L.getD i []) < 2 ^ 62) (h : va = Int64.ofNat (pkL (L.getD i []))) : IsW (bA f n) s (e - s) (L.getD i []) := by
  obtain ⟨a, b, c⟩ := (Tk_ok hT hp).2.2.2.2.2.1 rfl
  have h1 := wv_lt (bA f n) s (e - s) c
  have h2 : 32 ^ (e - s) ≤ 32 ^ 12 := Nat.pow_le_pow_right (by decide) a
  refine wv_inj _ _ _ c _ hl ?_
  have h3 := congrArg Int64.toInt (hva.symm.trans h)
  rw [Int64.toInt_ofNat_of_lt (by omega), Int64.toInt_ofNat_of_lt (by omega)] at h3
  omega
theorem pk_mis {f : Nat → Int32} {s e i : Nat} {n : Nat} {va : Int64} (L : List (List Nat)) (hva : va = Int64.ofNat (wv (bA f n) s (e - s))) (hl : lett (L.getD i [])) (h : ¬ va = Int64.ofNat (pkL (L.getD i []))) : ¬ IsW (bA f n) s (e - s) (L.getD i []) := by
  intro q
  exact h (hva.trans (congrArg Int64.ofNat (wv_of _ _ _ _ hl q)))
theorem fd_ok : ∀ i, i < 9 → (∀ c, c ∈ fdW.getD i [] → 97 ≤ c ∧ c ≤ 122) ∧ pkL (fdW.getD i []) < 2 ^ 62 := by decide +kernel
theorem st_ok : ∀ i, i < 12 → ¬ i = 5 → (∀ c, c ∈ stW.getD i [] → 97 ≤ c ∧ c ≤ 122) ∧ pkL (stW.getD i []) < 2 ^ 62 := by decide +kernel
theorem fd_un : ∀ i, i < 9 → ∀ j, j < i → ¬ fdW.getD j [] = fdW.getD i [] := by decide +kernel
theorem st_un : ∀ i, i < 12 → ∀ j, j < i → ¬ stW.getD j [] = stW.getD i [] := by decide +kernel
theorem fd_c : ∀ i, i < 9 → ∀ j, j < (fdW.getD i []).length → (fdW.getD i []).getD j 0 < 256 := by decide +kernel
theorem st_c : ∀ i, i < 12 → ∀ j, j < (stW.getD i []).length → (stW.getD i []).getD j 0 < 256 := by decide +kernel
theorem fd_hit {f : Nat → Int32} {n p s e i : Nat} {va : Int64} (hT : Tk (bA f n) p 2 s e) (hp : p ≤ n) (hva : va = Int64.ofNat (wv (bA f n) s (e - s))) (hi : i < 9) (h : va = Int64.ofNat (pkL (fdW.getD i []))) : wd fdW (bA f n) 2 s e = nI i := by
  have h1 := pk_hit fdW hT hp hva hi (fd_ok i hi).1 (fd_ok i hi).2 h
  exact wd_of rfl (Or.inl ⟨i, hi, rfl, h1, fun j hj q => fd_un i hi j hj (IsW_un q h1 (fd_c j (by omega)) (fd_c i hi))⟩)
theorem fd_mis {f : Nat → Int32} {n s e : Nat} {va : Int64} (hva : va = Int64.ofNat (wv (bA f n) s (e - s))) (h : ∀ i, i < 9 → ¬ va = Int64.ofNat (pkL (fdW.getD i []))) : wd fdW (bA f n) 2 s e = -1 := wd_of rfl (Or.inr ⟨rfl, fun i hi => pk_mis fdW hva (fd_ok i hi).1 (h i hi)⟩)
theorem st_hit {f : Nat → Int32} {n p s e i : Nat} {va : Int64} (hT : Tk (bA f n) p 2 s e) (hp : p ≤ n) (hva : va = Int64.ofNat (wv (bA f n) s (e - s))) (hi : i < 12) (h5 : ¬ i = 5) (h : va = Int64.ofNat (pkL (stW.getD i []))) : wd stW (bA f n) 2 s e = nI i := by
  have h1 := pk_hit stW hT hp hva hi (st_ok i hi h5).1 (st_ok i hi h5).2 h
  exact wd_of rfl (Or.inl ⟨i, hi, rfl, h1, fun j hj q => st_un i hi j hj (IsW_un q h1 (st_c j (by omega)) (st_c i hi))⟩)
theorem st_mis {f : Nat → Int32} {n p s e : Nat} {va : Int64} (hT : Tk (bA f n) p 2 s e) (hp : p ≤ n) (hva : va = Int64.ofNat (wv (bA f n) s (e - s))) (h : ∀ i, i < 12 → ¬ i = 5 → ¬ va = Int64.ofNat (pkL (stW.getD i []))) : wd stW (bA f n) 2 s e = -1 := by
  refine wd_of rfl (Or.inr ⟨rfl, fun i hi => ?_⟩)
  by_cases h5 : i = 5
  · subst h5
    rintro ⟨e1, a⟩
    obtain ⟨_, b, c⟩ := (Tk_ok hT hp).2.2.2.2.2.1 rfl
    have h1 := a 0 (by omega)
    have h2 := c 0 (by omega)
    rw [h1] at h2
    exact absurd h2 (by decide)
  · exact pk_mis stW hva (st_ok i hi h5).1 (h i hi h5)

set_option maxHeartbeats 4000000 in
set_option maxRecDepth 100000 in
theorem r_pack_97_99_116_105_118_101 (G : EnvG) (l : Launch) (Φ : Hm) (sz x : Nat) (rd : (Nat → Int32) → Prop) (nw : (Nat → Int32) → Prop) (cr : (Nat → Int64) → Prop) (tp : (Nat → Int32) → Prop) (tt : (Nat → Int64) → Prop) (sI : (Nat → Int32) → Prop) (sT : (Nat → Int32) → Prop) (pt : (Nat → Int32) → Prop) (ql : (Nat → Int32) → Prop) (fl : Nat) (pe : Nat) (le : Nat) (nx : Nat) (il : Nat) (qu : Nat) (kn : Int32) (ec : Int32) (nu : Int32) (va : Int64) (st : Nat) (ep : Int32) (ti : Int32) (ad : Int32) (ob : Int64) (ra : Int32) (rt : Nat) (ex : Int32) (sa : Int64) (us : Int64) (tk : Nat) (th : Int32) (me : Int32) (dr : Int32) (se : Int64) (sn : Int64)  (hx : G.2.2.2 ≤ x) (hI : Im G x (rd, nw, cr, tp, tt, sI, sT, pt, ql, fl, pe, le, nx, il, qu, kn, ec, nu, va, st, ep, ti, ad, ob, ra, rt, ex, sa, us, tk, th, me, dr, se, sn) Φ) (hnw : ∀ f9 : Nat → Int32, nw f9 → NN f9) : Ct G l yX12_pack wsX12_pack ({ frames := 0, cells := 0, slots := 0, locals := 0 }) 0 0 [.int 97, .int 99, .int 116, .int 105, .int 118, .int 101] Φ sz (fun v Φ1 sz1 => (v = some (.long 37365445)) ∧ sz1 = sz ∧ (Im G x (rd, nw, cr, tp, tt, sI, sT, pt, ql, fl, pe, le, nx, il, qu, kn, ec, nu, va, st, ep, ti, ad, ob, ra, rt, ex, sa, us, tk, th, me, dr, se, sn) Φ1) ∧ Fr x (fun j9 => False) Φ Φ1) := by
  refine Ct.of (cc := cX12_pack) (maxL := 8) (ret := (some .long)) (by decide) rfl (Nat.le_of_ble_eq_true rfl) ?_
  intro p9 e9 s9 m9 w9 t9 k9 B
  show Z p9 l e9 _ s9 m9 _ w9 t9 k9 _ G 8 0 [(0, .int 97), (1, .int 99), (2, .int 116), (3, .int 105), (4, .int 118), (5, .int 101)] [] Φ sz 0 0
  refine z_iload_n B dX12_pack_0 rfl 0 rfl ?_
  refine z_i2l (v := 97) B dX12_pack_1 (by decide +kernel) ?_
  refine z_ldc2 (v := 96) B (by decide +kernel) dX12_pack_2 ?_
  refine z_lsub B dX12_pack_5 ?_
  refine z_top (st1 := [.long 1]) (congrArg (fun w9 : Int64 => ([.long w9] : List Value)) (show (97 - 96 : Int64) = 1 by decide +kernel)) ?_
  refine z_ldc2 (v := 32) B (by decide +kernel) dX12_pack_6 ?_
  refine z_lmul B dX12_pack_9 ?_
  refine z_top (st1 := [.long 32]) (congrArg (fun w9 : Int64 => ([.long w9] : List Value)) (show (1 * 32 : Int64) = 32 by decide +kernel)) ?_
  refine z_iload_n B dX12_pack_10 rfl 1 rfl ?_
  refine z_i2l (v := 99) B dX12_pack_11 (by decide +kernel) ?_
  refine z_ladd B dX12_pack_12 ?_
  refine z_top (st1 := [.long 131]) (congrArg (fun w9 : Int64 => ([.long w9] : List Value)) (show (32 + 99 : Int64) = 131 by decide +kernel)) ?_
  refine z_ldc2 (v := 96) B (by decide +kernel) dX12_pack_13 ?_
  refine z_lsub B dX12_pack_16 ?_
  refine z_top (st1 := [.long 35]) (congrArg (fun w9 : Int64 => ([.long w9] : List Value)) (show (131 - 96 : Int64) = 35 by decide +kernel)) ?_
  refine z_ldc2 (v := 32) B (by decide +kernel) dX12_pack_17 ?_
  refine z_lmul B dX12_pack_20 ?_
  refine z_top (st1 := [.long 1120]) (congrArg (fun w9 : Int64 => ([.long w9] : List Value)) (show (35 * 32 : Int64) = 1120 by decide +kernel)) ?_
  refine z_iload_n B dX12_pack_21 rfl 2 rfl ?_
  refine z_i2l (v := 116) B dX12_pack_22 (by decide +kernel) ?_
  refine z_ladd B dX12_pack_23 ?_
  refine z_top (st1 := [.long 1236]) (congrArg (fun w9 : Int64 => ([.long w9] : List Value)) (show (1120 + 116 : Int64) = 1236 by decide +kernel)) ?_
  refine z_ldc2 (v := 96) B (by decide +kernel) dX12_pack_24 ?_
  refine z_lsub B dX12_pack_27 ?_
  refine z_top (st1 := [.long 1140]) (congrArg (fun w9 : Int64 => ([.long w9] : List Value)) (show (1236 - 96 : Int64) = 1140 by decide +kernel)) ?_
  refine z_lstore (lv' := [(6, .long 1140), (0, .int 97), (1, .int 99), (2, .int 116), (3, .int 105), (4, .int 118), (5, .int 101)]) B dX12_pack_28 (Nat.le_of_ble_eq_true rfl) rfl ?_
  refine z_iload_n B dX12_pack_30 rfl 4 rfl ?_
  refine z_if_ne (tgt := 39) B dX12_pack_31 rfl (fun c_1 => ?_) (fun h9 => absurd h9 (by decide))
  refine z_lload B dX12_pack_39 0 rfl ?_
  refine z_ldc2 (v := 32) B (by decide +kernel) dX12_pack_41 ?_
  refine z_lmul B dX12_pack_44 ?_
  refine z_top (st1 := [.long 36480]) (congrArg (fun w9 : Int64 => ([.long w9] : List Value)) (show (1140 * 32 : Int64) = 36480 by decide +kernel)) ?_
  refine z_iload_n B dX12_pack_45 rfl 4 rfl ?_
  refine z_i2l (v := 105) B dX12_pack_46 (by decide +kernel) ?_
  refine z_ladd B dX12_pack_47 ?_
  refine z_top (st1 := [.long 36585]) (congrArg (fun w9 : Int64 => ([.long w9] : List Value)) (show (36480 + 105 : Int64) = 36585 by decide +kernel)) ?_
  refine z_ldc2 (v := 96) B (by decide +kernel) dX12_pack_48 ?_
  refine z_lsub B dX12_pack_51 ?_
  refine z_top (st1 := [.long 36489]) (congrArg (fun w9 : Int64 => ([.long w9] : List Value)) (show (36585 - 96 : Int64) = 36489 by decide +kernel)) ?_
  refine z_lstore (lv' := [(6, .long 36489), (0, .int 97), (1, .int 99), (2, .int 116), (3, .int 105), (4, .int 118), (5, .int 101)]) B dX12_pack_52 (Nat.le_of_ble_eq_true rfl) rfl ?_
  refine z_iload B dX12_pack_54 5 rfl ?_
  refine z_if_ne (tgt := 64) B dX12_pack_56 rfl (fun c_2 => ?_) (fun h9 => absurd h9 (by decide))
  refine z_lload B dX12_pack_64 0 rfl ?_
  refine z_ldc2 (v := 32) B (by decide +kernel) dX12_pack_66 ?_
  refine z_lmul B dX12_pack_69 ?_
  refine z_top (st1 := [.long 1167648]) (congrArg (fun w9 : Int64 => ([.long w9] : List Value)) (show (36489 * 32 : Int64) = 1167648 by decide +kernel)) ?_
  refine z_iload B dX12_pack_70 5 rfl ?_
  refine z_i2l (v := 118) B dX12_pack_72 (by decide +kernel) ?_
  refine z_ladd B dX12_pack_73 ?_
  refine z_top (st1 := [.long 1167766]) (congrArg (fun w9 : Int64 => ([.long w9] : List Value)) (show (1167648 + 118 : Int64) = 1167766 by decide +kernel)) ?_
  refine z_ldc2 (v := 96) B (by decide +kernel) dX12_pack_74 ?_
  refine z_lsub B dX12_pack_77 ?_
  refine z_top (st1 := [.long 1167670]) (congrArg (fun w9 : Int64 => ([.long w9] : List Value)) (show (1167766 - 96 : Int64) = 1167670 by decide +kernel)) ?_
  refine z_lstore (lv' := [(6, .long 1167670), (0, .int 97), (1, .int 99), (2, .int 116), (3, .int 105), (4, .int 118), (5, .int 101)]) B dX12_pack_78 (Nat.le_of_ble_eq_true rfl) rfl ?_
  refine z_iload B dX12_pack_80 6 rfl ?_
  refine z_if_ne (tgt := 90) B dX12_pack_82 rfl (fun c_3 => ?_) (fun h9 => absurd h9 (by decide))
  refine z_lload B dX12_pack_90 0 rfl ?_
  refine z_ldc2 (v := 32) B (by decide +kernel) dX12_pack_92 ?_
  refine z_lmul B dX12_pack_95 ?_
  refine z_top (st1 := [.long 37365440]) (congrArg (fun w9 : Int64 => ([.long w9] : List Value)) (show (1167670 * 32 : Int64) = 37365440 by decide +kernel)) ?_
  refine z_iload B dX12_pack_96 6 rfl ?_
  refine z_i2l (v := 101) B dX12_pack_98 (by decide +kernel) ?_
  refine z_ladd B dX12_pack_99 ?_
  refine z_top (st1 := [.long 37365541]) (congrArg (fun w9 : Int64 => ([.long w9] : List Value)) (show (37365440 + 101 : Int64) = 37365541 by decide +kernel)) ?_
  refine z_ldc2 (v := 96) B (by decide +kernel) dX12_pack_100 ?_
  refine z_lsub B dX12_pack_103 ?_
  refine z_top (st1 := [.long 37365445]) (congrArg (fun w9 : Int64 => ([.long w9] : List Value)) (show (37365541 - 96 : Int64) = 37365445 by decide +kernel)) ?_
  exact z_ret_l B dX12_pack_104 ⟨rfl, rfl, hI, (fun b9 h9 => rfl)⟩

set_option maxHeartbeats 4000000 in
set_option maxRecDepth 100000 in
theorem r_pack_97_115_115_117_109_101 (G : EnvG) (l : Launch) (Φ : Hm) (sz x : Nat) (rd : (Nat → Int32) → Prop) (nw : (Nat → Int32) → Prop) (cr : (Nat → Int64) → Prop) (tp : (Nat → Int32) → Prop) (tt : (Nat → Int64) → Prop) (sI : (Nat → Int32) → Prop) (sT : (Nat → Int32) → Prop) (pt : (Nat → Int32) → Prop) (ql : (Nat → Int32) → Prop) (fl : Nat) (pe : Nat) (le : Nat) (nx : Nat) (il : Nat) (qu : Nat) (kn : Int32) (ec : Int32) (nu : Int32) (va : Int64) (st : Nat) (ep : Int32) (ti : Int32) (ad : Int32) (ob : Int64) (ra : Int32) (rt : Nat) (ex : Int32) (sa : Int64) (us : Int64) (tk : Nat) (th : Int32) (me : Int32) (dr : Int32) (se : Int64) (sn : Int64)  (hx : G.2.2.2 ≤ x) (hI : Im G x (rd, nw, cr, tp, tt, sI, sT, pt, ql, fl, pe, le, nx, il, qu, kn, ec, nu, va, st, ep, ti, ad, ob, ra, rt, ex, sa, us, tk, th, me, dr, se, sn) Φ) (hnw : ∀ f9 : Nat → Int32, nw f9 → NN f9) : Ct G l yX12_pack wsX12_pack ({ frames := 0, cells := 0, slots := 0, locals := 0 }) 0 0 [.int 97, .int 115, .int 115, .int 117, .int 109, .int 101] Φ sz (fun v Φ1 sz1 => (v = some (.long 54121893)) ∧ sz1 = sz ∧ (Im G x (rd, nw, cr, tp, tt, sI, sT, pt, ql, fl, pe, le, nx, il, qu, kn, ec, nu, va, st, ep, ti, ad, ob, ra, rt, ex, sa, us, tk, th, me, dr, se, sn) Φ1) ∧ Fr x (fun j9 => False) Φ Φ1) := by
  refine Ct.of (cc := cX12_pack) (maxL := 8) (ret := (some .long)) (by decide) rfl (Nat.le_of_ble_eq_true rfl) ?_
  intro p9 e9 s9 m9 w9 t9 k9 B
  show Z p9 l e9 _ s9 m9 _ w9 t9 k9 _ G 8 0 [(0, .int 97), (1, .int 115), (2, .int 115), (3, .int 117), (4, .int 109), (5, .int 101)] [] Φ sz 0 0
  refine z_iload_n B dX12_pack_0 rfl 0 rfl ?_
  refine z_i2l (v := 97) B dX12_pack_1 (by decide +kernel) ?_
  refine z_ldc2 (v := 96) B (by decide +kernel) dX12_pack_2 ?_
  refine z_lsub B dX12_pack_5 ?_
  refine z_top (st1 := [.long 1]) (congrArg (fun w9 : Int64 => ([.long w9] : List Value)) (show (97 - 96 : Int64) = 1 by decide +kernel)) ?_
  refine z_ldc2 (v := 32) B (by decide +kernel) dX12_pack_6 ?_
  refine z_lmul B dX12_pack_9 ?_
  refine z_top (st1 := [.long 32]) (congrArg (fun w9 : Int64 => ([.long w9] : List Value)) (show (1 * 32 : Int64) = 32 by decide +kernel)) ?_
  refine z_iload_n B dX12_pack_10 rfl 1 rfl ?_
  refine z_i2l (v := 115) B dX12_pack_11 (by decide +kernel) ?_
  refine z_ladd B dX12_pack_12 ?_
  refine z_top (st1 := [.long 147]) (congrArg (fun w9 : Int64 => ([.long w9] : List Value)) (show (32 + 115 : Int64) = 147 by decide +kernel)) ?_
  refine z_ldc2 (v := 96) B (by decide +kernel) dX12_pack_13 ?_
  refine z_lsub B dX12_pack_16 ?_
  refine z_top (st1 := [.long 51]) (congrArg (fun w9 : Int64 => ([.long w9] : List Value)) (show (147 - 96 : Int64) = 51 by decide +kernel)) ?_
  refine z_ldc2 (v := 32) B (by decide +kernel) dX12_pack_17 ?_
  refine z_lmul B dX12_pack_20 ?_
  refine z_top (st1 := [.long 1632]) (congrArg (fun w9 : Int64 => ([.long w9] : List Value)) (show (51 * 32 : Int64) = 1632 by decide +kernel)) ?_
  refine z_iload_n B dX12_pack_21 rfl 2 rfl ?_
  refine z_i2l (v := 115) B dX12_pack_22 (by decide +kernel) ?_
  refine z_ladd B dX12_pack_23 ?_
  refine z_top (st1 := [.long 1747]) (congrArg (fun w9 : Int64 => ([.long w9] : List Value)) (show (1632 + 115 : Int64) = 1747 by decide +kernel)) ?_
  refine z_ldc2 (v := 96) B (by decide +kernel) dX12_pack_24 ?_
  refine z_lsub B dX12_pack_27 ?_
  refine z_top (st1 := [.long 1651]) (congrArg (fun w9 : Int64 => ([.long w9] : List Value)) (show (1747 - 96 : Int64) = 1651 by decide +kernel)) ?_
  refine z_lstore (lv' := [(6, .long 1651), (0, .int 97), (1, .int 115), (2, .int 115), (3, .int 117), (4, .int 109), (5, .int 101)]) B dX12_pack_28 (Nat.le_of_ble_eq_true rfl) rfl ?_
  refine z_iload_n B dX12_pack_30 rfl 4 rfl ?_
  refine z_if_ne (tgt := 39) B dX12_pack_31 rfl (fun c_1 => ?_) (fun h9 => absurd h9 (by decide))
  refine z_lload B dX12_pack_39 0 rfl ?_
  refine z_ldc2 (v := 32) B (by decide +kernel) dX12_pack_41 ?_
  refine z_lmul B dX12_pack_44 ?_
  refine z_top (st1 := [.long 52832]) (congrArg (fun w9 : Int64 => ([.long w9] : List Value)) (show (1651 * 32 : Int64) = 52832 by decide +kernel)) ?_
  refine z_iload_n B dX12_pack_45 rfl 4 rfl ?_
  refine z_i2l (v := 117) B dX12_pack_46 (by decide +kernel) ?_
  refine z_ladd B dX12_pack_47 ?_
  refine z_top (st1 := [.long 52949]) (congrArg (fun w9 : Int64 => ([.long w9] : List Value)) (show (52832 + 117 : Int64) = 52949 by decide +kernel)) ?_
  refine z_ldc2 (v := 96) B (by decide +kernel) dX12_pack_48 ?_
  refine z_lsub B dX12_pack_51 ?_
  refine z_top (st1 := [.long 52853]) (congrArg (fun w9 : Int64 => ([.long w9] : List Value)) (show (52949 - 96 : Int64) = 52853 by decide +kernel)) ?_
  refine z_lstore (lv' := [(6, .long 52853), (0, .int 97), (1, .int 115), (2, .int 115), (3, .int 117), (4, .int 109), (5, .int 101)]) B dX12_pack_52 (Nat.le_of_ble_eq_true rfl) rfl ?_
  refine z_iload B dX12_pack_54 5 rfl ?_
  refine z_if_ne (tgt := 64) B dX12_pack_56 rfl (fun c_2 => ?_) (fun h9 => absurd h9 (by decide))
  refine z_lload B dX12_pack_64 0 rfl ?_
  refine z_ldc2 (v := 32) B (by decide +kernel) dX12_pack_66 ?_
  refine z_lmul B dX12_pack_69 ?_
  refine z_top (st1 := [.long 1691296]) (congrArg (fun w9 : Int64 => ([.long w9] : List Value)) (show (52853 * 32 : Int64) = 1691296 by decide +kernel)) ?_
  refine z_iload B dX12_pack_70 5 rfl ?_
  refine z_i2l (v := 109) B dX12_pack_72 (by decide +kernel) ?_
  refine z_ladd B dX12_pack_73 ?_
  refine z_top (st1 := [.long 1691405]) (congrArg (fun w9 : Int64 => ([.long w9] : List Value)) (show (1691296 + 109 : Int64) = 1691405 by decide +kernel)) ?_
  refine z_ldc2 (v := 96) B (by decide +kernel) dX12_pack_74 ?_
  refine z_lsub B dX12_pack_77 ?_
  refine z_top (st1 := [.long 1691309]) (congrArg (fun w9 : Int64 => ([.long w9] : List Value)) (show (1691405 - 96 : Int64) = 1691309 by decide +kernel)) ?_
  refine z_lstore (lv' := [(6, .long 1691309), (0, .int 97), (1, .int 115), (2, .int 115), (3, .int 117), (4, .int 109), (5, .int 101)]) B dX12_pack_78 (Nat.le_of_ble_eq_true rfl) rfl ?_
  refine z_iload B dX12_pack_80 6 rfl ?_
  refine z_if_ne (tgt := 90) B dX12_pack_82 rfl (fun c_3 => ?_) (fun h9 => absurd h9 (by decide))
  refine z_lload B dX12_pack_90 0 rfl ?_
  refine z_ldc2 (v := 32) B (by decide +kernel) dX12_pack_92 ?_
  refine z_lmul B dX12_pack_95 ?_
  refine z_top (st1 := [.long 54121888]) (congrArg (fun w9 : Int64 => ([.long w9] : List Value)) (show (1691309 * 32 : Int64) = 54121888 by decide +kernel)) ?_
  refine z_iload B dX12_pack_96 6 rfl ?_
  refine z_i2l (v := 101) B dX12_pack_98 (by decide +kernel) ?_
  refine z_ladd B dX12_pack_99 ?_
  refine z_top (st1 := [.long 54121989]) (congrArg (fun w9 : Int64 => ([.long w9] : List Value)) (show (54121888 + 101 : Int64) = 54121989 by decide +kernel)) ?_
  refine z_ldc2 (v := 96) B (by decide +kernel) dX12_pack_100 ?_
  refine z_lsub B dX12_pack_103 ?_
  refine z_top (st1 := [.long 54121893]) (congrArg (fun w9 : Int64 => ([.long w9] : List Value)) (show (54121989 - 96 : Int64) = 54121893 by decide +kernel)) ?_
  exact z_ret_l B dX12_pack_104 ⟨rfl, rfl, hI, (fun b9 h9 => rfl)⟩

set_option maxHeartbeats 4000000 in
set_option maxRecDepth 100000 in
theorem r_pack_97_116_101_0_0_0 (G : EnvG) (l : Launch) (Φ : Hm) (sz x : Nat) (rd : (Nat → Int32) → Prop) (nw : (Nat → Int32) → Prop) (cr : (Nat → Int64) → Prop) (tp : (Nat → Int32) → Prop) (tt : (Nat → Int64) → Prop) (sI : (Nat → Int32) → Prop) (sT : (Nat → Int32) → Prop) (pt : (Nat → Int32) → Prop) (ql : (Nat → Int32) → Prop) (fl : Nat) (pe : Nat) (le : Nat) (nx : Nat) (il : Nat) (qu : Nat) (kn : Int32) (ec : Int32) (nu : Int32) (va : Int64) (st : Nat) (ep : Int32) (ti : Int32) (ad : Int32) (ob : Int64) (ra : Int32) (rt : Nat) (ex : Int32) (sa : Int64) (us : Int64) (tk : Nat) (th : Int32) (me : Int32) (dr : Int32) (se : Int64) (sn : Int64)  (hx : G.2.2.2 ≤ x) (hI : Im G x (rd, nw, cr, tp, tt, sI, sT, pt, ql, fl, pe, le, nx, il, qu, kn, ec, nu, va, st, ep, ti, ad, ob, ra, rt, ex, sa, us, tk, th, me, dr, se, sn) Φ) (hnw : ∀ f9 : Nat → Int32, nw f9 → NN f9) : Ct G l yX12_pack wsX12_pack ({ frames := 0, cells := 0, slots := 0, locals := 0 }) 0 0 [.int 97, .int 116, .int 101, .int 0, .int 0, .int 0] Φ sz (fun v Φ1 sz1 => (v = some (.long 1669)) ∧ sz1 = sz ∧ (Im G x (rd, nw, cr, tp, tt, sI, sT, pt, ql, fl, pe, le, nx, il, qu, kn, ec, nu, va, st, ep, ti, ad, ob, ra, rt, ex, sa, us, tk, th, me, dr, se, sn) Φ1) ∧ Fr x (fun j9 => False) Φ Φ1) := by
  refine Ct.of (cc := cX12_pack) (maxL := 8) (ret := (some .long)) (by decide) rfl (Nat.le_of_ble_eq_true rfl) ?_
  intro p9 e9 s9 m9 w9 t9 k9 B
  show Z p9 l e9 _ s9 m9 _ w9 t9 k9 _ G 8 0 [(0, .int 97), (1, .int 116), (2, .int 101), (3, .int 0), (4, .int 0), (5, .int 0)] [] Φ sz 0 0
  refine z_iload_n B dX12_pack_0 rfl 0 rfl ?_
  refine z_i2l (v := 97) B dX12_pack_1 (by decide +kernel) ?_
  refine z_ldc2 (v := 96) B (by decide +kernel) dX12_pack_2 ?_
  refine z_lsub B dX12_pack_5 ?_
  refine z_top (st1 := [.long 1]) (congrArg (fun w9 : Int64 => ([.long w9] : List Value)) (show (97 - 96 : Int64) = 1 by decide +kernel)) ?_
  refine z_ldc2 (v := 32) B (by decide +kernel) dX12_pack_6 ?_
  refine z_lmul B dX12_pack_9 ?_
  refine z_top (st1 := [.long 32]) (congrArg (fun w9 : Int64 => ([.long w9] : List Value)) (show (1 * 32 : Int64) = 32 by decide +kernel)) ?_
  refine z_iload_n B dX12_pack_10 rfl 1 rfl ?_
  refine z_i2l (v := 116) B dX12_pack_11 (by decide +kernel) ?_
  refine z_ladd B dX12_pack_12 ?_
  refine z_top (st1 := [.long 148]) (congrArg (fun w9 : Int64 => ([.long w9] : List Value)) (show (32 + 116 : Int64) = 148 by decide +kernel)) ?_
  refine z_ldc2 (v := 96) B (by decide +kernel) dX12_pack_13 ?_
  refine z_lsub B dX12_pack_16 ?_
  refine z_top (st1 := [.long 52]) (congrArg (fun w9 : Int64 => ([.long w9] : List Value)) (show (148 - 96 : Int64) = 52 by decide +kernel)) ?_
  refine z_ldc2 (v := 32) B (by decide +kernel) dX12_pack_17 ?_
  refine z_lmul B dX12_pack_20 ?_
  refine z_top (st1 := [.long 1664]) (congrArg (fun w9 : Int64 => ([.long w9] : List Value)) (show (52 * 32 : Int64) = 1664 by decide +kernel)) ?_
  refine z_iload_n B dX12_pack_21 rfl 2 rfl ?_
  refine z_i2l (v := 101) B dX12_pack_22 (by decide +kernel) ?_
  refine z_ladd B dX12_pack_23 ?_
  refine z_top (st1 := [.long 1765]) (congrArg (fun w9 : Int64 => ([.long w9] : List Value)) (show (1664 + 101 : Int64) = 1765 by decide +kernel)) ?_
  refine z_ldc2 (v := 96) B (by decide +kernel) dX12_pack_24 ?_
  refine z_lsub B dX12_pack_27 ?_
  refine z_top (st1 := [.long 1669]) (congrArg (fun w9 : Int64 => ([.long w9] : List Value)) (show (1765 - 96 : Int64) = 1669 by decide +kernel)) ?_
  refine z_lstore (lv' := [(6, .long 1669), (0, .int 97), (1, .int 116), (2, .int 101), (3, .int 0), (4, .int 0), (5, .int 0)]) B dX12_pack_28 (Nat.le_of_ble_eq_true rfl) rfl ?_
  refine z_iload_n B dX12_pack_30 rfl 4 rfl ?_
  refine z_if_ne (tgt := 39) B dX12_pack_31 rfl (fun h9 => absurd (by decide) h9) (fun c_1 => ?_)
  refine z_lload B dX12_pack_34 0 rfl ?_
  refine z_goto (tgt := 52) B dX12_pack_36 rfl ?_
  refine z_lstore (lv' := [(6, .long 1669), (0, .int 97), (1, .int 116), (2, .int 101), (3, .int 0), (4, .int 0), (5, .int 0)]) B dX12_pack_52 (Nat.le_of_ble_eq_true rfl) rfl ?_
  refine z_iload B dX12_pack_54 5 rfl ?_
  refine z_if_ne (tgt := 64) B dX12_pack_56 rfl (fun h9 => absurd (by decide) h9) (fun c_2 => ?_)
  refine z_lload B dX12_pack_59 0 rfl ?_
  refine z_goto (tgt := 78) B dX12_pack_61 rfl ?_
  refine z_lstore (lv' := [(6, .long 1669), (0, .int 97), (1, .int 116), (2, .int 101), (3, .int 0), (4, .int 0), (5, .int 0)]) B dX12_pack_78 (Nat.le_of_ble_eq_true rfl) rfl ?_
  refine z_iload B dX12_pack_80 6 rfl ?_
  refine z_if_ne (tgt := 90) B dX12_pack_82 rfl (fun h9 => absurd (by decide) h9) (fun c_3 => ?_)
  refine z_lload B dX12_pack_85 0 rfl ?_
  refine z_goto (tgt := 104) B dX12_pack_87 rfl ?_
  exact z_ret_l B dX12_pack_104 ⟨rfl, rfl, hI, (fun b9 h9 => rfl)⟩

set_option maxHeartbeats 4000000 in
set_option maxRecDepth 100000 in
theorem r_pack_97_116_105_111_110_0 (G : EnvG) (l : Launch) (Φ : Hm) (sz x : Nat) (rd : (Nat → Int32) → Prop) (nw : (Nat → Int32) → Prop) (cr : (Nat → Int64) → Prop) (tp : (Nat → Int32) → Prop) (tt : (Nat → Int64) → Prop) (sI : (Nat → Int32) → Prop) (sT : (Nat → Int32) → Prop) (pt : (Nat → Int32) → Prop) (ql : (Nat → Int32) → Prop) (fl : Nat) (pe : Nat) (le : Nat) (nx : Nat) (il : Nat) (qu : Nat) (kn : Int32) (ec : Int32) (nu : Int32) (va : Int64) (st : Nat) (ep : Int32) (ti : Int32) (ad : Int32) (ob : Int64) (ra : Int32) (rt : Nat) (ex : Int32) (sa : Int64) (us : Int64) (tk : Nat) (th : Int32) (me : Int32) (dr : Int32) (se : Int64) (sn : Int64)  (hx : G.2.2.2 ≤ x) (hI : Im G x (rd, nw, cr, tp, tt, sI, sT, pt, ql, fl, pe, le, nx, il, qu, kn, ec, nu, va, st, ep, ti, ad, ob, ra, rt, ex, sa, us, tk, th, me, dr, se, sn) Φ) (hnw : ∀ f9 : Nat → Int32, nw f9 → NN f9) : Ct G l yX12_pack wsX12_pack ({ frames := 0, cells := 0, slots := 0, locals := 0 }) 0 0 [.int 97, .int 116, .int 105, .int 111, .int 110, .int 0] Φ sz (fun v Φ1 sz1 => (v = some (.long 1713646)) ∧ sz1 = sz ∧ (Im G x (rd, nw, cr, tp, tt, sI, sT, pt, ql, fl, pe, le, nx, il, qu, kn, ec, nu, va, st, ep, ti, ad, ob, ra, rt, ex, sa, us, tk, th, me, dr, se, sn) Φ1) ∧ Fr x (fun j9 => False) Φ Φ1) := by
  refine Ct.of (cc := cX12_pack) (maxL := 8) (ret := (some .long)) (by decide) rfl (Nat.le_of_ble_eq_true rfl) ?_
  intro p9 e9 s9 m9 w9 t9 k9 B
  show Z p9 l e9 _ s9 m9 _ w9 t9 k9 _ G 8 0 [(0, .int 97), (1, .int 116), (2, .int 105), (3, .int 111), (4, .int 110), (5, .int 0)] [] Φ sz 0 0
  refine z_iload_n B dX12_pack_0 rfl 0 rfl ?_
  refine z_i2l (v := 97) B dX12_pack_1 (by decide +kernel) ?_
  refine z_ldc2 (v := 96) B (by decide +kernel) dX12_pack_2 ?_
  refine z_lsub B dX12_pack_5 ?_
  refine z_top (st1 := [.long 1]) (congrArg (fun w9 : Int64 => ([.long w9] : List Value)) (show (97 - 96 : Int64) = 1 by decide +kernel)) ?_
  refine z_ldc2 (v := 32) B (by decide +kernel) dX12_pack_6 ?_
  refine z_lmul B dX12_pack_9 ?_
  refine z_top (st1 := [.long 32]) (congrArg (fun w9 : Int64 => ([.long w9] : List Value)) (show (1 * 32 : Int64) = 32 by decide +kernel)) ?_
  refine z_iload_n B dX12_pack_10 rfl 1 rfl ?_
  refine z_i2l (v := 116) B dX12_pack_11 (by decide +kernel) ?_
  refine z_ladd B dX12_pack_12 ?_
  refine z_top (st1 := [.long 148]) (congrArg (fun w9 : Int64 => ([.long w9] : List Value)) (show (32 + 116 : Int64) = 148 by decide +kernel)) ?_
  refine z_ldc2 (v := 96) B (by decide +kernel) dX12_pack_13 ?_
  refine z_lsub B dX12_pack_16 ?_
  refine z_top (st1 := [.long 52]) (congrArg (fun w9 : Int64 => ([.long w9] : List Value)) (show (148 - 96 : Int64) = 52 by decide +kernel)) ?_
  refine z_ldc2 (v := 32) B (by decide +kernel) dX12_pack_17 ?_
  refine z_lmul B dX12_pack_20 ?_
  refine z_top (st1 := [.long 1664]) (congrArg (fun w9 : Int64 => ([.long w9] : List Value)) (show (52 * 32 : Int64) = 1664 by decide +kernel)) ?_
  refine z_iload_n B dX12_pack_21 rfl 2 rfl ?_
  refine z_i2l (v := 105) B dX12_pack_22 (by decide +kernel) ?_
  refine z_ladd B dX12_pack_23 ?_
  refine z_top (st1 := [.long 1769]) (congrArg (fun w9 : Int64 => ([.long w9] : List Value)) (show (1664 + 105 : Int64) = 1769 by decide +kernel)) ?_
  refine z_ldc2 (v := 96) B (by decide +kernel) dX12_pack_24 ?_
  refine z_lsub B dX12_pack_27 ?_
  refine z_top (st1 := [.long 1673]) (congrArg (fun w9 : Int64 => ([.long w9] : List Value)) (show (1769 - 96 : Int64) = 1673 by decide +kernel)) ?_
  refine z_lstore (lv' := [(6, .long 1673), (0, .int 97), (1, .int 116), (2, .int 105), (3, .int 111), (4, .int 110), (5, .int 0)]) B dX12_pack_28 (Nat.le_of_ble_eq_true rfl) rfl ?_
  refine z_iload_n B dX12_pack_30 rfl 4 rfl ?_
  refine z_if_ne (tgt := 39) B dX12_pack_31 rfl (fun c_1 => ?_) (fun h9 => absurd h9 (by decide))
  refine z_lload B dX12_pack_39 0 rfl ?_
  refine z_ldc2 (v := 32) B (by decide +kernel) dX12_pack_41 ?_
  refine z_lmul B dX12_pack_44 ?_
  refine z_top (st1 := [.long 53536]) (congrArg (fun w9 : Int64 => ([.long w9] : List Value)) (show (1673 * 32 : Int64) = 53536 by decide +kernel)) ?_
  refine z_iload_n B dX12_pack_45 rfl 4 rfl ?_
  refine z_i2l (v := 111) B dX12_pack_46 (by decide +kernel) ?_
  refine z_ladd B dX12_pack_47 ?_
  refine z_top (st1 := [.long 53647]) (congrArg (fun w9 : Int64 => ([.long w9] : List Value)) (show (53536 + 111 : Int64) = 53647 by decide +kernel)) ?_
  refine z_ldc2 (v := 96) B (by decide +kernel) dX12_pack_48 ?_
  refine z_lsub B dX12_pack_51 ?_
  refine z_top (st1 := [.long 53551]) (congrArg (fun w9 : Int64 => ([.long w9] : List Value)) (show (53647 - 96 : Int64) = 53551 by decide +kernel)) ?_
  refine z_lstore (lv' := [(6, .long 53551), (0, .int 97), (1, .int 116), (2, .int 105), (3, .int 111), (4, .int 110), (5, .int 0)]) B dX12_pack_52 (Nat.le_of_ble_eq_true rfl) rfl ?_
  refine z_iload B dX12_pack_54 5 rfl ?_
  refine z_if_ne (tgt := 64) B dX12_pack_56 rfl (fun c_2 => ?_) (fun h9 => absurd h9 (by decide))
  refine z_lload B dX12_pack_64 0 rfl ?_
  refine z_ldc2 (v := 32) B (by decide +kernel) dX12_pack_66 ?_
  refine z_lmul B dX12_pack_69 ?_
  refine z_top (st1 := [.long 1713632]) (congrArg (fun w9 : Int64 => ([.long w9] : List Value)) (show (53551 * 32 : Int64) = 1713632 by decide +kernel)) ?_
  refine z_iload B dX12_pack_70 5 rfl ?_
  refine z_i2l (v := 110) B dX12_pack_72 (by decide +kernel) ?_
  refine z_ladd B dX12_pack_73 ?_
  refine z_top (st1 := [.long 1713742]) (congrArg (fun w9 : Int64 => ([.long w9] : List Value)) (show (1713632 + 110 : Int64) = 1713742 by decide +kernel)) ?_
  refine z_ldc2 (v := 96) B (by decide +kernel) dX12_pack_74 ?_
  refine z_lsub B dX12_pack_77 ?_
  refine z_top (st1 := [.long 1713646]) (congrArg (fun w9 : Int64 => ([.long w9] : List Value)) (show (1713742 - 96 : Int64) = 1713646 by decide +kernel)) ?_
  refine z_lstore (lv' := [(6, .long 1713646), (0, .int 97), (1, .int 116), (2, .int 105), (3, .int 111), (4, .int 110), (5, .int 0)]) B dX12_pack_78 (Nat.le_of_ble_eq_true rfl) rfl ?_
  refine z_iload B dX12_pack_80 6 rfl ?_
  refine z_if_ne (tgt := 90) B dX12_pack_82 rfl (fun h9 => absurd (by decide) h9) (fun c_3 => ?_)
  refine z_lload B dX12_pack_85 0 rfl ?_
  refine z_goto (tgt := 104) B dX12_pack_87 rfl ?_
  exact z_ret_l B dX12_pack_104 ⟨rfl, rfl, hI, (fun b9 h9 => rfl)⟩

set_option maxHeartbeats 4000000 in
set_option maxRecDepth 100000 in
theorem r_pack_98_117_100_103_101_116 (G : EnvG) (l : Launch) (Φ : Hm) (sz x : Nat) (rd : (Nat → Int32) → Prop) (nw : (Nat → Int32) → Prop) (cr : (Nat → Int64) → Prop) (tp : (Nat → Int32) → Prop) (tt : (Nat → Int64) → Prop) (sI : (Nat → Int32) → Prop) (sT : (Nat → Int32) → Prop) (pt : (Nat → Int32) → Prop) (ql : (Nat → Int32) → Prop) (fl : Nat) (pe : Nat) (le : Nat) (nx : Nat) (il : Nat) (qu : Nat) (kn : Int32) (ec : Int32) (nu : Int32) (va : Int64) (st : Nat) (ep : Int32) (ti : Int32) (ad : Int32) (ob : Int64) (ra : Int32) (rt : Nat) (ex : Int32) (sa : Int64) (us : Int64) (tk : Nat) (th : Int32) (me : Int32) (dr : Int32) (se : Int64) (sn : Int64)  (hx : G.2.2.2 ≤ x) (hI : Im G x (rd, nw, cr, tp, tt, sI, sT, pt, ql, fl, pe, le, nx, il, qu, kn, ec, nu, va, st, ep, ti, ad, ob, ra, rt, ex, sa, us, tk, th, me, dr, se, sn) Φ) (hnw : ∀ f9 : Nat → Int32, nw f9 → NN f9) : Ct G l yX12_pack wsX12_pack ({ frames := 0, cells := 0, slots := 0, locals := 0 }) 0 0 [.int 98, .int 117, .int 100, .int 103, .int 101, .int 116] Φ sz (fun v Φ1 sz1 => (v = some (.long 89267380)) ∧ sz1 = sz ∧ (Im G x (rd, nw, cr, tp, tt, sI, sT, pt, ql, fl, pe, le, nx, il, qu, kn, ec, nu, va, st, ep, ti, ad, ob, ra, rt, ex, sa, us, tk, th, me, dr, se, sn) Φ1) ∧ Fr x (fun j9 => False) Φ Φ1) := by
  refine Ct.of (cc := cX12_pack) (maxL := 8) (ret := (some .long)) (by decide) rfl (Nat.le_of_ble_eq_true rfl) ?_
  intro p9 e9 s9 m9 w9 t9 k9 B
  show Z p9 l e9 _ s9 m9 _ w9 t9 k9 _ G 8 0 [(0, .int 98), (1, .int 117), (2, .int 100), (3, .int 103), (4, .int 101), (5, .int 116)] [] Φ sz 0 0
  refine z_iload_n B dX12_pack_0 rfl 0 rfl ?_
  refine z_i2l (v := 98) B dX12_pack_1 (by decide +kernel) ?_
  refine z_ldc2 (v := 96) B (by decide +kernel) dX12_pack_2 ?_
  refine z_lsub B dX12_pack_5 ?_
  refine z_top (st1 := [.long 2]) (congrArg (fun w9 : Int64 => ([.long w9] : List Value)) (show (98 - 96 : Int64) = 2 by decide +kernel)) ?_
  refine z_ldc2 (v := 32) B (by decide +kernel) dX12_pack_6 ?_
  refine z_lmul B dX12_pack_9 ?_
  refine z_top (st1 := [.long 64]) (congrArg (fun w9 : Int64 => ([.long w9] : List Value)) (show (2 * 32 : Int64) = 64 by decide +kernel)) ?_
  refine z_iload_n B dX12_pack_10 rfl 1 rfl ?_
  refine z_i2l (v := 117) B dX12_pack_11 (by decide +kernel) ?_
  refine z_ladd B dX12_pack_12 ?_
  refine z_top (st1 := [.long 181]) (congrArg (fun w9 : Int64 => ([.long w9] : List Value)) (show (64 + 117 : Int64) = 181 by decide +kernel)) ?_
  refine z_ldc2 (v := 96) B (by decide +kernel) dX12_pack_13 ?_
  refine z_lsub B dX12_pack_16 ?_
  refine z_top (st1 := [.long 85]) (congrArg (fun w9 : Int64 => ([.long w9] : List Value)) (show (181 - 96 : Int64) = 85 by decide +kernel)) ?_
  refine z_ldc2 (v := 32) B (by decide +kernel) dX12_pack_17 ?_
  refine z_lmul B dX12_pack_20 ?_
  refine z_top (st1 := [.long 2720]) (congrArg (fun w9 : Int64 => ([.long w9] : List Value)) (show (85 * 32 : Int64) = 2720 by decide +kernel)) ?_
  refine z_iload_n B dX12_pack_21 rfl 2 rfl ?_
  refine z_i2l (v := 100) B dX12_pack_22 (by decide +kernel) ?_
  refine z_ladd B dX12_pack_23 ?_
  refine z_top (st1 := [.long 2820]) (congrArg (fun w9 : Int64 => ([.long w9] : List Value)) (show (2720 + 100 : Int64) = 2820 by decide +kernel)) ?_
  refine z_ldc2 (v := 96) B (by decide +kernel) dX12_pack_24 ?_
  refine z_lsub B dX12_pack_27 ?_
  refine z_top (st1 := [.long 2724]) (congrArg (fun w9 : Int64 => ([.long w9] : List Value)) (show (2820 - 96 : Int64) = 2724 by decide +kernel)) ?_
  refine z_lstore (lv' := [(6, .long 2724), (0, .int 98), (1, .int 117), (2, .int 100), (3, .int 103), (4, .int 101), (5, .int 116)]) B dX12_pack_28 (Nat.le_of_ble_eq_true rfl) rfl ?_
  refine z_iload_n B dX12_pack_30 rfl 4 rfl ?_
  refine z_if_ne (tgt := 39) B dX12_pack_31 rfl (fun c_1 => ?_) (fun h9 => absurd h9 (by decide))
  refine z_lload B dX12_pack_39 0 rfl ?_
  refine z_ldc2 (v := 32) B (by decide +kernel) dX12_pack_41 ?_
  refine z_lmul B dX12_pack_44 ?_
  refine z_top (st1 := [.long 87168]) (congrArg (fun w9 : Int64 => ([.long w9] : List Value)) (show (2724 * 32 : Int64) = 87168 by decide +kernel)) ?_
  refine z_iload_n B dX12_pack_45 rfl 4 rfl ?_
  refine z_i2l (v := 103) B dX12_pack_46 (by decide +kernel) ?_
  refine z_ladd B dX12_pack_47 ?_
  refine z_top (st1 := [.long 87271]) (congrArg (fun w9 : Int64 => ([.long w9] : List Value)) (show (87168 + 103 : Int64) = 87271 by decide +kernel)) ?_
  refine z_ldc2 (v := 96) B (by decide +kernel) dX12_pack_48 ?_
  refine z_lsub B dX12_pack_51 ?_
  refine z_top (st1 := [.long 87175]) (congrArg (fun w9 : Int64 => ([.long w9] : List Value)) (show (87271 - 96 : Int64) = 87175 by decide +kernel)) ?_
  refine z_lstore (lv' := [(6, .long 87175), (0, .int 98), (1, .int 117), (2, .int 100), (3, .int 103), (4, .int 101), (5, .int 116)]) B dX12_pack_52 (Nat.le_of_ble_eq_true rfl) rfl ?_
  refine z_iload B dX12_pack_54 5 rfl ?_
  refine z_if_ne (tgt := 64) B dX12_pack_56 rfl (fun c_2 => ?_) (fun h9 => absurd h9 (by decide))
  refine z_lload B dX12_pack_64 0 rfl ?_
  refine z_ldc2 (v := 32) B (by decide +kernel) dX12_pack_66 ?_
  refine z_lmul B dX12_pack_69 ?_
  refine z_top (st1 := [.long 2789600]) (congrArg (fun w9 : Int64 => ([.long w9] : List Value)) (show (87175 * 32 : Int64) = 2789600 by decide +kernel)) ?_
  refine z_iload B dX12_pack_70 5 rfl ?_
  refine z_i2l (v := 101) B dX12_pack_72 (by decide +kernel) ?_
  refine z_ladd B dX12_pack_73 ?_
  refine z_top (st1 := [.long 2789701]) (congrArg (fun w9 : Int64 => ([.long w9] : List Value)) (show (2789600 + 101 : Int64) = 2789701 by decide +kernel)) ?_
  refine z_ldc2 (v := 96) B (by decide +kernel) dX12_pack_74 ?_
  refine z_lsub B dX12_pack_77 ?_
  refine z_top (st1 := [.long 2789605]) (congrArg (fun w9 : Int64 => ([.long w9] : List Value)) (show (2789701 - 96 : Int64) = 2789605 by decide +kernel)) ?_
  refine z_lstore (lv' := [(6, .long 2789605), (0, .int 98), (1, .int 117), (2, .int 100), (3, .int 103), (4, .int 101), (5, .int 116)]) B dX12_pack_78 (Nat.le_of_ble_eq_true rfl) rfl ?_
  refine z_iload B dX12_pack_80 6 rfl ?_
  refine z_if_ne (tgt := 90) B dX12_pack_82 rfl (fun c_3 => ?_) (fun h9 => absurd h9 (by decide))
  refine z_lload B dX12_pack_90 0 rfl ?_
  refine z_ldc2 (v := 32) B (by decide +kernel) dX12_pack_92 ?_
  refine z_lmul B dX12_pack_95 ?_
  refine z_top (st1 := [.long 89267360]) (congrArg (fun w9 : Int64 => ([.long w9] : List Value)) (show (2789605 * 32 : Int64) = 89267360 by decide +kernel)) ?_
  refine z_iload B dX12_pack_96 6 rfl ?_
  refine z_i2l (v := 116) B dX12_pack_98 (by decide +kernel) ?_
  refine z_ladd B dX12_pack_99 ?_
  refine z_top (st1 := [.long 89267476]) (congrArg (fun w9 : Int64 => ([.long w9] : List Value)) (show (89267360 + 116 : Int64) = 89267476 by decide +kernel)) ?_
  refine z_ldc2 (v := 96) B (by decide +kernel) dX12_pack_100 ?_
  refine z_lsub B dX12_pack_103 ?_
  refine z_top (st1 := [.long 89267380]) (congrArg (fun w9 : Int64 => ([.long w9] : List Value)) (show (89267476 - 96 : Int64) = 89267380 by decide +kernel)) ?_
  exact z_ret_l B dX12_pack_104 ⟨rfl, rfl, hI, (fun b9 h9 => rfl)⟩

set_option maxHeartbeats 4000000 in
set_option maxRecDepth 100000 in
theorem r_pack_98_121_116_101_115_0 (G : EnvG) (l : Launch) (Φ : Hm) (sz x : Nat) (rd : (Nat → Int32) → Prop) (nw : (Nat → Int32) → Prop) (cr : (Nat → Int64) → Prop) (tp : (Nat → Int32) → Prop) (tt : (Nat → Int64) → Prop) (sI : (Nat → Int32) → Prop) (sT : (Nat → Int32) → Prop) (pt : (Nat → Int32) → Prop) (ql : (Nat → Int32) → Prop) (fl : Nat) (pe : Nat) (le : Nat) (nx : Nat) (il : Nat) (qu : Nat) (kn : Int32) (ec : Int32) (nu : Int32) (va : Int64) (st : Nat) (ep : Int32) (ti : Int32) (ad : Int32) (ob : Int64) (ra : Int32) (rt : Nat) (ex : Int32) (sa : Int64) (us : Int64) (tk : Nat) (th : Int32) (me : Int32) (dr : Int32) (se : Int64) (sn : Int64)  (hx : G.2.2.2 ≤ x) (hI : Im G x (rd, nw, cr, tp, tt, sI, sT, pt, ql, fl, pe, le, nx, il, qu, kn, ec, nu, va, st, ep, ti, ad, ob, ra, rt, ex, sa, us, tk, th, me, dr, se, sn) Φ) (hnw : ∀ f9 : Nat → Int32, nw f9 → NN f9) : Ct G l yX12_pack wsX12_pack ({ frames := 0, cells := 0, slots := 0, locals := 0 }) 0 0 [.int 98, .int 121, .int 116, .int 101, .int 115, .int 0] Φ sz (fun v Φ1 sz1 => (v = some (.long 2937011)) ∧ sz1 = sz ∧ (Im G x (rd, nw, cr, tp, tt, sI, sT, pt, ql, fl, pe, le, nx, il, qu, kn, ec, nu, va, st, ep, ti, ad, ob, ra, rt, ex, sa, us, tk, th, me, dr, se, sn) Φ1) ∧ Fr x (fun j9 => False) Φ Φ1) := by
  refine Ct.of (cc := cX12_pack) (maxL := 8) (ret := (some .long)) (by decide) rfl (Nat.le_of_ble_eq_true rfl) ?_
  intro p9 e9 s9 m9 w9 t9 k9 B
  show Z p9 l e9 _ s9 m9 _ w9 t9 k9 _ G 8 0 [(0, .int 98), (1, .int 121), (2, .int 116), (3, .int 101), (4, .int 115), (5, .int 0)] [] Φ sz 0 0
  refine z_iload_n B dX12_pack_0 rfl 0 rfl ?_
  refine z_i2l (v := 98) B dX12_pack_1 (by decide +kernel) ?_
  refine z_ldc2 (v := 96) B (by decide +kernel) dX12_pack_2 ?_
  refine z_lsub B dX12_pack_5 ?_
  refine z_top (st1 := [.long 2]) (congrArg (fun w9 : Int64 => ([.long w9] : List Value)) (show (98 - 96 : Int64) = 2 by decide +kernel)) ?_
  refine z_ldc2 (v := 32) B (by decide +kernel) dX12_pack_6 ?_
  refine z_lmul B dX12_pack_9 ?_
  refine z_top (st1 := [.long 64]) (congrArg (fun w9 : Int64 => ([.long w9] : List Value)) (show (2 * 32 : Int64) = 64 by decide +kernel)) ?_
  refine z_iload_n B dX12_pack_10 rfl 1 rfl ?_
  refine z_i2l (v := 121) B dX12_pack_11 (by decide +kernel) ?_
  refine z_ladd B dX12_pack_12 ?_
  refine z_top (st1 := [.long 185]) (congrArg (fun w9 : Int64 => ([.long w9] : List Value)) (show (64 + 121 : Int64) = 185 by decide +kernel)) ?_
  refine z_ldc2 (v := 96) B (by decide +kernel) dX12_pack_13 ?_
  refine z_lsub B dX12_pack_16 ?_
  refine z_top (st1 := [.long 89]) (congrArg (fun w9 : Int64 => ([.long w9] : List Value)) (show (185 - 96 : Int64) = 89 by decide +kernel)) ?_
  refine z_ldc2 (v := 32) B (by decide +kernel) dX12_pack_17 ?_
  refine z_lmul B dX12_pack_20 ?_
  refine z_top (st1 := [.long 2848]) (congrArg (fun w9 : Int64 => ([.long w9] : List Value)) (show (89 * 32 : Int64) = 2848 by decide +kernel)) ?_
  refine z_iload_n B dX12_pack_21 rfl 2 rfl ?_
  refine z_i2l (v := 116) B dX12_pack_22 (by decide +kernel) ?_
  refine z_ladd B dX12_pack_23 ?_
  refine z_top (st1 := [.long 2964]) (congrArg (fun w9 : Int64 => ([.long w9] : List Value)) (show (2848 + 116 : Int64) = 2964 by decide +kernel)) ?_
  refine z_ldc2 (v := 96) B (by decide +kernel) dX12_pack_24 ?_
  refine z_lsub B dX12_pack_27 ?_
  refine z_top (st1 := [.long 2868]) (congrArg (fun w9 : Int64 => ([.long w9] : List Value)) (show (2964 - 96 : Int64) = 2868 by decide +kernel)) ?_
  refine z_lstore (lv' := [(6, .long 2868), (0, .int 98), (1, .int 121), (2, .int 116), (3, .int 101), (4, .int 115), (5, .int 0)]) B dX12_pack_28 (Nat.le_of_ble_eq_true rfl) rfl ?_
  refine z_iload_n B dX12_pack_30 rfl 4 rfl ?_
  refine z_if_ne (tgt := 39) B dX12_pack_31 rfl (fun c_1 => ?_) (fun h9 => absurd h9 (by decide))
  refine z_lload B dX12_pack_39 0 rfl ?_
  refine z_ldc2 (v := 32) B (by decide +kernel) dX12_pack_41 ?_
  refine z_lmul B dX12_pack_44 ?_
  refine z_top (st1 := [.long 91776]) (congrArg (fun w9 : Int64 => ([.long w9] : List Value)) (show (2868 * 32 : Int64) = 91776 by decide +kernel)) ?_
  refine z_iload_n B dX12_pack_45 rfl 4 rfl ?_
  refine z_i2l (v := 101) B dX12_pack_46 (by decide +kernel) ?_
  refine z_ladd B dX12_pack_47 ?_
  refine z_top (st1 := [.long 91877]) (congrArg (fun w9 : Int64 => ([.long w9] : List Value)) (show (91776 + 101 : Int64) = 91877 by decide +kernel)) ?_
  refine z_ldc2 (v := 96) B (by decide +kernel) dX12_pack_48 ?_
  refine z_lsub B dX12_pack_51 ?_
  refine z_top (st1 := [.long 91781]) (congrArg (fun w9 : Int64 => ([.long w9] : List Value)) (show (91877 - 96 : Int64) = 91781 by decide +kernel)) ?_
  refine z_lstore (lv' := [(6, .long 91781), (0, .int 98), (1, .int 121), (2, .int 116), (3, .int 101), (4, .int 115), (5, .int 0)]) B dX12_pack_52 (Nat.le_of_ble_eq_true rfl) rfl ?_
  refine z_iload B dX12_pack_54 5 rfl ?_
  refine z_if_ne (tgt := 64) B dX12_pack_56 rfl (fun c_2 => ?_) (fun h9 => absurd h9 (by decide))
  refine z_lload B dX12_pack_64 0 rfl ?_
  refine z_ldc2 (v := 32) B (by decide +kernel) dX12_pack_66 ?_
  refine z_lmul B dX12_pack_69 ?_
  refine z_top (st1 := [.long 2936992]) (congrArg (fun w9 : Int64 => ([.long w9] : List Value)) (show (91781 * 32 : Int64) = 2936992 by decide +kernel)) ?_
  refine z_iload B dX12_pack_70 5 rfl ?_
  refine z_i2l (v := 115) B dX12_pack_72 (by decide +kernel) ?_
  refine z_ladd B dX12_pack_73 ?_
  refine z_top (st1 := [.long 2937107]) (congrArg (fun w9 : Int64 => ([.long w9] : List Value)) (show (2936992 + 115 : Int64) = 2937107 by decide +kernel)) ?_
  refine z_ldc2 (v := 96) B (by decide +kernel) dX12_pack_74 ?_
  refine z_lsub B dX12_pack_77 ?_
  refine z_top (st1 := [.long 2937011]) (congrArg (fun w9 : Int64 => ([.long w9] : List Value)) (show (2937107 - 96 : Int64) = 2937011 by decide +kernel)) ?_
  refine z_lstore (lv' := [(6, .long 2937011), (0, .int 98), (1, .int 121), (2, .int 116), (3, .int 101), (4, .int 115), (5, .int 0)]) B dX12_pack_78 (Nat.le_of_ble_eq_true rfl) rfl ?_
  refine z_iload B dX12_pack_80 6 rfl ?_
  refine z_if_ne (tgt := 90) B dX12_pack_82 rfl (fun h9 => absurd (by decide) h9) (fun c_3 => ?_)
  refine z_lload B dX12_pack_85 0 rfl ?_
  refine z_goto (tgt := 104) B dX12_pack_87 rfl ?_
  exact z_ret_l B dX12_pack_104 ⟨rfl, rfl, hI, (fun b9 h9 => rfl)⟩

set_option maxHeartbeats 4000000 in
set_option maxRecDepth 100000 in
theorem r_pack_99_111_108_0_0_0 (G : EnvG) (l : Launch) (Φ : Hm) (sz x : Nat) (rd : (Nat → Int32) → Prop) (nw : (Nat → Int32) → Prop) (cr : (Nat → Int64) → Prop) (tp : (Nat → Int32) → Prop) (tt : (Nat → Int64) → Prop) (sI : (Nat → Int32) → Prop) (sT : (Nat → Int32) → Prop) (pt : (Nat → Int32) → Prop) (ql : (Nat → Int32) → Prop) (fl : Nat) (pe : Nat) (le : Nat) (nx : Nat) (il : Nat) (qu : Nat) (kn : Int32) (ec : Int32) (nu : Int32) (va : Int64) (st : Nat) (ep : Int32) (ti : Int32) (ad : Int32) (ob : Int64) (ra : Int32) (rt : Nat) (ex : Int32) (sa : Int64) (us : Int64) (tk : Nat) (th : Int32) (me : Int32) (dr : Int32) (se : Int64) (sn : Int64)  (hx : G.2.2.2 ≤ x) (hI : Im G x (rd, nw, cr, tp, tt, sI, sT, pt, ql, fl, pe, le, nx, il, qu, kn, ec, nu, va, st, ep, ti, ad, ob, ra, rt, ex, sa, us, tk, th, me, dr, se, sn) Φ) (hnw : ∀ f9 : Nat → Int32, nw f9 → NN f9) : Ct G l yX12_pack wsX12_pack ({ frames := 0, cells := 0, slots := 0, locals := 0 }) 0 0 [.int 99, .int 111, .int 108, .int 0, .int 0, .int 0] Φ sz (fun v Φ1 sz1 => (v = some (.long 3564)) ∧ sz1 = sz ∧ (Im G x (rd, nw, cr, tp, tt, sI, sT, pt, ql, fl, pe, le, nx, il, qu, kn, ec, nu, va, st, ep, ti, ad, ob, ra, rt, ex, sa, us, tk, th, me, dr, se, sn) Φ1) ∧ Fr x (fun j9 => False) Φ Φ1) := by
  refine Ct.of (cc := cX12_pack) (maxL := 8) (ret := (some .long)) (by decide) rfl (Nat.le_of_ble_eq_true rfl) ?_
  intro p9 e9 s9 m9 w9 t9 k9 B
  show Z p9 l e9 _ s9 m9 _ w9 t9 k9 _ G 8 0 [(0, .int 99), (1, .int 111), (2, .int 108), (3, .int 0), (4, .int 0), (5, .int 0)] [] Φ sz 0 0
  refine z_iload_n B dX12_pack_0 rfl 0 rfl ?_
  refine z_i2l (v := 99) B dX12_pack_1 (by decide +kernel) ?_
  refine z_ldc2 (v := 96) B (by decide +kernel) dX12_pack_2 ?_
  refine z_lsub B dX12_pack_5 ?_
  refine z_top (st1 := [.long 3]) (congrArg (fun w9 : Int64 => ([.long w9] : List Value)) (show (99 - 96 : Int64) = 3 by decide +kernel)) ?_
  refine z_ldc2 (v := 32) B (by decide +kernel) dX12_pack_6 ?_
  refine z_lmul B dX12_pack_9 ?_
  refine z_top (st1 := [.long 96]) (congrArg (fun w9 : Int64 => ([.long w9] : List Value)) (show (3 * 32 : Int64) = 96 by decide +kernel)) ?_
  refine z_iload_n B dX12_pack_10 rfl 1 rfl ?_
  refine z_i2l (v := 111) B dX12_pack_11 (by decide +kernel) ?_
  refine z_ladd B dX12_pack_12 ?_
  refine z_top (st1 := [.long 207]) (congrArg (fun w9 : Int64 => ([.long w9] : List Value)) (show (96 + 111 : Int64) = 207 by decide +kernel)) ?_
  refine z_ldc2 (v := 96) B (by decide +kernel) dX12_pack_13 ?_
  refine z_lsub B dX12_pack_16 ?_
  refine z_top (st1 := [.long 111]) (congrArg (fun w9 : Int64 => ([.long w9] : List Value)) (show (207 - 96 : Int64) = 111 by decide +kernel)) ?_
  refine z_ldc2 (v := 32) B (by decide +kernel) dX12_pack_17 ?_
  refine z_lmul B dX12_pack_20 ?_
  refine z_top (st1 := [.long 3552]) (congrArg (fun w9 : Int64 => ([.long w9] : List Value)) (show (111 * 32 : Int64) = 3552 by decide +kernel)) ?_
  refine z_iload_n B dX12_pack_21 rfl 2 rfl ?_
  refine z_i2l (v := 108) B dX12_pack_22 (by decide +kernel) ?_
  refine z_ladd B dX12_pack_23 ?_
  refine z_top (st1 := [.long 3660]) (congrArg (fun w9 : Int64 => ([.long w9] : List Value)) (show (3552 + 108 : Int64) = 3660 by decide +kernel)) ?_
  refine z_ldc2 (v := 96) B (by decide +kernel) dX12_pack_24 ?_
  refine z_lsub B dX12_pack_27 ?_
  refine z_top (st1 := [.long 3564]) (congrArg (fun w9 : Int64 => ([.long w9] : List Value)) (show (3660 - 96 : Int64) = 3564 by decide +kernel)) ?_
  refine z_lstore (lv' := [(6, .long 3564), (0, .int 99), (1, .int 111), (2, .int 108), (3, .int 0), (4, .int 0), (5, .int 0)]) B dX12_pack_28 (Nat.le_of_ble_eq_true rfl) rfl ?_
  refine z_iload_n B dX12_pack_30 rfl 4 rfl ?_
  refine z_if_ne (tgt := 39) B dX12_pack_31 rfl (fun h9 => absurd (by decide) h9) (fun c_1 => ?_)
  refine z_lload B dX12_pack_34 0 rfl ?_
  refine z_goto (tgt := 52) B dX12_pack_36 rfl ?_
  refine z_lstore (lv' := [(6, .long 3564), (0, .int 99), (1, .int 111), (2, .int 108), (3, .int 0), (4, .int 0), (5, .int 0)]) B dX12_pack_52 (Nat.le_of_ble_eq_true rfl) rfl ?_
  refine z_iload B dX12_pack_54 5 rfl ?_
  refine z_if_ne (tgt := 64) B dX12_pack_56 rfl (fun h9 => absurd (by decide) h9) (fun c_2 => ?_)
  refine z_lload B dX12_pack_59 0 rfl ?_
  refine z_goto (tgt := 78) B dX12_pack_61 rfl ?_
  refine z_lstore (lv' := [(6, .long 3564), (0, .int 99), (1, .int 111), (2, .int 108), (3, .int 0), (4, .int 0), (5, .int 0)]) B dX12_pack_78 (Nat.le_of_ble_eq_true rfl) rfl ?_
  refine z_iload B dX12_pack_80 6 rfl ?_
  refine z_if_ne (tgt := 90) B dX12_pack_82 rfl (fun h9 => absurd (by decide) h9) (fun c_3 => ?_)
  refine z_lload B dX12_pack_85 0 rfl ?_
  refine z_goto (tgt := 104) B dX12_pack_87 rfl ?_
  exact z_ret_l B dX12_pack_104 ⟨rfl, rfl, hI, (fun b9 h9 => rfl)⟩

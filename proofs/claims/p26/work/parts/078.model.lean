set_option maxRecDepth 20000 in
theorem ggX12_remember_X12_trueKeyOf : GoodIn wsX12_remember wsX12_trueKeyOf := goodIn_ca ((goodIn_ca (goodIn_r _ [8, 1, 2, 9, 10, 7, 11] rfl (by decide +kernel)) (goodIn_sub (fun _ h => List.mem_cons_of_mem _ (List.mem_append_left _ (List.mem_append_right _ h))) gw_wsX120))) (goodIn_sub (fun _ h => List.mem_cons_of_mem _ (List.mem_append_right _ h)) (all_fg _))
set_option maxRecDepth 20000 in
theorem gX12_remember_X12_trueKeyOf : GoodIn wsX12_remember (wsV RX12 434 RX12 yX12_trueKeyOf wsX12_trueKeyOf) := goodIn_app (goodIn_m (mem_cA (List.mem_cons_of_mem _ (List.mem_append_left _ (List.mem_append_left _ (List.mem_of_getElem? (i := 3) rfl)))) (mem_cA (List.mem_cons_of_mem _ (List.mem_append_left _ (List.mem_append_left _ (List.mem_of_getElem? (i := 4) rfl)))) (mem_cA (List.mem_cons_of_mem _ (List.mem_append_left _ (List.mem_append_left _ (List.mem_of_getElem? (i := 5) rfl)))) (mem_cA (List.mem_cons_of_mem _ (List.mem_append_left _ (List.mem_append_left _ (List.mem_of_getElem? (i := 6) rfl)))) mem_cZ)))) (by decide +kernel)) ggX12_remember_X12_trueKeyOf
theorem dX12_remember_0 : decode cX12_remember 0 = .ok (.aload_n 0, 1) := by decide +kernel
theorem dX12_remember_1 : decode cX12_remember 1 = .ok (.iload_n 1, 1) := by decide +kernel
theorem dX12_remember_2 : decode cX12_remember 2 = .ok (.iload_n 2, 1) := by decide +kernel
theorem dX12_remember_3 : decode cX12_remember 3 = .ok (.iload_n 3, 1) := by decide +kernel
theorem dX12_remember_4 : decode cX12_remember 4 = .ok (.iload 4, 2) := by decide +kernel
theorem dX12_remember_6 : decode cX12_remember 6 = .ok (.invokevirtual 434, 3) := by decide +kernel
theorem dX12_remember_9 : decode cX12_remember 9 = .ok (.istore 6, 2) := by decide +kernel
theorem dX12_remember_11 : decode cX12_remember 11 = .ok (.iload 6, 2) := by decide +kernel
theorem dX12_remember_13 : decode cX12_remember 13 = .ok (.iconst (-1), 1) := by decide +kernel
theorem dX12_remember_14 : decode cX12_remember 14 = .ok (.if_icmp .ne 13, 3) := by decide +kernel
theorem dX12_remember_17 : decode cX12_remember 17 = .ok (.aload_n 0, 1) := by decide +kernel
theorem dX12_remember_18 : decode cX12_remember 18 = .ok (.getfield 145, 3) := by decide +kernel
theorem dX12_remember_21 : decode cX12_remember 21 = .ok (.bipush 24, 2) := by decide +kernel
theorem dX12_remember_23 : decode cX12_remember 23 = .ok (.if_icmp .ne 4, 3) := by decide +kernel
theorem dX12_remember_26 : decode cX12_remember 26 = .ok (.return_, 1) := by decide +kernel
theorem dX12_remember_27 : decode cX12_remember 27 = .ok (.iload 6, 2) := by decide +kernel
theorem dX12_remember_29 : decode cX12_remember 29 = .ok (.iconst (-1), 1) := by decide +kernel
theorem dX12_remember_30 : decode cX12_remember 30 = .ok (.if_icmp .ne 88, 3) := by decide +kernel
theorem dX12_remember_33 : decode cX12_remember 33 = .ok (.aload_n 0, 1) := by decide +kernel
theorem dX12_remember_34 : decode cX12_remember 34 = .ok (.getfield 145, 3) := by decide +kernel
theorem dX12_remember_37 : decode cX12_remember 37 = .ok (.istore 6, 2) := by decide +kernel
theorem dX12_remember_39 : decode cX12_remember 39 = .ok (.aload_n 0, 1) := by decide +kernel
theorem dX12_remember_40 : decode cX12_remember 40 = .ok (.dup, 1) := by decide +kernel
theorem dX12_remember_41 : decode cX12_remember 41 = .ok (.getfield 145, 3) := by decide +kernel
theorem dX12_remember_44 : decode cX12_remember 44 = .ok (.iconst 1, 1) := by decide +kernel
theorem dX12_remember_45 : decode cX12_remember 45 = .ok (.iadd, 1) := by decide +kernel
theorem dX12_remember_46 : decode cX12_remember 46 = .ok (.putfield 145, 3) := by decide +kernel
theorem dX12_remember_49 : decode cX12_remember 49 = .ok (.aload_n 0, 1) := by decide +kernel
theorem dX12_remember_50 : decode cX12_remember 50 = .ok (.getfield 82, 3) := by decide +kernel
theorem dX12_remember_53 : decode cX12_remember 53 = .ok (.iconst 4, 1) := by decide +kernel
theorem dX12_remember_54 : decode cX12_remember 54 = .ok (.iload 6, 2) := by decide +kernel
theorem dX12_remember_56 : decode cX12_remember 56 = .ok (.imul, 1) := by decide +kernel
theorem dX12_remember_57 : decode cX12_remember 57 = .ok (.iload_n 1, 1) := by decide +kernel
theorem dX12_remember_58 : decode cX12_remember 58 = .ok (.iastore, 1) := by decide +kernel
theorem dX12_remember_59 : decode cX12_remember 59 = .ok (.aload_n 0, 1) := by decide +kernel
theorem dX12_remember_60 : decode cX12_remember 60 = .ok (.getfield 82, 3) := by decide +kernel
theorem dX12_remember_63 : decode cX12_remember 63 = .ok (.iconst 4, 1) := by decide +kernel
theorem dX12_remember_64 : decode cX12_remember 64 = .ok (.iload 6, 2) := by decide +kernel
theorem dX12_remember_66 : decode cX12_remember 66 = .ok (.imul, 1) := by decide +kernel
theorem dX12_remember_67 : decode cX12_remember 67 = .ok (.iconst 1, 1) := by decide +kernel
theorem dX12_remember_68 : decode cX12_remember 68 = .ok (.iadd, 1) := by decide +kernel
theorem dX12_remember_69 : decode cX12_remember 69 = .ok (.iload_n 2, 1) := by decide +kernel
theorem dX12_remember_70 : decode cX12_remember 70 = .ok (.iastore, 1) := by decide +kernel
theorem dX12_remember_71 : decode cX12_remember 71 = .ok (.aload_n 0, 1) := by decide +kernel
theorem dX12_remember_72 : decode cX12_remember 72 = .ok (.getfield 82, 3) := by decide +kernel
theorem dX12_remember_75 : decode cX12_remember 75 = .ok (.iconst 4, 1) := by decide +kernel
theorem dX12_remember_76 : decode cX12_remember 76 = .ok (.iload 6, 2) := by decide +kernel
theorem dX12_remember_78 : decode cX12_remember 78 = .ok (.imul, 1) := by decide +kernel
theorem dX12_remember_79 : decode cX12_remember 79 = .ok (.iconst 2, 1) := by decide +kernel
theorem dX12_remember_80 : decode cX12_remember 80 = .ok (.iadd, 1) := by decide +kernel
theorem dX12_remember_81 : decode cX12_remember 81 = .ok (.iload_n 3, 1) := by decide +kernel
theorem dX12_remember_82 : decode cX12_remember 82 = .ok (.iastore, 1) := by decide +kernel
theorem dX12_remember_83 : decode cX12_remember 83 = .ok (.aload_n 0, 1) := by decide +kernel
theorem dX12_remember_84 : decode cX12_remember 84 = .ok (.getfield 82, 3) := by decide +kernel
theorem dX12_remember_87 : decode cX12_remember 87 = .ok (.iconst 4, 1) := by decide +kernel
theorem dX12_remember_88 : decode cX12_remember 88 = .ok (.iload 6, 2) := by decide +kernel
theorem dX12_remember_90 : decode cX12_remember 90 = .ok (.imul, 1) := by decide +kernel
theorem dX12_remember_91 : decode cX12_remember 91 = .ok (.iconst 3, 1) := by decide +kernel
theorem dX12_remember_92 : decode cX12_remember 92 = .ok (.iadd, 1) := by decide +kernel
theorem dX12_remember_93 : decode cX12_remember 93 = .ok (.iload 4, 2) := by decide +kernel
theorem dX12_remember_95 : decode cX12_remember 95 = .ok (.iastore, 1) := by decide +kernel
theorem dX12_remember_96 : decode cX12_remember 96 = .ok (.aload_n 0, 1) := by decide +kernel
theorem dX12_remember_97 : decode cX12_remember 97 = .ok (.getfield 85, 3) := by decide +kernel
theorem dX12_remember_100 : decode cX12_remember 100 = .ok (.iconst 2, 1) := by decide +kernel
theorem dX12_remember_101 : decode cX12_remember 101 = .ok (.iload 6, 2) := by decide +kernel
theorem dX12_remember_103 : decode cX12_remember 103 = .ok (.imul, 1) := by decide +kernel
theorem dX12_remember_104 : decode cX12_remember 104 = .ok (.lconst 0, 1) := by decide +kernel
theorem dX12_remember_105 : decode cX12_remember 105 = .ok (.lastore, 1) := by decide +kernel
theorem dX12_remember_106 : decode cX12_remember 106 = .ok (.aload_n 0, 1) := by decide +kernel
theorem dX12_remember_107 : decode cX12_remember 107 = .ok (.getfield 85, 3) := by decide +kernel
theorem dX12_remember_110 : decode cX12_remember 110 = .ok (.iconst 2, 1) := by decide +kernel
theorem dX12_remember_111 : decode cX12_remember 111 = .ok (.iload 6, 2) := by decide +kernel
theorem dX12_remember_113 : decode cX12_remember 113 = .ok (.imul, 1) := by decide +kernel
theorem dX12_remember_114 : decode cX12_remember 114 = .ok (.iconst 1, 1) := by decide +kernel
theorem dX12_remember_115 : decode cX12_remember 115 = .ok (.iadd, 1) := by decide +kernel
theorem dX12_remember_116 : decode cX12_remember 116 = .ok (.lconst 0, 1) := by decide +kernel
theorem dX12_remember_117 : decode cX12_remember 117 = .ok (.lastore, 1) := by decide +kernel
theorem dX12_remember_118 : decode cX12_remember 118 = .ok (.aload_n 0, 1) := by decide +kernel
theorem dX12_remember_119 : decode cX12_remember 119 = .ok (.getfield 85, 3) := by decide +kernel
theorem dX12_remember_122 : decode cX12_remember 122 = .ok (.iconst 2, 1) := by decide +kernel
theorem dX12_remember_123 : decode cX12_remember 123 = .ok (.iload 6, 2) := by decide +kernel
theorem dX12_remember_125 : decode cX12_remember 125 = .ok (.imul, 1) := by decide +kernel
theorem dX12_remember_126 : decode cX12_remember 126 = .ok (.dup2, 1) := by decide +kernel
theorem dX12_remember_127 : decode cX12_remember 127 = .ok (.laload, 1) := by decide +kernel
theorem dX12_remember_128 : decode cX12_remember 128 = .ok (.lconst 1, 1) := by decide +kernel
theorem dX12_remember_129 : decode cX12_remember 129 = .ok (.ladd, 1) := by decide +kernel
theorem dX12_remember_130 : decode cX12_remember 130 = .ok (.lastore, 1) := by decide +kernel
theorem dX12_remember_131 : decode cX12_remember 131 = .ok (.aload_n 0, 1) := by decide +kernel
theorem dX12_remember_132 : decode cX12_remember 132 = .ok (.getfield 85, 3) := by decide +kernel
theorem dX12_remember_135 : decode cX12_remember 135 = .ok (.iconst 2, 1) := by decide +kernel
theorem dX12_remember_136 : decode cX12_remember 136 = .ok (.iload 6, 2) := by decide +kernel
theorem dX12_remember_138 : decode cX12_remember 138 = .ok (.imul, 1) := by decide +kernel
theorem dX12_remember_139 : decode cX12_remember 139 = .ok (.iconst 1, 1) := by decide +kernel
theorem dX12_remember_140 : decode cX12_remember 140 = .ok (.iadd, 1) := by decide +kernel
theorem dX12_remember_141 : decode cX12_remember 141 = .ok (.dup2, 1) := by decide +kernel
theorem dX12_remember_142 : decode cX12_remember 142 = .ok (.laload, 1) := by decide +kernel
theorem dX12_remember_143 : decode cX12_remember 143 = .ok (.iload 5, 2) := by decide +kernel
theorem dX12_remember_145 : decode cX12_remember 145 = .ok (.i2l, 1) := by decide +kernel
theorem dX12_remember_146 : decode cX12_remember 146 = .ok (.ladd, 1) := by decide +kernel
theorem dX12_remember_147 : decode cX12_remember 147 = .ok (.lastore, 1) := by decide +kernel
theorem dX12_remember_148 : decode cX12_remember 148 = .ok (.return_, 1) := by decide +kernel
set_option maxHeartbeats 4000000 in
set_option maxRecDepth 100000 in
theorem r_trueKeyOfX (G : EnvG) (l : Launch) (Φ : Hm) (sz x : Nat) (rd : (Nat → Int32) → Prop) (nw : (Nat → Int32) → Prop) (cr : (Nat → Int64) → Prop) (tt : (Nat → Int64) → Prop) (sI : (Nat → Int32) → Prop) (sT : (Nat → Int32) → Prop) (pt : (Nat → Int32) → Prop) (ql : (Nat → Int32) → Prop) (fl : Nat) (pe : Nat) (le : Nat) (nx : Nat) (il : Nat) (qu : Nat) (kn : Int32) (ec : Int32) (nu : Int32) (va : Int64) (st : Nat) (ep : Int32) (ti : Int32) (ad : Int32) (ob : Int64) (ra : Int32) (rt : Nat) (ex : Int32) (sa : Int64) (us : Int64) (tk : Nat) (th : Int32) (me : Int32) (dr : Int32) (se : Int64) (sn : Int64) (Ft : Nat → Fl) (a : Int32) (b : Int32) (d : Int32) (f : Int32) (hx : G.2.2.2 ≤ x) (hI : Im G x (rd, nw, cr, (TpQ tk Ft), tt, sI, sT, pt, ql, fl, pe, le, nx, il, qu, kn, ec, nu, va, st, ep, ti, ad, ob, ra, rt, ex, sa, us, tk, th, me, dr, se, sn) Φ) (hk : KyP a b d f) (hnw : ∀ f9 : Nat → Int32, nw f9 → NN f9) : Ct G l yX12_trueKeyOf wsX12_trueKeyOf ({ frames := 1, cells := 0, slots := 0, locals := 29 }) 0 0 [.ref x, .int a, .int b, .int d, .int f] Φ sz (fun v Φ1 sz1 => ((v = some (.int (-1)) ∧ ¬ ixN Ft (kyN a b d f) tk < tk) ∨ (v = some (.int (nI (ixN Ft (kyN a b d f) tk))) ∧ ixN Ft (kyN a b d f) tk < tk)) ∧ sz1 = sz ∧ (Im G x (rd, nw, cr, (TpQ tk Ft), tt, sI, sT, pt, ql, fl, pe, le, nx, il, qu, kn, ec, nu, va, st, ep, ti, ad, ob, ra, rt, ex, sa, us, tk, th, me, dr, se, sn) Φ1) ∧ Fr x (fun j9 => False) Φ Φ1) := by
  refine Ct.of (cc := cX12_trueKeyOf) (maxL := 6) (ret := (some .int)) (by decide) rfl (Nat.le_of_ble_eq_true rfl) ?_
  intro p9 e9 s9 m9 w9 t9 k9 B
  show Z p9 l e9 _ s9 m9 _ w9 t9 k9 _ G 6 0 [(0, .ref x), (1, .int a), (2, .int b), (3, .int d), (4, .int f)] [] Φ sz 0 0
  refine z_iconst (v := 0) B dX12_trueKeyOf_0 rfl ?_
  refine z_istore (lv' := [(5, .int 0), (0, .ref x), (1, .int a), (2, .int b), (3, .int d), (4, .int f)]) B dX12_trueKeyOf_1 (Nat.le_of_ble_eq_true rfl) rfl ?_
  refine z_lv [0, 1, 2, 3, 4, 5] rfl ?_
  refine z_loop (α := Nat) (fun (a9 : Nat) Φi => Im G x (rd, nw, cr, (TpQ tk Ft), tt, sI, sT, pt, ql, fl, pe, le, nx, il, qu, kn, ec, nu, va, st, ep, ti, ad, ob, ra, rt, ex, sa, us, tk, th, me, dr, se, sn) Φi ∧ Fr x (fun j9 => False) Φ Φi ∧ (a9 ≤ 24) ∧ (a9 ≤ tk) ∧ (∀ i9, i9 < a9 → ¬ (Ft i9).1 = kyN a b d f) ∧ True) (fun a9 => [(5, .int (nI a9)), (0, .ref x), (1, .int a), (2, .int b), (3, .int d), (4, .int f)]) (fun a9 => 24 - a9) ?_ (0) ⟨hI, fun _ _ => rfl, (show 0 ≤ 24 by omega), (show 0 ≤ tk by omega), (fun i9 h9 => absurd h9 (Nat.not_lt_zero i9)), trivial⟩
  rintro i_1 Φl1 ⟨hI1, hF1, b_1, b_2, b_3, -⟩ ih1
  replace hI1 : Im G x (rd, nw, cr, (TpQ tk Ft), tt, sI, sT, pt, ql, fl, pe, le, nx, il, qu, kn, ec, nu, va, st, ep, ti, ad, ob, ra, rt, ex, sa, us, tk, th, me, dr, se, sn) Φl1 := hI1
  replace b_1 : i_1 ≤ 24 := b_1
  replace b_2 : i_1 ≤ tk := b_2
  replace b_3 : ∀ i9, i9 < i_1 → ¬ (Ft i9).1 = kyN a b d f := b_3
  show Z p9 l e9 _ s9 m9 _ w9 t9 k9 _ G 6 3 [(5, .int (nI i_1)), (0, .ref x), (1, .int a), (2, .int b), (3, .int d), (4, .int f)] [] Φl1 _ _ _
  refine z_iload B dX12_trueKeyOf_3 0 rfl ?_
  refine z_aload_n B dX12_trueKeyOf_5 rfl 1 rfl ?_
  obtain ⟨n_1, v_1, n_2, h_1, b_16, b_4, b_5, b_6, b_7, b_8, b_9, b_10, b_11, b_12, b_13, b_14, b_15⟩ := im0 hI1
  replace b_4 : 1 ≤ rt := b_4
  replace b_5 : rt ≤ 1024 := b_5
  replace b_6 : fl ≤ 12 := b_6
  replace b_7 : pe ≤ 24 := b_7
  replace b_8 : le ≤ 700 := b_8
  replace b_9 : qu ≤ 12 := b_9
  replace b_10 : n_1 ≤ 8 := b_10
  replace b_11 : n_2 ≤ 24 := b_11
  replace b_12 : tk ≤ 24 := b_12
  replace b_13 : il ≤ 700 := b_13
  replace b_14 : nx ≤ 701 := b_14
  replace b_15 : st ≤ 701 := b_15
  have h_2 : Φl1 x = some (o_ 14 [.int th, .ref (x + 1), .ref (x + 2), .int ti, .int ra, .int (nI rt), .int ex, .int ad, .ref (x + 3), .ref (x + 4), .int me, .long se, .ref (x + 5), .int (nI fl), .int dr, .long ob, .long sa, .long sn, .long us, .ref (x + 6), .ref (x + 7), .int (nI pe), .ref (x + 8), .int (nI le), .ref (x + 9), .ref (x + 10), .int (nI qu), .ref (x + 11), .ref (x + 12), .ref (x + 13), .ref (x + 14), .ref (x + 15), .ref (x + 16), .int (nI n_1), .long v_1, .ref (x + 17), .ref (x + 18), .ref (x + 19), .ref (x + 20), .ref (x + 21), .ref (x + 22), .int (nI n_2), .ref (x + 23), .ref (x + 24), .int (nI tk), .ref (x + 25), .int (nI il), .int (nI nx), .int ec, .int ep, .int kn, .int (nI st), .int nu, .long va]) := h_1
  refine z_get (ref := "FlowExporterModel") (C := RX12) (T := TX12) (N := 54) (ci := 14) (v := .int (nI tk)) B hu_X12_trueKeyOf_X12 rfl 44 (Nat.le_of_ble_eq_true rfl) hv_X12_trueKeyOf_145 rfl h_2 rfl dX12_trueKeyOf_6 ?_
  refine z_icmp_ge (tgt := 42) B dX12_trueKeyOf_9 rfl (fun c_1 => ?_) (fun c_1 => ?_)
  · have e_1 : tk ≤ i_1 := (nI_leI (a := tk) (b := i_1) (by omega) (by omega)).mp c_1
    refine z_iconst (v := (-1)) B dX12_trueKeyOf_42 rfl ?_
    have hq9 : ixN Ft (kyN a b d f) tk = tk := ixN_no tk (fun i9 h9 => b_3 i9 (by omega))
    exact z_ret_i B dX12_trueKeyOf_43 ⟨(Or.inl ⟨rfl, by omega⟩), rfl, hI1, (fun b9 h9 => ((hF1 b9 (fun j9 h8 h7 => (show False from h7).elim)).trans rfl))⟩
  · have e_2 : ¬ (tk ≤ i_1) := fun h9 => c_1 ((nI_leI (a := tk) (b := i_1) (by omega) (by omega)).mpr h9)
    obtain ⟨f_1, h_3, r_1⟩ := imk (k := 23) hI1
    replace r_1 : (TpQ tk Ft) f_1 := r_1
    have h_4 : Φl1 (x + 23) = some (ai_ G 96 f_1) := h_3
    refine z_aload_n B dX12_trueKeyOf_12 rfl 1 rfl ?_
    refine z_get (ref := "FlowExporterModel") (C := RX12) (T := TX12) (N := 54) (ci := 14) (v := .ref (x + 23)) B hu_X12_trueKeyOf_X12 rfl 42 (Nat.le_of_ble_eq_true rfl) hv_X12_trueKeyOf_82 rfl h_2 rfl dX12_trueKeyOf_13 ?_
    refine z_iload B dX12_trueKeyOf_16 0 rfl ?_
    refine z_iload_n B dX12_trueKeyOf_18 rfl 2 rfl ?_
    refine z_i2l (v := a.toInt64) B dX12_trueKeyOf_19 rfl ?_
    refine z_iload_n B dX12_trueKeyOf_20 rfl 3 rfl ?_
    refine z_i2l (v := b.toInt64) B dX12_trueKeyOf_21 rfl ?_
    refine z_iload_n B dX12_trueKeyOf_22 rfl 4 rfl ?_
    refine z_i2l (v := d.toInt64) B dX12_trueKeyOf_23 rfl ?_
    refine z_iload B dX12_trueKeyOf_24 5 rfl ?_
    refine z_i2l (v := f.toInt64) B dX12_trueKeyOf_26 rfl ?_
    refine z_callS (As := [.ref (x + 23), .int (nI i_1), .long a.toInt64, .long b.toInt64, .long d.toInt64, .long f.toInt64]) (rest := []) B (r_isSame_23X G l Φl1 sz x rd nw cr tt sI sT pt ql fl pe le nx il qu kn ec nu va st ep ti ad ob ra rt ex sa us tk th me dr se sn Ft i_1 a.toInt64 b.toInt64 d.toInt64 f.toInt64 hx hI1 (show i_1 < tk by omega) (show i_1 < 24 by omega) hnw) (va_cwS 6 B.1.2.2.2.2 gX12_trueKeyOf_X12_isSame rfl rfl rfl (by decide +kernel) ⟨Nat.le_of_ble_eq_true rfl, Nat.le_of_ble_eq_true rfl⟩) rfl rfl (Nat.le_of_ble_eq_true rfl) dX12_trueKeyOf_27 ⟨Nat.le_of_ble_eq_true rfl, Nat.le_of_ble_eq_true rfl⟩ (fun r_2 Φ1 sz1 st1 hp1 hs1 => ?_)
    obtain ⟨ha1, hq1, hI2, hF2⟩ := hp1
    subst sz1
    replace hI2 : Im G x (rd, nw, cr, (TpQ tk Ft), tt, sI, sT, pt, ql, fl, pe, le, nx, il, qu, kn, ec, nu, va, st, ep, ti, ad, ob, ra, rt, ex, sa, us, tk, th, me, dr, se, sn) Φ1 := hI2
    rcases ha1 with ⟨rfl, e_3⟩ | ⟨rfl, e_4⟩
    · replace hs1 : st1 = [.int 1] := hs1
      subst st1
      replace e_3 : sm4 (Ft i_1).1 a.toInt64 b.toInt64 d.toInt64 f.toInt64 := e_3
      refine z_if_eq (tgt := 36) B dX12_trueKeyOf_30 rfl (fun h9 => absurd h9 (by decide)) (fun c_2 => ?_)
      refine z_iload B dX12_trueKeyOf_33 0 rfl ?_
      have hq9 : ixN Ft (kyN a b d f) tk = i_1 := ixN_ok b_3 ((sm4_key hk (r_1 i_1 (by omega)).1.1).mp e_3) tk (by omega)
      exact z_ret_i B dX12_trueKeyOf_35 ⟨(Or.inr ⟨congrArg (fun w9 : Nat => some (Value.int (nI w9))) hq9.symm, by omega⟩), rfl, hI2, (fun b9 h9 => ((hF2 b9 (fun j9 h8 h7 => (show False from h7).elim)).trans ((hF1 b9 (fun j9 h8 h7 => (show False from h7).elim)).trans rfl)))⟩
    · replace hs1 : st1 = [.int 0] := hs1
      subst st1
      replace e_4 : ¬ sm4 (Ft i_1).1 a.toInt64 b.toInt64 d.toInt64 f.toInt64 := e_4
      refine z_if_eq (tgt := 36) B dX12_trueKeyOf_30 rfl (fun c_3 => ?_) (fun h9 => absurd (by decide) h9)
      refine z_iinc (k := 0) (v := nI (i_1 + 1)) (lv' := [(5, .int (nI (i_1 + 1))), (0, .ref x), (1, .int a), (2, .int b), (3, .int d), (4, .int f)]) B dX12_trueKeyOf_36 rfl (nI_add i_1 1) (Nat.le_of_ble_eq_true rfl) rfl ?_
      refine z_goto (tgt := 3) B dX12_trueKeyOf_39 rfl ?_
      refine z_lv [0, 1, 2, 3, 4, 5] rfl ?_
      exact ih1 (i_1 + 1) Φ1 (show 24 - (i_1 + 1) < 24 - i_1 by omega) ⟨hI2, (fun b9 h9 => ((hF2 b9 (fun j9 h8 h7 => (show False from h7).elim)).trans ((hF1 b9 (fun j9 h8 h7 => (show False from h7).elim)).trans rfl))), (show (i_1 + 1) ≤ 24 by omega), (show (i_1 + 1) ≤ tk by omega), (all_s b_3 (fun h9 => e_4 ((sm4_key hk (r_1 i_1 (by omega)).1.1).mpr h9))), trivial⟩

theorem hu_X12_remember_X12 : ∀ w ∈ u_ws RX12 TX12 54, w ∈ wsX12_remember := fun _ h => List.mem_cons_of_mem _ (List.mem_append_left _ (List.mem_append_right _ (h)))

theorem hv_X12_remember_145 : Cond.fieldLink RX12 145 "FlowExporterModel" (TX12 44).2.1 (TX12 44).2.2.1 ∈ wsX12_remember := List.mem_cons_of_mem _ (List.mem_append_left _ (List.mem_append_left _ (List.mem_of_getElem? (i := 0) rfl)))

theorem hv_X12_remember_82 : Cond.fieldLink RX12 82 "FlowExporterModel" (TX12 42).2.1 (TX12 42).2.2.1 ∈ wsX12_remember := List.mem_cons_of_mem _ (List.mem_append_left _ (List.mem_append_left _ (List.mem_of_getElem? (i := 1) rfl)))

theorem hv_X12_remember_85 : Cond.fieldLink RX12 85 "FlowExporterModel" (TX12 43).2.1 (TX12 43).2.2.1 ∈ wsX12_remember := List.mem_cons_of_mem _ (List.mem_append_left _ (List.mem_append_left _ (List.mem_of_getElem? (i := 2) rfl)))

set_option maxHeartbeats 4000000 in
set_option maxRecDepth 100000 in
theorem r_remember (G : EnvG) (l : Launch) (Φ : Hm) (sz x : Nat) (rd : (Nat → Int32) → Prop) (nw : (Nat → Int32) → Prop) (cr : (Nat → Int64) → Prop) (sI : (Nat → Int32) → Prop) (sT : (Nat → Int32) → Prop) (pt : (Nat → Int32) → Prop) (ql : (Nat → Int32) → Prop) (fl : Nat) (pe : Nat) (le : Nat) (nx : Nat) (il : Nat) (qu : Nat) (kn : Int32) (ec : Int32) (nu : Int32) (va : Int64) (st : Nat) (ep : Int32) (ad : Int32) (ob : Int64) (ra : Int32) (rt : Nat) (ex : Int32) (sa : Int64) (us : Int64) (tk : Nat) (th : Int32) (me : Int32) (dr : Int32) (se : Int64) (sn : Int64) (Ft : Nat → Fl) (tm : Nat) (a : Int32) (b : Int32) (d : Int32) (f : Int32) (g : Int32) (hx : G.2.2.2 ≤ x) (hI : Im G x (rd, nw, cr, (TpQ tk Ft), (TtQ tk Ft), sI, sT, pt, ql, fl, pe, le, nx, il, qu, kn, ec, nu, va, st, ep, (nI tm), ad, ob, ra, rt, ex, sa, us, tk, th, me, dr, se, sn) Φ) (hk : KyP a b d f) (htm : tm ≤ 1000000) (hnw : ∀ f9 : Nat → Int32, nw f9 → NN f9) : Ct G l yX12_remember wsX12_remember ({ frames := 2, cells := 0, slots := 0, locals := 54 }) 0 0 [.ref x, .int a, .int b, .int d, .int f, .int g] Φ sz (fun v Φ1 sz1 => (v = none) ∧ sz1 = sz ∧ (∃ (tk1 : Nat) (G1 : Nat → Fl), (rmS (kyN a b d f) g.toInt64 1 tm (tk, Ft) = (tk1, G1)) ∧ Im G x (rd, nw, cr, (TpQ tk1 G1), (TtQ tk1 G1), sI, sT, pt, ql, fl, pe, le, nx, il, qu, kn, ec, nu, va, st, ep, (nI tm), ad, ob, ra, rt, ex, sa, us, tk1, th, me, dr, se, sn) Φ1) ∧ Fr x (fun j9 => j9 = 0 ∨ j9 = 23 ∨ j9 = 24) Φ Φ1) := by
  refine Ct.of (cc := cX12_remember) (maxL := 7) (ret := none) (by decide) rfl (Nat.le_of_ble_eq_true rfl) ?_
  intro p9 e9 s9 m9 w9 t9 k9 B
  show Z p9 l e9 _ s9 m9 _ w9 t9 k9 _ G 7 0 [(0, .ref x), (1, .int a), (2, .int b), (3, .int d), (4, .int f), (5, .int g)] [] Φ sz 0 0
  obtain ⟨f_1, h_1, r_1⟩ := imk (k := 23) hI
  replace r_1 : (TpQ tk Ft) f_1 := r_1
  have h_2 : Φ (x + 23) = some (ai_ G 96 f_1) := h_1
  obtain ⟨f_2, h_3, r_2⟩ := imk (k := 24) hI
  replace r_2 : (TtQ tk Ft) f_2 := r_2
  have h_4 : Φ (x + 24) = some (al_ G 48 f_2) := h_3
  refine z_aload_n B dX12_remember_0 rfl 0 rfl ?_
  refine z_iload_n B dX12_remember_1 rfl 1 rfl ?_
  refine z_iload_n B dX12_remember_2 rfl 2 rfl ?_
  refine z_iload_n B dX12_remember_3 rfl 3 rfl ?_
  refine z_iload B dX12_remember_4 4 rfl ?_
  obtain ⟨n_1, v_1, n_2, h_5, b_13, b_1, b_2, b_3, b_4, b_5, b_6, b_7, b_8, b_9, b_10, b_11, b_12⟩ := im0 hI
  replace b_1 : 1 ≤ rt := b_1
  replace b_2 : rt ≤ 1024 := b_2
  replace b_3 : fl ≤ 12 := b_3
  replace b_4 : pe ≤ 24 := b_4
  replace b_5 : le ≤ 700 := b_5
  replace b_6 : qu ≤ 12 := b_6
  replace b_7 : n_1 ≤ 8 := b_7
  replace b_8 : n_2 ≤ 24 := b_8
  replace b_9 : tk ≤ 24 := b_9
  replace b_10 : il ≤ 700 := b_10
  replace b_11 : nx ≤ 701 := b_11
  replace b_12 : st ≤ 701 := b_12
  have h_6 : Φ x = some (o_ 14 [.int th, .ref (x + 1), .ref (x + 2), .int (nI tm), .int ra, .int (nI rt), .int ex, .int ad, .ref (x + 3), .ref (x + 4), .int me, .long se, .ref (x + 5), .int (nI fl), .int dr, .long ob, .long sa, .long sn, .long us, .ref (x + 6), .ref (x + 7), .int (nI pe), .ref (x + 8), .int (nI le), .ref (x + 9), .ref (x + 10), .int (nI qu), .ref (x + 11), .ref (x + 12), .ref (x + 13), .ref (x + 14), .ref (x + 15), .ref (x + 16), .int (nI n_1), .long v_1, .ref (x + 17), .ref (x + 18), .ref (x + 19), .ref (x + 20), .ref (x + 21), .ref (x + 22), .int (nI n_2), .ref (x + 23), .ref (x + 24), .int (nI tk), .ref (x + 25), .int (nI il), .int (nI nx), .int ec, .int ep, .int kn, .int (nI st), .int nu, .long va]) := h_5
  refine z_callV (As := [.int a, .int b, .int d, .int f]) (rest := []) B (r_trueKeyOfX G l Φ sz x rd nw cr (TtQ tk Ft) sI sT pt ql fl pe le nx il qu kn ec nu va st ep (nI tm) ad ob ra rt ex sa us tk th me dr se sn Ft a b d f hx hI hk hnw) (cwV 4 B.1.2.2.2.2 gX12_remember_X12_trueKeyOf rfl rfl rfl (by decide +kernel) ⟨Nat.le_of_ble_eq_true rfl, Nat.le_of_ble_eq_true rfl⟩) h_6 rfl rfl rfl rfl (Nat.le_of_ble_eq_true rfl) dX12_remember_6 ⟨Nat.le_of_ble_eq_true rfl, Nat.le_of_ble_eq_true rfl⟩ (fun r_3 Φ1 sz1 st1 hp1 hs1 => ?_)
  obtain ⟨ha1, hq1, hI1, hF1⟩ := hp1
  subst sz1
  replace hI1 : Im G x (rd, nw, cr, (TpQ tk Ft), (TtQ tk Ft), sI, sT, pt, ql, fl, pe, le, nx, il, qu, kn, ec, nu, va, st, ep, (nI tm), ad, ob, ra, rt, ex, sa, us, tk, th, me, dr, se, sn) Φ1 := hI1
  rcases ha1 with ⟨rfl, e_1⟩ | ⟨rfl, e_2⟩
  · replace hs1 : st1 = [.int (-1)] := hs1
    subst st1
    replace e_1 : ¬ ixN Ft (kyN a b d f) tk < tk := e_1
    refine z_istore (lv' := [(6, .int (-1)), (0, .ref x), (1, .int a), (2, .int b), (3, .int d), (4, .int f), (5, .int g)]) B dX12_remember_9 (Nat.le_of_ble_eq_true rfl) rfl ?_
    refine z_iload B dX12_remember_11 0 rfl ?_
    refine z_iconst (v := (-1)) B dX12_remember_13 rfl ?_
    refine z_icmp_ne (tgt := 27) B dX12_remember_14 rfl (fun h9 => absurd (by decide) h9) (fun c_1 => ?_)
    refine z_aload_n B dX12_remember_17 rfl 1 rfl ?_
    have h_7 : Φ1 x = some (o_ 14 [.int th, .ref (x + 1), .ref (x + 2), .int (nI tm), .int ra, .int (nI rt), .int ex, .int ad, .ref (x + 3), .ref (x + 4), .int me, .long se, .ref (x + 5), .int (nI fl), .int dr, .long ob, .long sa, .long sn, .long us, .ref (x + 6), .ref (x + 7), .int (nI pe), .ref (x + 8), .int (nI le), .ref (x + 9), .ref (x + 10), .int (nI qu), .ref (x + 11), .ref (x + 12), .ref (x + 13), .ref (x + 14), .ref (x + 15), .ref (x + 16), .int (nI n_1), .long v_1, .ref (x + 17), .ref (x + 18), .ref (x + 19), .ref (x + 20), .ref (x + 21), .ref (x + 22), .int (nI n_2), .ref (x + 23), .ref (x + 24), .int (nI tk), .ref (x + 25), .int (nI il), .int (nI nx), .int ec, .int ep, .int kn, .int (nI st), .int nu, .long va]) := ((hF1 x (fun j9 h8 h7 => (show False from h7).elim)).trans h_6)
    refine z_get (ref := "FlowExporterModel") (C := RX12) (T := TX12) (N := 54) (ci := 14) (v := .int (nI tk)) B hu_X12_remember_X12 rfl 44 (Nat.le_of_ble_eq_true rfl) hv_X12_remember_145 rfl h_7 rfl dX12_remember_18 ?_
    refine z_bipush (v := 24) B dX12_remember_21 rfl ?_
    refine z_icmp_ne (tgt := 27) B dX12_remember_23 rfl (fun c_2 => ?_) (fun c_2 => ?_)
    · have e_3 : ¬ (tk = 24) := fun h9 => c_2 ((nI_eq (a := tk) (b := 24) (by omega) (by omega)).mpr h9)
      refine z_iload B dX12_remember_27 0 rfl ?_
      refine z_iconst (v := (-1)) B dX12_remember_29 rfl ?_
      refine z_icmp_ne (tgt := 118) B dX12_remember_30 rfl (fun h9 => absurd (by decide) h9) (fun c_3 => ?_)
      refine z_aload_n B dX12_remember_33 rfl 1 rfl ?_
      refine z_get (ref := "FlowExporterModel") (C := RX12) (T := TX12) (N := 54) (ci := 14) (v := .int (nI tk)) B hu_X12_remember_X12 rfl 44 (Nat.le_of_ble_eq_true rfl) hv_X12_remember_145 rfl h_7 rfl dX12_remember_34 ?_
      refine z_istore (lv' := [(6, .int (nI tk)), (0, .ref x), (1, .int a), (2, .int b), (3, .int d), (4, .int f), (5, .int g)]) B dX12_remember_37 (Nat.le_of_ble_eq_true rfl) rfl ?_
      refine z_aload_n B dX12_remember_39 rfl 1 rfl ?_
      refine z_dup B dX12_remember_40 rfl ?_
      refine z_get (ref := "FlowExporterModel") (C := RX12) (T := TX12) (N := 54) (ci := 14) (v := .int (nI tk)) B hu_X12_remember_X12 rfl 44 (Nat.le_of_ble_eq_true rfl) hv_X12_remember_145 rfl h_7 rfl dX12_remember_41 ?_
      refine z_iconst (v := 1) B dX12_remember_44 rfl ?_
      refine z_iadd B dX12_remember_45 ?_
      refine z_top (st1 := [.int (nI (tk + 1)), .ref x]) (congrArg (fun w9 : Int32 => ([.int w9, .ref x] : List Value)) (nI_add tk 1)) ?_
      refine z_put (ref := "FlowExporterModel") (C := RX12) (T := TX12) (N := 54) (ci := 14) (v := .int (nI (tk + 1))) B hu_X12_remember_X12 tyX12 tyX12_ok nmX12 rfl 44 (Nat.le_of_ble_eq_true rfl) hv_X12_remember_145 rfl (Or.inl rfl) h_7 hx rfl rfl (Nat.le_of_ble_eq_true rfl) dX12_remember_46 (fun Φ2 hΦ1 => ?_)
      have h_8 : Φ2 x = some (o_ 14 [.int th, .ref (x + 1), .ref (x + 2), .int (nI tm), .int ra, .int (nI rt), .int ex, .int ad, .ref (x + 3), .ref (x + 4), .int me, .long se, .ref (x + 5), .int (nI fl), .int dr, .long ob, .long sa, .long sn, .long us, .ref (x + 6), .ref (x + 7), .int (nI pe), .ref (x + 8), .int (nI le), .ref (x + 9), .ref (x + 10), .int (nI qu), .ref (x + 11), .ref (x + 12), .ref (x + 13), .ref (x + 14), .ref (x + 15), .ref (x + 16), .int (nI n_1), .long v_1, .ref (x + 17), .ref (x + 18), .ref (x + 19), .ref (x + 20), .ref (x + 21), .ref (x + 22), .int (nI n_2), .ref (x + 23), .ref (x + 24), .int (nI (tk + 1)), .ref (x + 25), .int (nI il), .int (nI nx), .int ec, .int ep, .int kn, .int (nI st), .int nu, .long va]) := fset_at hΦ1
      have hI2 : Im G x (rd, nw, cr, (TpQ tk Ft), (TtQ tk Ft), sI, sT, pt, ql, fl, pe, le, nx, il, qu, kn, ec, nu, va, st, ep, nI tm, ad, ob, ra, rt, ex, sa, us, tk + 1, th, me, dr, se, sn) Φ2 := Im.put0 hI1 hΦ1 ⟨n_1, v_1, n_2, rfl, b_13, b_1, b_2, b_3, b_4, b_5, b_6, b_7, b_8, (show (tk + 1) ≤ 24 by omega), b_10, b_11, b_12⟩
      refine z_aload_n B dX12_remember_49 rfl 1 rfl ?_
      refine z_get (ref := "FlowExporterModel") (C := RX12) (T := TX12) (N := 54) (ci := 14) (v := .ref (x + 23)) B hu_X12_remember_X12 rfl 42 (Nat.le_of_ble_eq_true rfl) hv_X12_remember_82 rfl h_8 rfl dX12_remember_50 ?_
      refine z_iconst (v := 4) B dX12_remember_53 rfl ?_
      refine z_iload B dX12_remember_54 0 rfl ?_
      refine z_imul B dX12_remember_56 ?_
      refine z_top (st1 := [.int (nI (4 * tk)), .ref (x + 23)]) (congrArg (fun w9 : Int32 => ([.int w9, .ref (x + 23)] : List Value)) (nI_mul 4 tk)) ?_
      refine z_iload_n B dX12_remember_57 rfl 2 rfl ?_
      have h_9 : Φ2 (x + 23) = some (ai_ G 96 f_1) := ((fset_fr hΦ1 (ne_off (x := x) (i := 23) (j := 0) rfl)).trans ((hF1 (x + 23) (fun j9 h8 h7 => (show False from h7).elim)).trans h_2))
      refine z_iast B h_9 (Nat.le_trans hx (Nat.le_add_right x 23)) (vp_in_nI (by omega) (by omega)) dX12_remember_58 (fun Φ3 hΦ2 => ?_)
      have h_10 : Φ3 (x + 23) = some (ai_ G 96 (upd f_1 (nI (4 * tk)).toNatClampNeg a)) := fset_at hΦ2
      have hI3 : Im G x (rd, nw, cr, (fun g9 => g9 = (upd f_1 (nI (4 * tk)).toNatClampNeg a)), (TtQ tk Ft), sI, sT, pt, ql, fl, pe, le, nx, il, qu, kn, ec, nu, va, st, ep, nI tm, ad, ob, ra, rt, ex, sa, us, tk + 1, th, me, dr, se, sn) Φ3 := Im.put23 (tp1 := (fun g9 => g9 = (upd f_1 (nI (4 * tk)).toNatClampNeg a))) hI2 hΦ2 rfl
      refine z_aload_n B dX12_remember_59 rfl 1 rfl ?_
      have h_11 : Φ3 x = some (o_ 14 [.int th, .ref (x + 1), .ref (x + 2), .int (nI tm), .int ra, .int (nI rt), .int ex, .int ad, .ref (x + 3), .ref (x + 4), .int me, .long se, .ref (x + 5), .int (nI fl), .int dr, .long ob, .long sa, .long sn, .long us, .ref (x + 6), .ref (x + 7), .int (nI pe), .ref (x + 8), .int (nI le), .ref (x + 9), .ref (x + 10), .int (nI qu), .ref (x + 11), .ref (x + 12), .ref (x + 13), .ref (x + 14), .ref (x + 15), .ref (x + 16), .int (nI n_1), .long v_1, .ref (x + 17), .ref (x + 18), .ref (x + 19), .ref (x + 20), .ref (x + 21), .ref (x + 22), .int (nI n_2), .ref (x + 23), .ref (x + 24), .int (nI (tk + 1)), .ref (x + 25), .int (nI il), .int (nI nx), .int ec, .int ep, .int kn, .int (nI st), .int nu, .long va]) := ((fset_fr hΦ2 (ne_off (x := x) (i := 0) (j := 23) rfl)).trans h_8)
      refine z_get (ref := "FlowExporterModel") (C := RX12) (T := TX12) (N := 54) (ci := 14) (v := .ref (x + 23)) B hu_X12_remember_X12 rfl 42 (Nat.le_of_ble_eq_true rfl) hv_X12_remember_82 rfl h_11 rfl dX12_remember_60 ?_
      refine z_iconst (v := 4) B dX12_remember_63 rfl ?_
      refine z_iload B dX12_remember_64 0 rfl ?_
      refine z_imul B dX12_remember_66 ?_
      refine z_top (st1 := [.int (nI (4 * tk)), .ref (x + 23)]) (congrArg (fun w9 : Int32 => ([.int w9, .ref (x + 23)] : List Value)) (nI_mul 4 tk)) ?_
      refine z_iconst (v := 1) B dX12_remember_67 rfl ?_
      refine z_iadd B dX12_remember_68 ?_
      refine z_top (st1 := [.int (nI (4 * tk + 1)), .ref (x + 23)]) (congrArg (fun w9 : Int32 => ([.int w9, .ref (x + 23)] : List Value)) (nI_add (4 * tk) 1)) ?_
      refine z_iload_n B dX12_remember_69 rfl 3 rfl ?_
      refine z_iast B h_10 (Nat.le_trans hx (Nat.le_add_right x 23)) (vp_in_nI (by omega) (by omega)) dX12_remember_70 (fun Φ4 hΦ3 => ?_)
      have h_12 : Φ4 (x + 23) = some (ai_ G 96 (upd (upd f_1 (nI (4 * tk)).toNatClampNeg a) (nI (4 * tk + 1)).toNatClampNeg b)) := fset_at hΦ3
      have hI4 : Im G x (rd, nw, cr, (fun g9 => g9 = (upd (upd f_1 (nI (4 * tk)).toNatClampNeg a) (nI (4 * tk + 1)).toNatClampNeg b)), (TtQ tk Ft), sI, sT, pt, ql, fl, pe, le, nx, il, qu, kn, ec, nu, va, st, ep, nI tm, ad, ob, ra, rt, ex, sa, us, tk + 1, th, me, dr, se, sn) Φ4 := Im.put23 (tp1 := (fun g9 => g9 = (upd (upd f_1 (nI (4 * tk)).toNatClampNeg a) (nI (4 * tk + 1)).toNatClampNeg b))) hI3 hΦ3 rfl
      refine z_aload_n B dX12_remember_71 rfl 1 rfl ?_
      have h_13 : Φ4 x = some (o_ 14 [.int th, .ref (x + 1), .ref (x + 2), .int (nI tm), .int ra, .int (nI rt), .int ex, .int ad, .ref (x + 3), .ref (x + 4), .int me, .long se, .ref (x + 5), .int (nI fl), .int dr, .long ob, .long sa, .long sn, .long us, .ref (x + 6), .ref (x + 7), .int (nI pe), .ref (x + 8), .int (nI le), .ref (x + 9), .ref (x + 10), .int (nI qu), .ref (x + 11), .ref (x + 12), .ref (x + 13), .ref (x + 14), .ref (x + 15), .ref (x + 16), .int (nI n_1), .long v_1, .ref (x + 17), .ref (x + 18), .ref (x + 19), .ref (x + 20), .ref (x + 21), .ref (x + 22), .int (nI n_2), .ref (x + 23), .ref (x + 24), .int (nI (tk + 1)), .ref (x + 25), .int (nI il), .int (nI nx), .int ec, .int ep, .int kn, .int (nI st), .int nu, .long va]) := ((fset_fr hΦ3 (ne_off (x := x) (i := 0) (j := 23) rfl)).trans h_11)
      refine z_get (ref := "FlowExporterModel") (C := RX12) (T := TX12) (N := 54) (ci := 14) (v := .ref (x + 23)) B hu_X12_remember_X12 rfl 42 (Nat.le_of_ble_eq_true rfl) hv_X12_remember_82 rfl h_13 rfl dX12_remember_72 ?_
      refine z_iconst (v := 4) B dX12_remember_75 rfl ?_
      refine z_iload B dX12_remember_76 0 rfl ?_
      refine z_imul B dX12_remember_78 ?_
      refine z_top (st1 := [.int (nI (4 * tk)), .ref (x + 23)]) (congrArg (fun w9 : Int32 => ([.int w9, .ref (x + 23)] : List Value)) (nI_mul 4 tk)) ?_
      refine z_iconst (v := 2) B dX12_remember_79 rfl ?_
      refine z_iadd B dX12_remember_80 ?_
      refine z_top (st1 := [.int (nI (4 * tk + 2)), .ref (x + 23)]) (congrArg (fun w9 : Int32 => ([.int w9, .ref (x + 23)] : List Value)) (nI_add (4 * tk) 2)) ?_
      refine z_iload_n B dX12_remember_81 rfl 4 rfl ?_
      refine z_iast B h_12 (Nat.le_trans hx (Nat.le_add_right x 23)) (vp_in_nI (by omega) (by omega)) dX12_remember_82 (fun Φ5 hΦ4 => ?_)
      have h_14 : Φ5 (x + 23) = some (ai_ G 96 (upd (upd (upd f_1 (nI (4 * tk)).toNatClampNeg a) (nI (4 * tk + 1)).toNatClampNeg b) (nI (4 * tk + 2)).toNatClampNeg d)) := fset_at hΦ4
      have hI5 : Im G x (rd, nw, cr, (fun g9 => g9 = (upd (upd (upd f_1 (nI (4 * tk)).toNatClampNeg a) (nI (4 * tk + 1)).toNatClampNeg b) (nI (4 * tk + 2)).toNatClampNeg d)), (TtQ tk Ft), sI, sT, pt, ql, fl, pe, le, nx, il, qu, kn, ec, nu, va, st, ep, nI tm, ad, ob, ra, rt, ex, sa, us, tk + 1, th, me, dr, se, sn) Φ5 := Im.put23 (tp1 := (fun g9 => g9 = (upd (upd (upd f_1 (nI (4 * tk)).toNatClampNeg a) (nI (4 * tk + 1)).toNatClampNeg b) (nI (4 * tk + 2)).toNatClampNeg d))) hI4 hΦ4 rfl
      refine z_aload_n B dX12_remember_83 rfl 1 rfl ?_
      have h_15 : Φ5 x = some (o_ 14 [.int th, .ref (x + 1), .ref (x + 2), .int (nI tm), .int ra, .int (nI rt), .int ex, .int ad, .ref (x + 3), .ref (x + 4), .int me, .long se, .ref (x + 5), .int (nI fl), .int dr, .long ob, .long sa, .long sn, .long us, .ref (x + 6), .ref (x + 7), .int (nI pe), .ref (x + 8), .int (nI le), .ref (x + 9), .ref (x + 10), .int (nI qu), .ref (x + 11), .ref (x + 12), .ref (x + 13), .ref (x + 14), .ref (x + 15), .ref (x + 16), .int (nI n_1), .long v_1, .ref (x + 17), .ref (x + 18), .ref (x + 19), .ref (x + 20), .ref (x + 21), .ref (x + 22), .int (nI n_2), .ref (x + 23), .ref (x + 24), .int (nI (tk + 1)), .ref (x + 25), .int (nI il), .int (nI nx), .int ec, .int ep, .int kn, .int (nI st), .int nu, .long va]) := ((fset_fr hΦ4 (ne_off (x := x) (i := 0) (j := 23) rfl)).trans h_13)
      refine z_get (ref := "FlowExporterModel") (C := RX12) (T := TX12) (N := 54) (ci := 14) (v := .ref (x + 23)) B hu_X12_remember_X12 rfl 42 (Nat.le_of_ble_eq_true rfl) hv_X12_remember_82 rfl h_15 rfl dX12_remember_84 ?_
      refine z_iconst (v := 4) B dX12_remember_87 rfl ?_
      refine z_iload B dX12_remember_88 0 rfl ?_
      refine z_imul B dX12_remember_90 ?_
      refine z_top (st1 := [.int (nI (4 * tk)), .ref (x + 23)]) (congrArg (fun w9 : Int32 => ([.int w9, .ref (x + 23)] : List Value)) (nI_mul 4 tk)) ?_
      refine z_iconst (v := 3) B dX12_remember_91 rfl ?_
      refine z_iadd B dX12_remember_92 ?_
      refine z_top (st1 := [.int (nI (4 * tk + 3)), .ref (x + 23)]) (congrArg (fun w9 : Int32 => ([.int w9, .ref (x + 23)] : List Value)) (nI_add (4 * tk) 3)) ?_
      refine z_iload B dX12_remember_93 5 rfl ?_
      refine z_iast B h_14 (Nat.le_trans hx (Nat.le_add_right x 23)) (vp_in_nI (by omega) (by omega)) dX12_remember_95 (fun Φ6 hΦ5 => ?_)
      have h_16 : Φ6 (x + 23) = some (ai_ G 96 (upd (upd (upd (upd f_1 (nI (4 * tk)).toNatClampNeg a) (nI (4 * tk + 1)).toNatClampNeg b) (nI (4 * tk + 2)).toNatClampNeg d) (nI (4 * tk + 3)).toNatClampNeg f)) := fset_at hΦ5
      have hI6 : Im G x (rd, nw, cr, (fun g9 => g9 = (upd (upd (upd (upd f_1 (nI (4 * tk)).toNatClampNeg a) (nI (4 * tk + 1)).toNatClampNeg b) (nI (4 * tk + 2)).toNatClampNeg d) (nI (4 * tk + 3)).toNatClampNeg f)), (TtQ tk Ft), sI, sT, pt, ql, fl, pe, le, nx, il, qu, kn, ec, nu, va, st, ep, nI tm, ad, ob, ra, rt, ex, sa, us, tk + 1, th, me, dr, se, sn) Φ6 := Im.put23 (tp1 := (fun g9 => g9 = (upd (upd (upd (upd f_1 (nI (4 * tk)).toNatClampNeg a) (nI (4 * tk + 1)).toNatClampNeg b) (nI (4 * tk + 2)).toNatClampNeg d) (nI (4 * tk + 3)).toNatClampNeg f))) hI5 hΦ5 rfl
      refine z_aload_n B dX12_remember_96 rfl 1 rfl ?_
      have h_17 : Φ6 x = some (o_ 14 [.int th, .ref (x + 1), .ref (x + 2), .int (nI tm), .int ra, .int (nI rt), .int ex, .int ad, .ref (x + 3), .ref (x + 4), .int me, .long se, .ref (x + 5), .int (nI fl), .int dr, .long ob, .long sa, .long sn, .long us, .ref (x + 6), .ref (x + 7), .int (nI pe), .ref (x + 8), .int (nI le), .ref (x + 9), .ref (x + 10), .int (nI qu), .ref (x + 11), .ref (x + 12), .ref (x + 13), .ref (x + 14), .ref (x + 15), .ref (x + 16), .int (nI n_1), .long v_1, .ref (x + 17), .ref (x + 18), .ref (x + 19), .ref (x + 20), .ref (x + 21), .ref (x + 22), .int (nI n_2), .ref (x + 23), .ref (x + 24), .int (nI (tk + 1)), .ref (x + 25), .int (nI il), .int (nI nx), .int ec, .int ep, .int kn, .int (nI st), .int nu, .long va]) := ((fset_fr hΦ5 (ne_off (x := x) (i := 0) (j := 23) rfl)).trans h_15)
      refine z_get (ref := "FlowExporterModel") (C := RX12) (T := TX12) (N := 54) (ci := 14) (v := .ref (x + 24)) B hu_X12_remember_X12 rfl 43 (Nat.le_of_ble_eq_true rfl) hv_X12_remember_85 rfl h_17 rfl dX12_remember_97 ?_
      refine z_iconst (v := 2) B dX12_remember_100 rfl ?_
      refine z_iload B dX12_remember_101 0 rfl ?_
      refine z_imul B dX12_remember_103 ?_
      refine z_top (st1 := [.int (nI (2 * tk)), .ref (x + 24)]) (congrArg (fun w9 : Int32 => ([.int w9, .ref (x + 24)] : List Value)) (nI_mul 2 tk)) ?_
      refine z_lconst (v := 0) B dX12_remember_104 rfl ?_
      have h_18 : Φ6 (x + 24) = some (al_ G 48 f_2) := ((fset_fr hΦ5 (ne_off (x := x) (i := 24) (j := 23) rfl)).trans ((fset_fr hΦ4 (ne_off (x := x) (i := 24) (j := 23) rfl)).trans ((fset_fr hΦ3 (ne_off (x := x) (i := 24) (j := 23) rfl)).trans ((fset_fr hΦ2 (ne_off (x := x) (i := 24) (j := 23) rfl)).trans ((fset_fr hΦ1 (ne_off (x := x) (i := 24) (j := 0) rfl)).trans ((hF1 (x + 24) (fun j9 h8 h7 => (show False from h7).elim)).trans h_4))))))
      refine z_last B h_18 (Nat.le_trans hx (Nat.le_add_right x 24)) (vp_in_nI (by omega) (by omega)) dX12_remember_105 (fun Φ7 hΦ6 => ?_)
      have h_19 : Φ7 (x + 24) = some (al_ G 48 (vp_updL f_2 (nI (2 * tk)).toNatClampNeg 0)) := fset_at hΦ6
      have hI7 : Im G x (rd, nw, cr, (fun g9 => g9 = (upd (upd (upd (upd f_1 (nI (4 * tk)).toNatClampNeg a) (nI (4 * tk + 1)).toNatClampNeg b) (nI (4 * tk + 2)).toNatClampNeg d) (nI (4 * tk + 3)).toNatClampNeg f)), (fun g9 => g9 = (vp_updL f_2 (nI (2 * tk)).toNatClampNeg 0)), sI, sT, pt, ql, fl, pe, le, nx, il, qu, kn, ec, nu, va, st, ep, nI tm, ad, ob, ra, rt, ex, sa, us, tk + 1, th, me, dr, se, sn) Φ7 := Im.put24 (tt1 := (fun g9 => g9 = (vp_updL f_2 (nI (2 * tk)).toNatClampNeg 0))) hI6 hΦ6 rfl
      refine z_aload_n B dX12_remember_106 rfl 1 rfl ?_
      have h_20 : Φ7 x = some (o_ 14 [.int th, .ref (x + 1), .ref (x + 2), .int (nI tm), .int ra, .int (nI rt), .int ex, .int ad, .ref (x + 3), .ref (x + 4), .int me, .long se, .ref (x + 5), .int (nI fl), .int dr, .long ob, .long sa, .long sn, .long us, .ref (x + 6), .ref (x + 7), .int (nI pe), .ref (x + 8), .int (nI le), .ref (x + 9), .ref (x + 10), .int (nI qu), .ref (x + 11), .ref (x + 12), .ref (x + 13), .ref (x + 14), .ref (x + 15), .ref (x + 16), .int (nI n_1), .long v_1, .ref (x + 17), .ref (x + 18), .ref (x + 19), .ref (x + 20), .ref (x + 21), .ref (x + 22), .int (nI n_2), .ref (x + 23), .ref (x + 24), .int (nI (tk + 1)), .ref (x + 25), .int (nI il), .int (nI nx), .int ec, .int ep, .int kn, .int (nI st), .int nu, .long va]) := ((fset_fr hΦ6 (ne_off (x := x) (i := 0) (j := 24) rfl)).trans h_17)
      refine z_get (ref := "FlowExporterModel") (C := RX12) (T := TX12) (N := 54) (ci := 14) (v := .ref (x + 24)) B hu_X12_remember_X12 rfl 43 (Nat.le_of_ble_eq_true rfl) hv_X12_remember_85 rfl h_20 rfl dX12_remember_107 ?_
      refine z_iconst (v := 2) B dX12_remember_110 rfl ?_
      refine z_iload B dX12_remember_111 0 rfl ?_
      refine z_imul B dX12_remember_113 ?_
      refine z_top (st1 := [.int (nI (2 * tk)), .ref (x + 24)]) (congrArg (fun w9 : Int32 => ([.int w9, .ref (x + 24)] : List Value)) (nI_mul 2 tk)) ?_
      refine z_iconst (v := 1) B dX12_remember_114 rfl ?_
      refine z_iadd B dX12_remember_115 ?_
      refine z_top (st1 := [.int (nI (2 * tk + 1)), .ref (x + 24)]) (congrArg (fun w9 : Int32 => ([.int w9, .ref (x + 24)] : List Value)) (nI_add (2 * tk) 1)) ?_
      refine z_lconst (v := 0) B dX12_remember_116 rfl ?_
      refine z_last B h_19 (Nat.le_trans hx (Nat.le_add_right x 24)) (vp_in_nI (by omega) (by omega)) dX12_remember_117 (fun Φ8 hΦ7 => ?_)
      have h_21 : Φ8 (x + 24) = some (al_ G 48 (vp_updL (vp_updL f_2 (nI (2 * tk)).toNatClampNeg 0) (nI (2 * tk + 1)).toNatClampNeg 0)) := fset_at hΦ7
      have hI8 : Im G x (rd, nw, cr, (fun g9 => g9 = (upd (upd (upd (upd f_1 (nI (4 * tk)).toNatClampNeg a) (nI (4 * tk + 1)).toNatClampNeg b) (nI (4 * tk + 2)).toNatClampNeg d) (nI (4 * tk + 3)).toNatClampNeg f)), (fun g9 => g9 = (vp_updL (vp_updL f_2 (nI (2 * tk)).toNatClampNeg 0) (nI (2 * tk + 1)).toNatClampNeg 0)), sI, sT, pt, ql, fl, pe, le, nx, il, qu, kn, ec, nu, va, st, ep, nI tm, ad, ob, ra, rt, ex, sa, us, tk + 1, th, me, dr, se, sn) Φ8 := Im.put24 (tt1 := (fun g9 => g9 = (vp_updL (vp_updL f_2 (nI (2 * tk)).toNatClampNeg 0) (nI (2 * tk + 1)).toNatClampNeg 0))) hI7 hΦ7 rfl
      refine z_aload_n B dX12_remember_118 rfl 1 rfl ?_
      have h_22 : Φ8 x = some (o_ 14 [.int th, .ref (x + 1), .ref (x + 2), .int (nI tm), .int ra, .int (nI rt), .int ex, .int ad, .ref (x + 3), .ref (x + 4), .int me, .long se, .ref (x + 5), .int (nI fl), .int dr, .long ob, .long sa, .long sn, .long us, .ref (x + 6), .ref (x + 7), .int (nI pe), .ref (x + 8), .int (nI le), .ref (x + 9), .ref (x + 10), .int (nI qu), .ref (x + 11), .ref (x + 12), .ref (x + 13), .ref (x + 14), .ref (x + 15), .ref (x + 16), .int (nI n_1), .long v_1, .ref (x + 17), .ref (x + 18), .ref (x + 19), .ref (x + 20), .ref (x + 21), .ref (x + 22), .int (nI n_2), .ref (x + 23), .ref (x + 24), .int (nI (tk + 1)), .ref (x + 25), .int (nI il), .int (nI nx), .int ec, .int ep, .int kn, .int (nI st), .int nu, .long va]) := ((fset_fr hΦ7 (ne_off (x := x) (i := 0) (j := 24) rfl)).trans h_20)
      refine z_get (ref := "FlowExporterModel") (C := RX12) (T := TX12) (N := 54) (ci := 14) (v := .ref (x + 24)) B hu_X12_remember_X12 rfl 43 (Nat.le_of_ble_eq_true rfl) hv_X12_remember_85 rfl h_22 rfl dX12_remember_119 ?_
      refine z_iconst (v := 2) B dX12_remember_122 rfl ?_
      refine z_iload B dX12_remember_123 0 rfl ?_
      refine z_imul B dX12_remember_125 ?_
      refine z_top (st1 := [.int (nI (2 * tk)), .ref (x + 24)]) (congrArg (fun w9 : Int32 => ([.int w9, .ref (x + 24)] : List Value)) (nI_mul 2 tk)) ?_
      refine z_dup2_11 B dX12_remember_126 rfl rfl ?_
      refine z_lald B h_21 (vp_in_nI (by omega) (by omega)) dX12_remember_127 ?_
      refine z_lconst (v := 1) B dX12_remember_128 rfl ?_
      refine z_ladd B dX12_remember_129 ?_
      refine z_last B h_21 (Nat.le_trans hx (Nat.le_add_right x 24)) (vp_in_nI (by omega) (by omega)) dX12_remember_130 (fun Φ9 hΦ8 => ?_)
      have h_23 : Φ9 (x + 24) = some (al_ G 48 (vp_updL (vp_updL (vp_updL f_2 (nI (2 * tk)).toNatClampNeg 0) (nI (2 * tk + 1)).toNatClampNeg 0) (nI (2 * tk)).toNatClampNeg (((vp_updL (vp_updL f_2 (nI (2 * tk)).toNatClampNeg 0) (nI (2 * tk + 1)).toNatClampNeg 0) (nI (2 * tk)).toNatClampNeg) + 1))) := fset_at hΦ8
      have hI9 : Im G x (rd, nw, cr, (fun g9 => g9 = (upd (upd (upd (upd f_1 (nI (4 * tk)).toNatClampNeg a) (nI (4 * tk + 1)).toNatClampNeg b) (nI (4 * tk + 2)).toNatClampNeg d) (nI (4 * tk + 3)).toNatClampNeg f)), (fun g9 => g9 = (vp_updL (vp_updL (vp_updL f_2 (nI (2 * tk)).toNatClampNeg 0) (nI (2 * tk + 1)).toNatClampNeg 0) (nI (2 * tk)).toNatClampNeg (((vp_updL (vp_updL f_2 (nI (2 * tk)).toNatClampNeg 0) (nI (2 * tk + 1)).toNatClampNeg 0) (nI (2 * tk)).toNatClampNeg) + 1))), sI, sT, pt, ql, fl, pe, le, nx, il, qu, kn, ec, nu, va, st, ep, nI tm, ad, ob, ra, rt, ex, sa, us, tk + 1, th, me, dr, se, sn) Φ9 := Im.put24 (tt1 := (fun g9 => g9 = (vp_updL (vp_updL (vp_updL f_2 (nI (2 * tk)).toNatClampNeg 0) (nI (2 * tk + 1)).toNatClampNeg 0) (nI (2 * tk)).toNatClampNeg (((vp_updL (vp_updL f_2 (nI (2 * tk)).toNatClampNeg 0) (nI (2 * tk + 1)).toNatClampNeg 0) (nI (2 * tk)).toNatClampNeg) + 1)))) hI8 hΦ8 rfl
      refine z_aload_n B dX12_remember_131 rfl 1 rfl ?_
      have h_24 : Φ9 x = some (o_ 14 [.int th, .ref (x + 1), .ref (x + 2), .int (nI tm), .int ra, .int (nI rt), .int ex, .int ad, .ref (x + 3), .ref (x + 4), .int me, .long se, .ref (x + 5), .int (nI fl), .int dr, .long ob, .long sa, .long sn, .long us, .ref (x + 6), .ref (x + 7), .int (nI pe), .ref (x + 8), .int (nI le), .ref (x + 9), .ref (x + 10), .int (nI qu), .ref (x + 11), .ref (x + 12), .ref (x + 13), .ref (x + 14), .ref (x + 15), .ref (x + 16), .int (nI n_1), .long v_1, .ref (x + 17), .ref (x + 18), .ref (x + 19), .ref (x + 20), .ref (x + 21), .ref (x + 22), .int (nI n_2), .ref (x + 23), .ref (x + 24), .int (nI (tk + 1)), .ref (x + 25), .int (nI il), .int (nI nx), .int ec, .int ep, .int kn, .int (nI st), .int nu, .long va]) := ((fset_fr hΦ8 (ne_off (x := x) (i := 0) (j := 24) rfl)).trans h_22)
      refine z_get (ref := "FlowExporterModel") (C := RX12) (T := TX12) (N := 54) (ci := 14) (v := .ref (x + 24)) B hu_X12_remember_X12 rfl 43 (Nat.le_of_ble_eq_true rfl) hv_X12_remember_85 rfl h_24 rfl dX12_remember_132 ?_
      refine z_iconst (v := 2) B dX12_remember_135 rfl ?_
      refine z_iload B dX12_remember_136 0 rfl ?_
      refine z_imul B dX12_remember_138 ?_
      refine z_top (st1 := [.int (nI (2 * tk)), .ref (x + 24)]) (congrArg (fun w9 : Int32 => ([.int w9, .ref (x + 24)] : List Value)) (nI_mul 2 tk)) ?_
      refine z_iconst (v := 1) B dX12_remember_139 rfl ?_
      refine z_iadd B dX12_remember_140 ?_
      refine z_top (st1 := [.int (nI (2 * tk + 1)), .ref (x + 24)]) (congrArg (fun w9 : Int32 => ([.int w9, .ref (x + 24)] : List Value)) (nI_add (2 * tk) 1)) ?_
      refine z_dup2_11 B dX12_remember_141 rfl rfl ?_
      refine z_lald B h_23 (vp_in_nI (by omega) (by omega)) dX12_remember_142 ?_
      refine z_iload B dX12_remember_143 6 rfl ?_
      refine z_i2l (v := g.toInt64) B dX12_remember_145 rfl ?_
      refine z_ladd B dX12_remember_146 ?_
      refine z_last B h_23 (Nat.le_trans hx (Nat.le_add_right x 24)) (vp_in_nI (by omega) (by omega)) dX12_remember_147 (fun Φ10 hΦ9 => ?_)
      have h_25 : Φ10 (x + 24) = some (al_ G 48 (vp_updL (vp_updL (vp_updL (vp_updL f_2 (nI (2 * tk)).toNatClampNeg 0) (nI (2 * tk + 1)).toNatClampNeg 0) (nI (2 * tk)).toNatClampNeg (((vp_updL (vp_updL f_2 (nI (2 * tk)).toNatClampNeg 0) (nI (2 * tk + 1)).toNatClampNeg 0) (nI (2 * tk)).toNatClampNeg) + 1)) (nI (2 * tk + 1)).toNatClampNeg (((vp_updL (vp_updL (vp_updL f_2 (nI (2 * tk)).toNatClampNeg 0) (nI (2 * tk + 1)).toNatClampNeg 0) (nI (2 * tk)).toNatClampNeg (((vp_updL (vp_updL f_2 (nI (2 * tk)).toNatClampNeg 0) (nI (2 * tk + 1)).toNatClampNeg 0) (nI (2 * tk)).toNatClampNeg) + 1)) (nI (2 * tk + 1)).toNatClampNeg) + g.toInt64))) := fset_at hΦ9
      have hI10 : Im G x (rd, nw, cr, (fun g9 => g9 = (upd (upd (upd (upd f_1 (nI (4 * tk)).toNatClampNeg a) (nI (4 * tk + 1)).toNatClampNeg b) (nI (4 * tk + 2)).toNatClampNeg d) (nI (4 * tk + 3)).toNatClampNeg f)), (fun g9 => g9 = (vp_updL (vp_updL (vp_updL (vp_updL f_2 (nI (2 * tk)).toNatClampNeg 0) (nI (2 * tk + 1)).toNatClampNeg 0) (nI (2 * tk)).toNatClampNeg (((vp_updL (vp_updL f_2 (nI (2 * tk)).toNatClampNeg 0) (nI (2 * tk + 1)).toNatClampNeg 0) (nI (2 * tk)).toNatClampNeg) + 1)) (nI (2 * tk + 1)).toNatClampNeg (((vp_updL (vp_updL (vp_updL f_2 (nI (2 * tk)).toNatClampNeg 0) (nI (2 * tk + 1)).toNatClampNeg 0) (nI (2 * tk)).toNatClampNeg (((vp_updL (vp_updL f_2 (nI (2 * tk)).toNatClampNeg 0) (nI (2 * tk + 1)).toNatClampNeg 0) (nI (2 * tk)).toNatClampNeg) + 1)) (nI (2 * tk + 1)).toNatClampNeg) + g.toInt64))), sI, sT, pt, ql, fl, pe, le, nx, il, qu, kn, ec, nu, va, st, ep, nI tm, ad, ob, ra, rt, ex, sa, us, tk + 1, th, me, dr, se, sn) Φ10 := Im.put24 (tt1 := (fun g9 => g9 = (vp_updL (vp_updL (vp_updL (vp_updL f_2 (nI (2 * tk)).toNatClampNeg 0) (nI (2 * tk + 1)).toNatClampNeg 0) (nI (2 * tk)).toNatClampNeg (((vp_updL (vp_updL f_2 (nI (2 * tk)).toNatClampNeg 0) (nI (2 * tk + 1)).toNatClampNeg 0) (nI (2 * tk)).toNatClampNeg) + 1)) (nI (2 * tk + 1)).toNatClampNeg (((vp_updL (vp_updL (vp_updL f_2 (nI (2 * tk)).toNatClampNeg 0) (nI (2 * tk + 1)).toNatClampNeg 0) (nI (2 * tk)).toNatClampNeg (((vp_updL (vp_updL f_2 (nI (2 * tk)).toNatClampNeg 0) (nI (2 * tk + 1)).toNatClampNeg 0) (nI (2 * tk)).toNatClampNeg) + 1)) (nI (2 * tk + 1)).toNatClampNeg) + g.toInt64)))) hI9 hΦ9 rfl
      have h_26 : Φ10 (x + 23) = some (ai_ G 96 (upd (upd (upd (upd f_1 (nI (4 * tk)).toNatClampNeg a) (nI (4 * tk + 1)).toNatClampNeg b) (nI (4 * tk + 2)).toNatClampNeg d) (nI (4 * tk + 3)).toNatClampNeg f)) := ((fset_fr hΦ9 (ne_off (x := x) (i := 23) (j := 24) rfl)).trans ((fset_fr hΦ8 (ne_off (x := x) (i := 23) (j := 24) rfl)).trans ((fset_fr hΦ7 (ne_off (x := x) (i := 23) (j := 24) rfl)).trans ((fset_fr hΦ6 (ne_off (x := x) (i := 23) (j := 24) rfl)).trans h_16))))
      have hI11 : Im G x (rd, nw, cr, (TpQ (tk + 1) (updF Ft tk (kyN a b d f, 0 + 1, 0 + g.toInt64, tm, tm))), (fun g9 => g9 = (vp_updL (vp_updL (vp_updL (vp_updL f_2 (nI (2 * tk)).toNatClampNeg 0) (nI (2 * tk + 1)).toNatClampNeg 0) (nI (2 * tk)).toNatClampNeg (((vp_updL (vp_updL f_2 (nI (2 * tk)).toNatClampNeg 0) (nI (2 * tk + 1)).toNatClampNeg 0) (nI (2 * tk)).toNatClampNeg) + 1)) (nI (2 * tk + 1)).toNatClampNeg (((vp_updL (vp_updL (vp_updL f_2 (nI (2 * tk)).toNatClampNeg 0) (nI (2 * tk + 1)).toNatClampNeg 0) (nI (2 * tk)).toNatClampNeg (((vp_updL (vp_updL f_2 (nI (2 * tk)).toNatClampNeg 0) (nI (2 * tk + 1)).toNatClampNeg 0) (nI (2 * tk)).toNatClampNeg) + 1)) (nI (2 * tk + 1)).toNatClampNeg) + g.toInt64))), sI, sT, pt, ql, fl, pe, le, nx, il, qu, kn, ec, nu, va, st, ep, nI tm, ad, ob, ra, rt, ex, sa, us, tk + 1, th, me, dr, se, sn) Φ10 := Im.set23 hI10 h_26 (TpQ.new r_1 hk (by omega) (nI_clamp (by omega)) (nI_clamp (by omega)) (nI_clamp (by omega)) (nI_clamp (by omega)))
      have hI12 : Im G x (rd, nw, cr, (TpQ (tk + 1) (updF Ft tk (kyN a b d f, 0 + 1, 0 + g.toInt64, tm, tm))), (TtQ (tk + 1) (updF Ft tk (kyN a b d f, 0 + 1, 0 + g.toInt64, tm, tm))), sI, sT, pt, ql, fl, pe, le, nx, il, qu, kn, ec, nu, va, st, ep, nI tm, ad, ob, ra, rt, ex, sa, us, tk + 1, th, me, dr, se, sn) Φ10 := Im.set24 hI11 h_25 (TtQ.new r_2 (nI_clamp (by omega)) (nI_clamp (by omega)) (nI_clamp (by omega)) (nI_clamp (by omega)) rfl rfl rfl)
      exact z_ret_v B dX12_remember_148 ⟨rfl, rfl, ⟨tk + 1, (updF Ft tk (kyN a b d f, 0 + 1, 0 + g.toInt64, tm, tm)), (rmS_n1 e_1 (by omega)), hI12⟩, (fun b9 h9 => ((fset_fr hΦ9 (fun h8 => h9 (24) h8 (show 24 = 0 ∨ 24 = 23 ∨ 24 = 24 by decide))).trans ((fset_fr hΦ8 (fun h8 => h9 (24) h8 (show 24 = 0 ∨ 24 = 23 ∨ 24 = 24 by decide))).trans ((fset_fr hΦ7 (fun h8 => h9 (24) h8 (show 24 = 0 ∨ 24 = 23 ∨ 24 = 24 by decide))).trans ((fset_fr hΦ6 (fun h8 => h9 (24) h8 (show 24 = 0 ∨ 24 = 23 ∨ 24 = 24 by decide))).trans ((fset_fr hΦ5 (fun h8 => h9 (23) h8 (show 23 = 0 ∨ 23 = 23 ∨ 23 = 24 by decide))).trans ((fset_fr hΦ4 (fun h8 => h9 (23) h8 (show 23 = 0 ∨ 23 = 23 ∨ 23 = 24 by decide))).trans ((fset_fr hΦ3 (fun h8 => h9 (23) h8 (show 23 = 0 ∨ 23 = 23 ∨ 23 = 24 by decide))).trans ((fset_fr hΦ2 (fun h8 => h9 (23) h8 (show 23 = 0 ∨ 23 = 23 ∨ 23 = 24 by decide))).trans ((fset_fr hΦ1 (fun h8 => h9 (0) h8 (show 0 = 0 ∨ 0 = 23 ∨ 0 = 24 by decide))).trans ((hF1 b9 (fun j9 h8 h7 => (show False from h7).elim)).trans rfl)))))))))))⟩
    · have e_4 : tk = 24 := (nI_eq (a := tk) (b := 24) (by omega) (by omega)).mp c_2
      exact z_ret_v B dX12_remember_26 ⟨rfl, rfl, ⟨tk, Ft, (rmS_24 e_1 (by omega)), hI1⟩, (fun b9 h9 => ((hF1 b9 (fun j9 h8 h7 => (show False from h7).elim)).trans rfl))⟩
  · replace hs1 : st1 = [.int (nI (ixN Ft (kyN a b d f) tk))] := hs1
    subst st1
    replace e_2 : ixN Ft (kyN a b d f) tk < tk := e_2
    refine z_istore (lv' := [(6, .int (nI (ixN Ft (kyN a b d f) tk))), (0, .ref x), (1, .int a), (2, .int b), (3, .int d), (4, .int f), (5, .int g)]) B dX12_remember_9 (Nat.le_of_ble_eq_true rfl) rfl ?_
    refine z_iload B dX12_remember_11 0 rfl ?_
    refine z_iconst (v := (-1)) B dX12_remember_13 rfl ?_
    refine z_icmp_ne (tgt := 27) B dX12_remember_14 rfl (fun c_4 => ?_) (fun h9 => absurd h9 (nI_nm1 (n := ixN Ft (kyN a b d f) tk) (by omega)))
    refine z_iload B dX12_remember_27 0 rfl ?_
    refine z_iconst (v := (-1)) B dX12_remember_29 rfl ?_
    refine z_icmp_ne (tgt := 118) B dX12_remember_30 rfl (fun c_5 => ?_) (fun h9 => absurd h9 (nI_nm1 (n := ixN Ft (kyN a b d f) tk) (by omega)))
    refine z_aload_n B dX12_remember_118 rfl 1 rfl ?_
    have h_27 : Φ1 x = some (o_ 14 [.int th, .ref (x + 1), .ref (x + 2), .int (nI tm), .int ra, .int (nI rt), .int ex, .int ad, .ref (x + 3), .ref (x + 4), .int me, .long se, .ref (x + 5), .int (nI fl), .int dr, .long ob, .long sa, .long sn, .long us, .ref (x + 6), .ref (x + 7), .int (nI pe), .ref (x + 8), .int (nI le), .ref (x + 9), .ref (x + 10), .int (nI qu), .ref (x + 11), .ref (x + 12), .ref (x + 13), .ref (x + 14), .ref (x + 15), .ref (x + 16), .int (nI n_1), .long v_1, .ref (x + 17), .ref (x + 18), .ref (x + 19), .ref (x + 20), .ref (x + 21), .ref (x + 22), .int (nI n_2), .ref (x + 23), .ref (x + 24), .int (nI tk), .ref (x + 25), .int (nI il), .int (nI nx), .int ec, .int ep, .int kn, .int (nI st), .int nu, .long va]) := ((hF1 x (fun j9 h8 h7 => (show False from h7).elim)).trans h_6)
    refine z_get (ref := "FlowExporterModel") (C := RX12) (T := TX12) (N := 54) (ci := 14) (v := .ref (x + 24)) B hu_X12_remember_X12 rfl 43 (Nat.le_of_ble_eq_true rfl) hv_X12_remember_85 rfl h_27 rfl dX12_remember_119 ?_
    refine z_iconst (v := 2) B dX12_remember_122 rfl ?_
    refine z_iload B dX12_remember_123 0 rfl ?_
    refine z_imul B dX12_remember_125 ?_
    refine z_top (st1 := [.int (nI (2 * (ixN Ft (kyN a b d f) tk))), .ref (x + 24)]) (congrArg (fun w9 : Int32 => ([.int w9, .ref (x + 24)] : List Value)) (nI_mul 2 (ixN Ft (kyN a b d f) tk))) ?_
    refine z_dup2_11 B dX12_remember_126 rfl rfl ?_
    have h_28 : Φ1 (x + 24) = some (al_ G 48 f_2) := ((hF1 (x + 24) (fun j9 h8 h7 => (show False from h7).elim)).trans h_4)
    refine z_lald B h_28 (vp_in_nI (by omega) (by omega)) dX12_remember_127 ?_
    refine z_lconst (v := 1) B dX12_remember_128 rfl ?_
    refine z_ladd B dX12_remember_129 ?_
    refine z_last B h_28 (Nat.le_trans hx (Nat.le_add_right x 24)) (vp_in_nI (by omega) (by omega)) dX12_remember_130 (fun Φ11 hΦ10 => ?_)
    have h_29 : Φ11 (x + 24) = some (al_ G 48 (vp_updL f_2 (nI (2 * (ixN Ft (kyN a b d f) tk))).toNatClampNeg ((f_2 (nI (2 * (ixN Ft (kyN a b d f) tk))).toNatClampNeg) + 1))) := fset_at hΦ10
    have hI13 : Im G x (rd, nw, cr, (TpQ tk Ft), (fun g9 => g9 = (vp_updL f_2 (nI (2 * (ixN Ft (kyN a b d f) tk))).toNatClampNeg ((f_2 (nI (2 * (ixN Ft (kyN a b d f) tk))).toNatClampNeg) + 1))), sI, sT, pt, ql, fl, pe, le, nx, il, qu, kn, ec, nu, va, st, ep, (nI tm), ad, ob, ra, rt, ex, sa, us, tk, th, me, dr, se, sn) Φ11 := Im.put24 (tt1 := (fun g9 => g9 = (vp_updL f_2 (nI (2 * (ixN Ft (kyN a b d f) tk))).toNatClampNeg ((f_2 (nI (2 * (ixN Ft (kyN a b d f) tk))).toNatClampNeg) + 1)))) hI1 hΦ10 rfl
    refine z_aload_n B dX12_remember_131 rfl 1 rfl ?_
    have h_30 : Φ11 x = some (o_ 14 [.int th, .ref (x + 1), .ref (x + 2), .int (nI tm), .int ra, .int (nI rt), .int ex, .int ad, .ref (x + 3), .ref (x + 4), .int me, .long se, .ref (x + 5), .int (nI fl), .int dr, .long ob, .long sa, .long sn, .long us, .ref (x + 6), .ref (x + 7), .int (nI pe), .ref (x + 8), .int (nI le), .ref (x + 9), .ref (x + 10), .int (nI qu), .ref (x + 11), .ref (x + 12), .ref (x + 13), .ref (x + 14), .ref (x + 15), .ref (x + 16), .int (nI n_1), .long v_1, .ref (x + 17), .ref (x + 18), .ref (x + 19), .ref (x + 20), .ref (x + 21), .ref (x + 22), .int (nI n_2), .ref (x + 23), .ref (x + 24), .int (nI tk), .ref (x + 25), .int (nI il), .int (nI nx), .int ec, .int ep, .int kn, .int (nI st), .int nu, .long va]) := ((fset_fr hΦ10 (ne_off (x := x) (i := 0) (j := 24) rfl)).trans h_27)
    refine z_get (ref := "FlowExporterModel") (C := RX12) (T := TX12) (N := 54) (ci := 14) (v := .ref (x + 24)) B hu_X12_remember_X12 rfl 43 (Nat.le_of_ble_eq_true rfl) hv_X12_remember_85 rfl h_30 rfl dX12_remember_132 ?_
    refine z_iconst (v := 2) B dX12_remember_135 rfl ?_
    refine z_iload B dX12_remember_136 0 rfl ?_
    refine z_imul B dX12_remember_138 ?_
    refine z_top (st1 := [.int (nI (2 * (ixN Ft (kyN a b d f) tk))), .ref (x + 24)]) (congrArg (fun w9 : Int32 => ([.int w9, .ref (x + 24)] : List Value)) (nI_mul 2 (ixN Ft (kyN a b d f) tk))) ?_
    refine z_iconst (v := 1) B dX12_remember_139 rfl ?_
    refine z_iadd B dX12_remember_140 ?_
    refine z_top (st1 := [.int (nI (2 * (ixN Ft (kyN a b d f) tk) + 1)), .ref (x + 24)]) (congrArg (fun w9 : Int32 => ([.int w9, .ref (x + 24)] : List Value)) (nI_add (2 * (ixN Ft (kyN a b d f) tk)) 1)) ?_
    refine z_dup2_11 B dX12_remember_141 rfl rfl ?_
    refine z_lald B h_29 (vp_in_nI (by omega) (by omega)) dX12_remember_142 ?_
    refine z_iload B dX12_remember_143 6 rfl ?_
    refine z_i2l (v := g.toInt64) B dX12_remember_145 rfl ?_
    refine z_ladd B dX12_remember_146 ?_
    refine z_last B h_29 (Nat.le_trans hx (Nat.le_add_right x 24)) (vp_in_nI (by omega) (by omega)) dX12_remember_147 (fun Φ12 hΦ11 => ?_)
    have h_31 : Φ12 (x + 24) = some (al_ G 48 (vp_updL (vp_updL f_2 (nI (2 * (ixN Ft (kyN a b d f) tk))).toNatClampNeg ((f_2 (nI (2 * (ixN Ft (kyN a b d f) tk))).toNatClampNeg) + 1)) (nI (2 * (ixN Ft (kyN a b d f) tk) + 1)).toNatClampNeg (((vp_updL f_2 (nI (2 * (ixN Ft (kyN a b d f) tk))).toNatClampNeg ((f_2 (nI (2 * (ixN Ft (kyN a b d f) tk))).toNatClampNeg) + 1)) (nI (2 * (ixN Ft (kyN a b d f) tk) + 1)).toNatClampNeg) + g.toInt64))) := fset_at hΦ11
    have hI14 : Im G x (rd, nw, cr, (TpQ tk Ft), (fun g9 => g9 = (vp_updL (vp_updL f_2 (nI (2 * (ixN Ft (kyN a b d f) tk))).toNatClampNeg ((f_2 (nI (2 * (ixN Ft (kyN a b d f) tk))).toNatClampNeg) + 1)) (nI (2 * (ixN Ft (kyN a b d f) tk) + 1)).toNatClampNeg (((vp_updL f_2 (nI (2 * (ixN Ft (kyN a b d f) tk))).toNatClampNeg ((f_2 (nI (2 * (ixN Ft (kyN a b d f) tk))).toNatClampNeg) + 1)) (nI (2 * (ixN Ft (kyN a b d f) tk) + 1)).toNatClampNeg) + g.toInt64))), sI, sT, pt, ql, fl, pe, le, nx, il, qu, kn, ec, nu, va, st, ep, (nI tm), ad, ob, ra, rt, ex, sa, us, tk, th, me, dr, se, sn) Φ12 := Im.put24 (tt1 := (fun g9 => g9 = (vp_updL (vp_updL f_2 (nI (2 * (ixN Ft (kyN a b d f) tk))).toNatClampNeg ((f_2 (nI (2 * (ixN Ft (kyN a b d f) tk))).toNatClampNeg) + 1)) (nI (2 * (ixN Ft (kyN a b d f) tk) + 1)).toNatClampNeg (((vp_updL f_2 (nI (2 * (ixN Ft (kyN a b d f) tk))).toNatClampNeg ((f_2 (nI (2 * (ixN Ft (kyN a b d f) tk))).toNatClampNeg) + 1)) (nI (2 * (ixN Ft (kyN a b d f) tk) + 1)).toNatClampNeg) + g.toInt64)))) hI13 hΦ11 rfl
    have h_32 : Φ12 (x + 23) = some (ai_ G 96 f_1) := ((fset_fr hΦ11 (ne_off (x := x) (i := 23) (j := 24) rfl)).trans ((fset_fr hΦ10 (ne_off (x := x) (i := 23) (j := 24) rfl)).trans ((hF1 (x + 23) (fun j9 h8 h7 => (show False from h7).elim)).trans h_2)))
    have hI15 : Im G x (rd, nw, cr, (TpQ tk (updF Ft (ixN Ft (kyN a b d f) tk) ((Ft (ixN Ft (kyN a b d f) tk)).1, (Ft (ixN Ft (kyN a b d f) tk)).2.1 + 1, (Ft (ixN Ft (kyN a b d f) tk)).2.2.1 + g.toInt64, (Ft (ixN Ft (kyN a b d f) tk)).2.2.2.1, (Ft (ixN Ft (kyN a b d f) tk)).2.2.2.2))), (fun g9 => g9 = (vp_updL (vp_updL f_2 (nI (2 * (ixN Ft (kyN a b d f) tk))).toNatClampNeg ((f_2 (nI (2 * (ixN Ft (kyN a b d f) tk))).toNatClampNeg) + 1)) (nI (2 * (ixN Ft (kyN a b d f) tk) + 1)).toNatClampNeg (((vp_updL f_2 (nI (2 * (ixN Ft (kyN a b d f) tk))).toNatClampNeg ((f_2 (nI (2 * (ixN Ft (kyN a b d f) tk))).toNatClampNeg) + 1)) (nI (2 * (ixN Ft (kyN a b d f) tk) + 1)).toNatClampNeg) + g.toInt64))), sI, sT, pt, ql, fl, pe, le, nx, il, qu, kn, ec, nu, va, st, ep, (nI tm), ad, ob, ra, rt, ex, sa, us, tk, th, me, dr, se, sn) Φ12 := Im.set23 hI14 h_32 (TpQ.hit r_1)
    have hI16 : Im G x (rd, nw, cr, (TpQ tk (updF Ft (ixN Ft (kyN a b d f) tk) ((Ft (ixN Ft (kyN a b d f) tk)).1, (Ft (ixN Ft (kyN a b d f) tk)).2.1 + 1, (Ft (ixN Ft (kyN a b d f) tk)).2.2.1 + g.toInt64, (Ft (ixN Ft (kyN a b d f) tk)).2.2.2.1, (Ft (ixN Ft (kyN a b d f) tk)).2.2.2.2))), (TtQ tk (updF Ft (ixN Ft (kyN a b d f) tk) ((Ft (ixN Ft (kyN a b d f) tk)).1, (Ft (ixN Ft (kyN a b d f) tk)).2.1 + 1, (Ft (ixN Ft (kyN a b d f) tk)).2.2.1 + g.toInt64, (Ft (ixN Ft (kyN a b d f) tk)).2.2.2.1, (Ft (ixN Ft (kyN a b d f) tk)).2.2.2.2))), sI, sT, pt, ql, fl, pe, le, nx, il, qu, kn, ec, nu, va, st, ep, (nI tm), ad, ob, ra, rt, ex, sa, us, tk, th, me, dr, se, sn) Φ12 := Im.set24 hI15 h_31 (TtQ.hit r_2 (nI_clamp (by omega)) (nI_clamp (by omega)))
    exact z_ret_v B dX12_remember_148 ⟨rfl, rfl, ⟨tk, (updF Ft (ixN Ft (kyN a b d f) tk) ((Ft (ixN Ft (kyN a b d f) tk)).1, (Ft (ixN Ft (kyN a b d f) tk)).2.1 + 1, (Ft (ixN Ft (kyN a b d f) tk)).2.2.1 + g.toInt64, (Ft (ixN Ft (kyN a b d f) tk)).2.2.2.1, (Ft (ixN Ft (kyN a b d f) tk)).2.2.2.2)), (rmS_f1 e_2), hI16⟩, (fun b9 h9 => ((fset_fr hΦ11 (fun h8 => h9 (24) h8 (show 24 = 0 ∨ 24 = 23 ∨ 24 = 24 by decide))).trans ((fset_fr hΦ10 (fun h8 => h9 (24) h8 (show 24 = 0 ∨ 24 = 23 ∨ 24 = 24 by decide))).trans ((hF1 b9 (fun j9 h8 h7 => (show False from h7).elim)).trans rfl))))⟩

set_option maxRecDepth 20000 in
theorem ggX12_take_X12_startExporter : GoodIn wsX12_take wsX12_startExporter := goodIn_ca ((goodIn_ca (goodIn_r _ [24, 13, 14, 25, 26] rfl (by decide +kernel)) (goodIn_sub (fun _ h => List.mem_cons_of_mem _ (List.mem_append_left _ (List.mem_append_right _ h))) gw_wsX120))) (goodIn_sub (fun _ h => List.mem_cons_of_mem _ (List.mem_append_right _ h)) (all_fg _))
set_option maxRecDepth 20000 in
theorem gX12_take_X12_startExporter : GoodIn wsX12_take (wsV RX12 151 RX12 yX12_startExporter wsX12_startExporter) := goodIn_app (goodIn_m (mem_cA (List.mem_cons_of_mem _ (List.mem_append_left _ (List.mem_append_left _ (List.mem_append_left _ (List.mem_of_getElem? (i := 19) rfl))))) (mem_cA (List.mem_cons_of_mem _ (List.mem_append_left _ (List.mem_append_left _ (List.mem_append_left _ (List.mem_of_getElem? (i := 20) rfl))))) (mem_cA (List.mem_cons_of_mem _ (List.mem_append_left _ (List.mem_append_left _ (List.mem_append_left _ (List.mem_of_getElem? (i := 21) rfl))))) (mem_cA (List.mem_cons_of_mem _ (List.mem_append_left _ (List.mem_append_left _ (List.mem_append_left _ (List.mem_of_getElem? (i := 22) rfl))))) mem_cZ)))) (by decide +kernel)) ggX12_take_X12_startExporter
set_option maxRecDepth 20000 in
theorem ggX12_take_X12_startCollector : GoodIn wsX12_take wsX12_startCollector := goodIn_ca ((goodIn_ca (goodIn_r _ [30, 31, 32, 33, 34] rfl (by decide +kernel)) (goodIn_sub (fun _ h => List.mem_cons_of_mem _ (List.mem_append_left _ (List.mem_append_right _ h))) gw_wsX120))) (goodIn_sub (fun _ h => List.mem_cons_of_mem _ (List.mem_append_right _ h)) (all_fg _))
set_option maxRecDepth 20000 in
theorem gX12_take_X12_startCollector : GoodIn wsX12_take (wsV RX12 154 RX12 yX12_startCollector wsX12_startCollector) := goodIn_app (goodIn_m (mem_cA (List.mem_cons_of_mem _ (List.mem_append_left _ (List.mem_append_left _ (List.mem_append_right _ (List.mem_of_getElem? (i := 2) rfl))))) (mem_cA (List.mem_cons_of_mem _ (List.mem_append_left _ (List.mem_append_left _ (List.mem_append_right _ (List.mem_of_getElem? (i := 3) rfl))))) (mem_cA (List.mem_cons_of_mem _ (List.mem_append_left _ (List.mem_append_left _ (List.mem_append_right _ (List.mem_of_getElem? (i := 4) rfl))))) (mem_cA (List.mem_cons_of_mem _ (List.mem_append_left _ (List.mem_append_left _ (List.mem_append_left _ (List.mem_of_getElem? (i := 22) rfl))))) mem_cZ)))) (by decide +kernel)) ggX12_take_X12_startCollector
theorem dX12_take_0 : decode cX12_take 0 = .ok (.aload_n 0, 1) := by decide +kernel
theorem dX12_take_1 : decode cX12_take 1 = .ok (.getfield 13, 3) := by decide +kernel
theorem dX12_take_4 : decode cX12_take 4 = .ok (.bipush 10, 2) := by decide +kernel
theorem dX12_take_6 : decode cX12_take 6 = .ok (.iaload, 1) := by decide +kernel
theorem dX12_take_7 : decode cX12_take 7 = .ok (.ifCond .ne 44, 3) := by decide +kernel
theorem dX12_take_10 : decode cX12_take 10 = .ok (.aload_n 0, 1) := by decide +kernel
theorem dX12_take_11 : decode cX12_take 11 = .ok (.getfield 13, 3) := by decide +kernel
theorem dX12_take_14 : decode cX12_take 14 = .ok (.bipush 10, 2) := by decide +kernel
theorem dX12_take_16 : decode cX12_take 16 = .ok (.iconst 1, 1) := by decide +kernel
theorem dX12_take_17 : decode cX12_take 17 = .ok (.iastore, 1) := by decide +kernel
theorem dX12_take_18 : decode cX12_take 18 = .ok (.aload_n 0, 1) := by decide +kernel
theorem dX12_take_19 : decode cX12_take 19 = .ok (.getfield 13, 3) := by decide +kernel
theorem dX12_take_22 : decode cX12_take 22 = .ok (.bipush 11, 2) := by decide +kernel
theorem dX12_take_24 : decode cX12_take 24 = .ok (.bipush 9, 2) := by decide +kernel
theorem dX12_take_26 : decode cX12_take 26 = .ok (.iastore, 1) := by decide +kernel
theorem dX12_take_27 : decode cX12_take 27 = .ok (.iconst 0, 1) := by decide +kernel
theorem dX12_take_28 : decode cX12_take 28 = .ok (.istore_n 1, 1) := by decide +kernel
theorem dX12_take_29 : decode cX12_take 29 = .ok (.iload_n 1, 1) := by decide +kernel
theorem dX12_take_30 : decode cX12_take 30 = .ok (.bipush 9, 2) := by decide +kernel
theorem dX12_take_32 : decode cX12_take 32 = .ok (.if_icmp .ge 19, 3) := by decide +kernel
theorem dX12_take_35 : decode cX12_take 35 = .ok (.aload_n 0, 1) := by decide +kernel
theorem dX12_take_36 : decode cX12_take 36 = .ok (.getfield 13, 3) := by decide +kernel
theorem dX12_take_39 : decode cX12_take 39 = .ok (.bipush 15, 2) := by decide +kernel
theorem dX12_take_41 : decode cX12_take 41 = .ok (.iload_n 1, 1) := by decide +kernel
theorem dX12_take_42 : decode cX12_take 42 = .ok (.iadd, 1) := by decide +kernel
theorem dX12_take_43 : decode cX12_take 43 = .ok (.iload_n 1, 1) := by decide +kernel
theorem dX12_take_44 : decode cX12_take 44 = .ok (.iastore, 1) := by decide +kernel
theorem dX12_take_45 : decode cX12_take 45 = .ok (.iinc 1 1, 3) := by decide +kernel
theorem dX12_take_48 : decode cX12_take 48 = .ok (.goto (-19), 3) := by decide +kernel
theorem dX12_take_51 : decode cX12_take 51 = .ok (.iconst 0, 1) := by decide +kernel
theorem dX12_take_52 : decode cX12_take 52 = .ok (.istore_n 1, 1) := by decide +kernel
theorem dX12_take_53 : decode cX12_take 53 = .ok (.iload_n 1, 1) := by decide +kernel
theorem dX12_take_54 : decode cX12_take 54 = .ok (.sipush 307, 3) := by decide +kernel
theorem dX12_take_57 : decode cX12_take 57 = .ok (.if_icmp .ge 21, 3) := by decide +kernel
theorem dX12_take_60 : decode cX12_take 60 = .ok (.aload_n 0, 1) := by decide +kernel
theorem dX12_take_61 : decode cX12_take 61 = .ok (.getfield 17, 3) := by decide +kernel
theorem dX12_take_64 : decode cX12_take 64 = .ok (.iload_n 1, 1) := by decide +kernel
theorem dX12_take_65 : decode cX12_take 65 = .ok (.aload_n 0, 1) := by decide +kernel
theorem dX12_take_66 : decode cX12_take 66 = .ok (.getfield 13, 3) := by decide +kernel
theorem dX12_take_69 : decode cX12_take 69 = .ok (.iload_n 1, 1) := by decide +kernel
theorem dX12_take_70 : decode cX12_take 70 = .ok (.iaload, 1) := by decide +kernel
theorem dX12_take_71 : decode cX12_take 71 = .ok (.iastore, 1) := by decide +kernel
theorem dX12_take_72 : decode cX12_take 72 = .ok (.iinc 1 1, 3) := by decide +kernel
theorem dX12_take_75 : decode cX12_take 75 = .ok (.goto (-22), 3) := by decide +kernel
theorem dX12_take_78 : decode cX12_take 78 = .ok (.aload_n 0, 1) := by decide +kernel
theorem dX12_take_79 : decode cX12_take 79 = .ok (.iconst 0, 1) := by decide +kernel
theorem dX12_take_80 : decode cX12_take 80 = .ok (.putfield 101, 3) := by decide +kernel
theorem dX12_take_83 : decode cX12_take 83 = .ok (.aload_n 0, 1) := by decide +kernel
theorem dX12_take_84 : decode cX12_take 84 = .ok (.iconst 1, 1) := by decide +kernel
theorem dX12_take_85 : decode cX12_take 85 = .ok (.putfield 104, 3) := by decide +kernel
theorem dX12_take_88 : decode cX12_take 88 = .ok (.aload_n 0, 1) := by decide +kernel
theorem dX12_take_89 : decode cX12_take 89 = .ok (.aload_n 0, 1) := by decide +kernel
theorem dX12_take_90 : decode cX12_take 90 = .ok (.getfield 17, 3) := by decide +kernel
theorem dX12_take_93 : decode cX12_take 93 = .ok (.iconst 0, 1) := by decide +kernel
theorem dX12_take_94 : decode cX12_take 94 = .ok (.iaload, 1) := by decide +kernel
theorem dX12_take_95 : decode cX12_take 95 = .ok (.putfield 107, 3) := by decide +kernel
theorem dX12_take_98 : decode cX12_take 98 = .ok (.aload_n 0, 1) := by decide +kernel
theorem dX12_take_99 : decode cX12_take 99 = .ok (.iconst 0, 1) := by decide +kernel
theorem dX12_take_100 : decode cX12_take 100 = .ok (.putfield 110, 3) := by decide +kernel
theorem dX12_take_103 : decode cX12_take 103 = .ok (.aload_n 0, 1) := by decide +kernel
theorem dX12_take_104 : decode cX12_take 104 = .ok (.iconst 0, 1) := by decide +kernel
theorem dX12_take_105 : decode cX12_take 105 = .ok (.putfield 114, 3) := by decide +kernel
theorem dX12_take_108 : decode cX12_take 108 = .ok (.aload_n 0, 1) := by decide +kernel
theorem dX12_take_109 : decode cX12_take 109 = .ok (.lconst 0, 1) := by decide +kernel
theorem dX12_take_110 : decode cX12_take 110 = .ok (.putfield 117, 3) := by decide +kernel
theorem dX12_take_113 : decode cX12_take 113 = .ok (.aload_n 0, 1) := by decide +kernel
theorem dX12_take_114 : decode cX12_take 114 = .ok (.lconst 0, 1) := by decide +kernel
theorem dX12_take_115 : decode cX12_take 115 = .ok (.putfield 121, 3) := by decide +kernel
theorem dX12_take_118 : decode cX12_take 118 = .ok (.aload_n 0, 1) := by decide +kernel
theorem dX12_take_119 : decode cX12_take 119 = .ok (.lconst 0, 1) := by decide +kernel
theorem dX12_take_120 : decode cX12_take 120 = .ok (.putfield 124, 3) := by decide +kernel
theorem dX12_take_123 : decode cX12_take 123 = .ok (.aload_n 0, 1) := by decide +kernel
theorem dX12_take_124 : decode cX12_take 124 = .ok (.lconst 0, 1) := by decide +kernel
theorem dX12_take_125 : decode cX12_take 125 = .ok (.putfield 127, 3) := by decide +kernel
theorem dX12_take_128 : decode cX12_take 128 = .ok (.aload_n 0, 1) := by decide +kernel
theorem dX12_take_129 : decode cX12_take 129 = .ok (.iconst 0, 1) := by decide +kernel
theorem dX12_take_130 : decode cX12_take 130 = .ok (.putfield 130, 3) := by decide +kernel
theorem dX12_take_133 : decode cX12_take 133 = .ok (.aload_n 0, 1) := by decide +kernel
theorem dX12_take_134 : decode cX12_take 134 = .ok (.iconst 0, 1) := by decide +kernel
theorem dX12_take_135 : decode cX12_take 135 = .ok (.putfield 133, 3) := by decide +kernel
theorem dX12_take_138 : decode cX12_take 138 = .ok (.aload_n 0, 1) := by decide +kernel
theorem dX12_take_139 : decode cX12_take 139 = .ok (.iconst 0, 1) := by decide +kernel
theorem dX12_take_140 : decode cX12_take 140 = .ok (.putfield 136, 3) := by decide +kernel
theorem dX12_take_143 : decode cX12_take 143 = .ok (.aload_n 0, 1) := by decide +kernel
theorem dX12_take_144 : decode cX12_take 144 = .ok (.iconst 0, 1) := by decide +kernel
theorem dX12_take_145 : decode cX12_take 145 = .ok (.putfield 139, 3) := by decide +kernel
theorem dX12_take_148 : decode cX12_take 148 = .ok (.aload_n 0, 1) := by decide +kernel
theorem dX12_take_149 : decode cX12_take 149 = .ok (.iconst 0, 1) := by decide +kernel
theorem dX12_take_150 : decode cX12_take 150 = .ok (.putfield 142, 3) := by decide +kernel
theorem dX12_take_153 : decode cX12_take 153 = .ok (.aload_n 0, 1) := by decide +kernel
theorem dX12_take_154 : decode cX12_take 154 = .ok (.iconst 0, 1) := by decide +kernel
theorem dX12_take_155 : decode cX12_take 155 = .ok (.putfield 145, 3) := by decide +kernel
theorem dX12_take_158 : decode cX12_take 158 = .ok (.aload_n 0, 1) := by decide +kernel
theorem dX12_take_159 : decode cX12_take 159 = .ok (.iconst 0, 1) := by decide +kernel
theorem dX12_take_160 : decode cX12_take 160 = .ok (.putfield 148, 3) := by decide +kernel
theorem dX12_take_163 : decode cX12_take 163 = .ok (.iconst 0, 1) := by decide +kernel
theorem dX12_take_164 : decode cX12_take 164 = .ok (.istore_n 1, 1) := by decide +kernel
theorem dX12_take_165 : decode cX12_take 165 = .ok (.iload_n 1, 1) := by decide +kernel
theorem dX12_take_166 : decode cX12_take 166 = .ok (.bipush 9, 2) := by decide +kernel
theorem dX12_take_168 : decode cX12_take 168 = .ok (.if_icmp .ge 16, 3) := by decide +kernel
theorem dX12_take_171 : decode cX12_take 171 = .ok (.aload_n 0, 1) := by decide +kernel
theorem dX12_take_172 : decode cX12_take 172 = .ok (.getfield 45, 3) := by decide +kernel
theorem dX12_take_175 : decode cX12_take 175 = .ok (.iload_n 1, 1) := by decide +kernel
theorem dX12_take_176 : decode cX12_take 176 = .ok (.lconst 0, 1) := by decide +kernel
theorem dX12_take_177 : decode cX12_take 177 = .ok (.lastore, 1) := by decide +kernel
theorem dX12_take_178 : decode cX12_take 178 = .ok (.iinc 1 1, 3) := by decide +kernel
theorem dX12_take_181 : decode cX12_take 181 = .ok (.goto (-16), 3) := by decide +kernel
theorem dX12_take_184 : decode cX12_take 184 = .ok (.aload_n 0, 1) := by decide +kernel
theorem dX12_take_185 : decode cX12_take 185 = .ok (.invokevirtual 151, 3) := by decide +kernel
theorem dX12_take_188 : decode cX12_take 188 = .ok (.aload_n 0, 1) := by decide +kernel
theorem dX12_take_189 : decode cX12_take 189 = .ok (.invokevirtual 154, 3) := by decide +kernel
theorem dX12_take_192 : decode cX12_take 192 = .ok (.return_, 1) := by decide +kernel
set_option maxHeartbeats 4000000 in
set_option maxRecDepth 100000 in
theorem r_take (G : EnvG) (l : Launch) (Φ : Hm) (sz x : Nat) (nw : (Nat → Int32) → Prop) (cr : (Nat → Int64) → Prop) (tp : (Nat → Int32) → Prop) (tt : (Nat → Int64) → Prop) (sI : (Nat → Int32) → Prop) (sT : (Nat → Int32) → Prop) (pt : (Nat → Int32) → Prop) (ql : (Nat → Int32) → Prop) (fl : Nat) (pe : Nat) (le : Nat) (nx : Nat) (il : Nat) (qu : Nat) (kn : Int32) (ec : Int32) (nu : Int32) (va : Int64) (st : Nat) (ep : Int32) (ti : Int32) (ad : Int32) (ob : Int64) (ra : Int32) (rt : Nat) (ex : Int32) (sa : Int64) (us : Int64) (tk : Nat) (th : Int32) (me : Int32) (dr : Int32) (se : Int64) (sn : Int64) (t : Nat) (c : Cf) (hx : G.2.2.2 ≤ x) (hI : Im G x ((NNc t c), nw, cr, tp, tt, sI, sT, pt, ql, fl, pe, le, nx, il, qu, kn, ec, nu, va, st, ep, ti, ad, ob, ra, rt, ex, sa, us, tk, th, me, dr, se, sn) Φ)  : Ct G l yX12_take wsX12_take ({ frames := 1, cells := 0, slots := 0, locals := 21 }) 0 0 [.ref x] Φ sz (fun v Φ1 sz1 => (v = none) ∧ sz1 = sz ∧ (∃ (rt1 : Nat), (finC c 0 = nI rt1) ∧ Im G x (NN, (NNq (finC c)), (CaQ 0 Fz), (TpQ 0 Fz), (TtQ 0 Fz), (SiQ (fun _ => 0)), sT, (PtQ 0 (fun _ => 0)), (QlQ 0 (fun _ => 0)), 0, 0, le, nx, il, 0, kn, ec, nu, va, st, ep, 0, 0, 0, 1, rt1, 0, 0, 0, 0, th, 0, 0, 0, 0) Φ1) ∧ Fr x (fun j9 => j9 = 0 ∨ j9 = 1 ∨ j9 = 2 ∨ j9 = 3 ∨ j9 = 11 ∨ j9 = 12) Φ Φ1) := by
  refine Ct.of (cc := cX12_take) (maxL := 2) (ret := none) (by decide) rfl (Nat.le_of_ble_eq_true rfl) ?_
  intro p9 e9 s9 m9 w9 t9 k9 B
  show Z p9 l e9 _ s9 m9 _ w9 t9 k9 _ G 2 0 [(0, .ref x)] [] Φ sz 0 0
  refine z_join (α := Unit) (fun (a9 : Unit) Φi => Im G x ((NNq (finC c)), nw, cr, tp, tt, sI, sT, pt, ql, fl, pe, le, nx, il, qu, kn, ec, nu, va, st, ep, ti, ad, ob, ra, rt, ex, sa, us, tk, th, me, dr, se, sn) Φi ∧ Fr x (fun j9 => j9 = 0 ∨ j9 = 1 ∨ j9 = 2 ∨ j9 = 3 ∨ j9 = 11 ∨ j9 = 12) Φ Φi ∧ True) (fun a9 => [(0, .ref x)]) 51 ?_ (fun J51 => ?_)
  · rintro _ Φj1 ⟨hI1, hF1, -⟩
    replace hI1 : Im G x ((NNq (finC c)), nw, cr, tp, tt, sI, sT, pt, ql, fl, pe, le, nx, il, qu, kn, ec, nu, va, st, ep, ti, ad, ob, ra, rt, ex, sa, us, tk, th, me, dr, se, sn) Φj1 := hI1
    show Z p9 l e9 _ s9 m9 _ w9 t9 k9 _ G 2 51 [(0, .ref x)] [] Φj1 _ _ _
    refine z_iconst (v := 0) B dX12_take_51 rfl ?_
    obtain ⟨f_1, h_1, r_1⟩ := imk (k := 1) hI1
    replace r_1 : (NNq (finC c)) f_1 := r_1
    have h_2 : Φj1 (x + 1) = some (ai_ G 307 f_1) := h_1
    refine z_istore_n (lv' := [(1, .int 0), (0, .ref x)]) B dX12_take_52 rfl (Nat.le_of_ble_eq_true rfl) rfl ?_
    refine z_lv [0, 1] rfl ?_
    refine z_loop (α := Nat) (fun (a9 : Nat) Φi => Im G x ((NNq (finC c)), (fun g9 => ∀ j9, j9 < a9 → g9 j9 = f_1 j9), cr, tp, tt, sI, sT, pt, ql, fl, pe, le, nx, il, qu, kn, ec, nu, va, st, ep, ti, ad, ob, ra, rt, ex, sa, us, tk, th, me, dr, se, sn) Φi ∧ Fr x (fun j9 => j9 = 2) Φj1 Φi ∧ (a9 ≤ 307) ∧ True) (fun a9 => [(1, .int (nI a9)), (0, .ref x)]) (fun a9 => 307 - a9) ?_ (0) ⟨(Im.weak5 hI1 (fun _ q9 => q9) (fun g9 _ j9 h9 => absurd h9 (Nat.not_lt_zero _)) (fun _ q9 => q9) (fun _ q9 => q9) (fun _ q9 => q9) (fun _ q9 => q9) (fun _ q9 => q9) (fun _ q9 => q9) (fun _ q9 => q9)), fun _ _ => rfl, (show 0 ≤ 307 by omega), trivial⟩
    rintro i_1 Φl1 ⟨hI2, hF2, b_1, -⟩ ih1
    replace hI2 : Im G x ((NNq (finC c)), (fun g9 => ∀ j9, j9 < i_1 → g9 j9 = f_1 j9), cr, tp, tt, sI, sT, pt, ql, fl, pe, le, nx, il, qu, kn, ec, nu, va, st, ep, ti, ad, ob, ra, rt, ex, sa, us, tk, th, me, dr, se, sn) Φl1 := hI2
    replace b_1 : i_1 ≤ 307 := b_1
    show Z p9 l e9 _ s9 m9 _ w9 t9 k9 _ G 2 53 [(1, .int (nI i_1)), (0, .ref x)] [] Φl1 _ _ _
    refine z_iload_n B dX12_take_53 rfl 0 rfl ?_
    refine z_sipush (v := 307) B dX12_take_54 rfl ?_
    refine z_icmp_ge (tgt := 78) B dX12_take_57 rfl (fun c_1 => ?_) (fun c_1 => ?_)
    · have e_1 : 307 ≤ i_1 := (nI_leI (a := 307) (b := i_1) (by omega) (by omega)).mp c_1
      have hI3 : Im G x (NN, (NNq (finC c)), cr, tp, tt, sI, sT, pt, ql, fl, pe, le, nx, il, qu, kn, ec, nu, va, st, ep, ti, ad, ob, ra, rt, ex, sa, us, tk, th, me, dr, se, sn) Φl1 := Im.weak hI2 (fun f9 q9 => q9.1) (fun g9 q9 => ⟨NN.ext r_1.1 (fun j9 h9 => q9 j9 (by omega)), fun j9 h9 => (q9 j9 (by omega)).trans (r_1.2 j9 h9)⟩)
      refine z_aload_n B dX12_take_78 rfl 1 rfl ?_
      refine z_iconst (v := 0) B dX12_take_79 rfl ?_
      obtain ⟨n_1, v_1, n_2, h_3, b_14, b_2, b_3, b_4, b_5, b_6, b_7, b_8, b_9, b_10, b_11, b_12, b_13⟩ := im0 hI3
      replace b_2 : 1 ≤ rt := b_2
      replace b_3 : rt ≤ 1024 := b_3
      replace b_4 : fl ≤ 12 := b_4
      replace b_5 : pe ≤ 24 := b_5
      replace b_6 : le ≤ 700 := b_6
      replace b_7 : qu ≤ 12 := b_7
      replace b_8 : n_1 ≤ 8 := b_8
      replace b_9 : n_2 ≤ 24 := b_9
      replace b_10 : tk ≤ 24 := b_10
      replace b_11 : il ≤ 700 := b_11
      replace b_12 : nx ≤ 701 := b_12
      replace b_13 : st ≤ 701 := b_13
      have h_4 : Φl1 x = some (o_ 14 [.int th, .ref (x + 1), .ref (x + 2), .int ti, .int ra, .int (nI rt), .int ex, .int ad, .ref (x + 3), .ref (x + 4), .int me, .long se, .ref (x + 5), .int (nI fl), .int dr, .long ob, .long sa, .long sn, .long us, .ref (x + 6), .ref (x + 7), .int (nI pe), .ref (x + 8), .int (nI le), .ref (x + 9), .ref (x + 10), .int (nI qu), .ref (x + 11), .ref (x + 12), .ref (x + 13), .ref (x + 14), .ref (x + 15), .ref (x + 16), .int (nI n_1), .long v_1, .ref (x + 17), .ref (x + 18), .ref (x + 19), .ref (x + 20), .ref (x + 21), .ref (x + 22), .int (nI n_2), .ref (x + 23), .ref (x + 24), .int (nI tk), .ref (x + 25), .int (nI il), .int (nI nx), .int ec, .int ep, .int kn, .int (nI st), .int nu, .long va]) := h_3
      refine z_put (ref := "FlowExporterModel") (C := RX12) (T := TX12) (N := 54) (ci := 14) (v := .int 0) B hu_X12_take_X12 tyX12 tyX12_ok nmX12 rfl 3 (Nat.le_of_ble_eq_true rfl) hv_X12_take_101 rfl (Or.inl rfl) h_4 hx rfl rfl (Nat.le_of_ble_eq_true rfl) dX12_take_80 (fun Φ1 hΦ1 => ?_)
      have h_5 : Φ1 x = some (o_ 14 [.int th, .ref (x + 1), .ref (x + 2), .int 0, .int ra, .int (nI rt), .int ex, .int ad, .ref (x + 3), .ref (x + 4), .int me, .long se, .ref (x + 5), .int (nI fl), .int dr, .long ob, .long sa, .long sn, .long us, .ref (x + 6), .ref (x + 7), .int (nI pe), .ref (x + 8), .int (nI le), .ref (x + 9), .ref (x + 10), .int (nI qu), .ref (x + 11), .ref (x + 12), .ref (x + 13), .ref (x + 14), .ref (x + 15), .ref (x + 16), .int (nI n_1), .long v_1, .ref (x + 17), .ref (x + 18), .ref (x + 19), .ref (x + 20), .ref (x + 21), .ref (x + 22), .int (nI n_2), .ref (x + 23), .ref (x + 24), .int (nI tk), .ref (x + 25), .int (nI il), .int (nI nx), .int ec, .int ep, .int kn, .int (nI st), .int nu, .long va]) := fset_at hΦ1
      have hI4 : Im G x (NN, (NNq (finC c)), cr, tp, tt, sI, sT, pt, ql, fl, pe, le, nx, il, qu, kn, ec, nu, va, st, ep, 0, ad, ob, ra, rt, ex, sa, us, tk, th, me, dr, se, sn) Φ1 := Im.put0 hI3 hΦ1 ⟨n_1, v_1, n_2, rfl, b_14, b_2, b_3, b_4, b_5, b_6, b_7, b_8, b_9, b_10, b_11, b_12, b_13⟩
      refine z_aload_n B dX12_take_83 rfl 1 rfl ?_
      refine z_iconst (v := 1) B dX12_take_84 rfl ?_
      refine z_put (ref := "FlowExporterModel") (C := RX12) (T := TX12) (N := 54) (ci := 14) (v := .int 1) B hu_X12_take_X12 tyX12 tyX12_ok nmX12 rfl 4 (Nat.le_of_ble_eq_true rfl) hv_X12_take_104 rfl (Or.inl rfl) h_5 hx rfl rfl (Nat.le_of_ble_eq_true rfl) dX12_take_85 (fun Φ2 hΦ2 => ?_)
      have h_6 : Φ2 x = some (o_ 14 [.int th, .ref (x + 1), .ref (x + 2), .int 0, .int 1, .int (nI rt), .int ex, .int ad, .ref (x + 3), .ref (x + 4), .int me, .long se, .ref (x + 5), .int (nI fl), .int dr, .long ob, .long sa, .long sn, .long us, .ref (x + 6), .ref (x + 7), .int (nI pe), .ref (x + 8), .int (nI le), .ref (x + 9), .ref (x + 10), .int (nI qu), .ref (x + 11), .ref (x + 12), .ref (x + 13), .ref (x + 14), .ref (x + 15), .ref (x + 16), .int (nI n_1), .long v_1, .ref (x + 17), .ref (x + 18), .ref (x + 19), .ref (x + 20), .ref (x + 21), .ref (x + 22), .int (nI n_2), .ref (x + 23), .ref (x + 24), .int (nI tk), .ref (x + 25), .int (nI il), .int (nI nx), .int ec, .int ep, .int kn, .int (nI st), .int nu, .long va]) := fset_at hΦ2
      have hI5 : Im G x (NN, (NNq (finC c)), cr, tp, tt, sI, sT, pt, ql, fl, pe, le, nx, il, qu, kn, ec, nu, va, st, ep, 0, ad, ob, 1, rt, ex, sa, us, tk, th, me, dr, se, sn) Φ2 := Im.put0 hI4 hΦ2 ⟨n_1, v_1, n_2, rfl, b_14, b_2, b_3, b_4, b_5, b_6, b_7, b_8, b_9, b_10, b_11, b_12, b_13⟩
      refine z_aload_n B dX12_take_88 rfl 1 rfl ?_
      refine z_aload_n B dX12_take_89 rfl 1 rfl ?_
      refine z_get (ref := "FlowExporterModel") (C := RX12) (T := TX12) (N := 54) (ci := 14) (v := .ref (x + 2)) B hu_X12_take_X12 rfl 2 (Nat.le_of_ble_eq_true rfl) hv_X12_take_17 rfl h_6 rfl dX12_take_90 ?_
      refine z_iconst (v := 0) B dX12_take_93 rfl ?_
      obtain ⟨f_2, h_7, r_2⟩ := imk (k := 2) hI5
      replace r_2 : (NNq (finC c)) f_2 := r_2
      have r_3 : NN f_2 := r_2.1
      have h_8 : Φ2 (x + 2) = some (ai_ G 307 f_2) := h_7
      refine z_iald B h_8 (vin rfl) dX12_take_94 ?_
      obtain ⟨n_3, b_15, b_16, e_2⟩ := r_3.2.2.2.2.2.1
      refine z_top (st1 := [.int (nI n_3), .ref x]) (congrArg (fun w9 : Int32 => ([.int w9, .ref x] : List Value)) (e_2)) ?_
      refine z_put (ref := "FlowExporterModel") (C := RX12) (T := TX12) (N := 54) (ci := 14) (v := .int (nI n_3)) B hu_X12_take_X12 tyX12 tyX12_ok nmX12 rfl 5 (Nat.le_of_ble_eq_true rfl) hv_X12_take_107 rfl (Or.inl rfl) h_6 hx rfl rfl (Nat.le_of_ble_eq_true rfl) dX12_take_95 (fun Φ3 hΦ3 => ?_)
      have h_9 : Φ3 x = some (o_ 14 [.int th, .ref (x + 1), .ref (x + 2), .int 0, .int 1, .int (nI n_3), .int ex, .int ad, .ref (x + 3), .ref (x + 4), .int me, .long se, .ref (x + 5), .int (nI fl), .int dr, .long ob, .long sa, .long sn, .long us, .ref (x + 6), .ref (x + 7), .int (nI pe), .ref (x + 8), .int (nI le), .ref (x + 9), .ref (x + 10), .int (nI qu), .ref (x + 11), .ref (x + 12), .ref (x + 13), .ref (x + 14), .ref (x + 15), .ref (x + 16), .int (nI n_1), .long v_1, .ref (x + 17), .ref (x + 18), .ref (x + 19), .ref (x + 20), .ref (x + 21), .ref (x + 22), .int (nI n_2), .ref (x + 23), .ref (x + 24), .int (nI tk), .ref (x + 25), .int (nI il), .int (nI nx), .int ec, .int ep, .int kn, .int (nI st), .int nu, .long va]) := fset_at hΦ3
      have hI6 : Im G x (NN, (NNq (finC c)), cr, tp, tt, sI, sT, pt, ql, fl, pe, le, nx, il, qu, kn, ec, nu, va, st, ep, 0, ad, ob, 1, n_3, ex, sa, us, tk, th, me, dr, se, sn) Φ3 := Im.put0 hI5 hΦ3 ⟨n_1, v_1, n_2, rfl, b_14, (show 1 ≤ n_3 by omega), (show n_3 ≤ 1024 by omega), b_4, b_5, b_6, b_7, b_8, b_9, b_10, b_11, b_12, b_13⟩
      refine z_aload_n B dX12_take_98 rfl 1 rfl ?_
      refine z_iconst (v := 0) B dX12_take_99 rfl ?_
      refine z_put (ref := "FlowExporterModel") (C := RX12) (T := TX12) (N := 54) (ci := 14) (v := .int 0) B hu_X12_take_X12 tyX12 tyX12_ok nmX12 rfl 7 (Nat.le_of_ble_eq_true rfl) hv_X12_take_110 rfl (Or.inl rfl) h_9 hx (by decide +kernel) (by decide +kernel) (Nat.le_of_ble_eq_true rfl) dX12_take_100 (fun Φ4 hΦ4 => ?_)
      have h_10 : Φ4 x = some (o_ 14 [.int th, .ref (x + 1), .ref (x + 2), .int 0, .int 1, .int (nI n_3), .int ex, .int 0, .ref (x + 3), .ref (x + 4), .int me, .long se, .ref (x + 5), .int (nI fl), .int dr, .long ob, .long sa, .long sn, .long us, .ref (x + 6), .ref (x + 7), .int (nI pe), .ref (x + 8), .int (nI le), .ref (x + 9), .ref (x + 10), .int (nI qu), .ref (x + 11), .ref (x + 12), .ref (x + 13), .ref (x + 14), .ref (x + 15), .ref (x + 16), .int (nI n_1), .long v_1, .ref (x + 17), .ref (x + 18), .ref (x + 19), .ref (x + 20), .ref (x + 21), .ref (x + 22), .int (nI n_2), .ref (x + 23), .ref (x + 24), .int (nI tk), .ref (x + 25), .int (nI il), .int (nI nx), .int ec, .int ep, .int kn, .int (nI st), .int nu, .long va]) := fset_at hΦ4
      have hI7 : Im G x (NN, (NNq (finC c)), cr, tp, tt, sI, sT, pt, ql, fl, pe, le, nx, il, qu, kn, ec, nu, va, st, ep, 0, 0, ob, 1, n_3, ex, sa, us, tk, th, me, dr, se, sn) Φ4 := Im.put0 hI6 hΦ4 ⟨n_1, v_1, n_2, rfl, (by decide), (show 1 ≤ n_3 by omega), (show n_3 ≤ 1024 by omega), b_4, b_5, b_6, b_7, b_8, b_9, b_10, b_11, b_12, b_13⟩
      refine z_aload_n B dX12_take_103 rfl 1 rfl ?_
      refine z_iconst (v := 0) B dX12_take_104 rfl ?_
      refine z_put (ref := "FlowExporterModel") (C := RX12) (T := TX12) (N := 54) (ci := 14) (v := .int 0) B hu_X12_take_X12 tyX12 tyX12_ok nmX12 rfl 6 (Nat.le_of_ble_eq_true rfl) hv_X12_take_114 rfl (Or.inl rfl) h_10 hx rfl rfl (Nat.le_of_ble_eq_true rfl) dX12_take_105 (fun Φ5 hΦ5 => ?_)
      have h_11 : Φ5 x = some (o_ 14 [.int th, .ref (x + 1), .ref (x + 2), .int 0, .int 1, .int (nI n_3), .int 0, .int 0, .ref (x + 3), .ref (x + 4), .int me, .long se, .ref (x + 5), .int (nI fl), .int dr, .long ob, .long sa, .long sn, .long us, .ref (x + 6), .ref (x + 7), .int (nI pe), .ref (x + 8), .int (nI le), .ref (x + 9), .ref (x + 10), .int (nI qu), .ref (x + 11), .ref (x + 12), .ref (x + 13), .ref (x + 14), .ref (x + 15), .ref (x + 16), .int (nI n_1), .long v_1, .ref (x + 17), .ref (x + 18), .ref (x + 19), .ref (x + 20), .ref (x + 21), .ref (x + 22), .int (nI n_2), .ref (x + 23), .ref (x + 24), .int (nI tk), .ref (x + 25), .int (nI il), .int (nI nx), .int ec, .int ep, .int kn, .int (nI st), .int nu, .long va]) := fset_at hΦ5
      have hI8 : Im G x (NN, (NNq (finC c)), cr, tp, tt, sI, sT, pt, ql, fl, pe, le, nx, il, qu, kn, ec, nu, va, st, ep, 0, 0, ob, 1, n_3, 0, sa, us, tk, th, me, dr, se, sn) Φ5 := Im.put0 hI7 hΦ5 ⟨n_1, v_1, n_2, rfl, (by decide), (show 1 ≤ n_3 by omega), (show n_3 ≤ 1024 by omega), b_4, b_5, b_6, b_7, b_8, b_9, b_10, b_11, b_12, b_13⟩
      refine z_aload_n B dX12_take_108 rfl 1 rfl ?_
      refine z_lconst (v := 0) B dX12_take_109 rfl ?_
      refine z_put (ref := "FlowExporterModel") (C := RX12) (T := TX12) (N := 54) (ci := 14) (v := .long 0) B hu_X12_take_X12 tyX12 tyX12_ok nmX12 rfl 15 (Nat.le_of_ble_eq_true rfl) hv_X12_take_117 rfl (Or.inl rfl) h_11 hx rfl rfl (Nat.le_of_ble_eq_true rfl) dX12_take_110 (fun Φ6 hΦ6 => ?_)
      have h_12 : Φ6 x = some (o_ 14 [.int th, .ref (x + 1), .ref (x + 2), .int 0, .int 1, .int (nI n_3), .int 0, .int 0, .ref (x + 3), .ref (x + 4), .int me, .long se, .ref (x + 5), .int (nI fl), .int dr, .long 0, .long sa, .long sn, .long us, .ref (x + 6), .ref (x + 7), .int (nI pe), .ref (x + 8), .int (nI le), .ref (x + 9), .ref (x + 10), .int (nI qu), .ref (x + 11), .ref (x + 12), .ref (x + 13), .ref (x + 14), .ref (x + 15), .ref (x + 16), .int (nI n_1), .long v_1, .ref (x + 17), .ref (x + 18), .ref (x + 19), .ref (x + 20), .ref (x + 21), .ref (x + 22), .int (nI n_2), .ref (x + 23), .ref (x + 24), .int (nI tk), .ref (x + 25), .int (nI il), .int (nI nx), .int ec, .int ep, .int kn, .int (nI st), .int nu, .long va]) := fset_at hΦ6
      have hI9 : Im G x (NN, (NNq (finC c)), cr, tp, tt, sI, sT, pt, ql, fl, pe, le, nx, il, qu, kn, ec, nu, va, st, ep, 0, 0, 0, 1, n_3, 0, sa, us, tk, th, me, dr, se, sn) Φ6 := Im.put0 hI8 hΦ6 ⟨n_1, v_1, n_2, rfl, (by decide), (show 1 ≤ n_3 by omega), (show n_3 ≤ 1024 by omega), b_4, b_5, b_6, b_7, b_8, b_9, b_10, b_11, b_12, b_13⟩
      refine z_aload_n B dX12_take_113 rfl 1 rfl ?_
      refine z_lconst (v := 0) B dX12_take_114 rfl ?_
      refine z_put (ref := "FlowExporterModel") (C := RX12) (T := TX12) (N := 54) (ci := 14) (v := .long 0) B hu_X12_take_X12 tyX12 tyX12_ok nmX12 rfl 16 (Nat.le_of_ble_eq_true rfl) hv_X12_take_121 rfl (Or.inl rfl) h_12 hx rfl rfl (Nat.le_of_ble_eq_true rfl) dX12_take_115 (fun Φ7 hΦ7 => ?_)
      have h_13 : Φ7 x = some (o_ 14 [.int th, .ref (x + 1), .ref (x + 2), .int 0, .int 1, .int (nI n_3), .int 0, .int 0, .ref (x + 3), .ref (x + 4), .int me, .long se, .ref (x + 5), .int (nI fl), .int dr, .long 0, .long 0, .long sn, .long us, .ref (x + 6), .ref (x + 7), .int (nI pe), .ref (x + 8), .int (nI le), .ref (x + 9), .ref (x + 10), .int (nI qu), .ref (x + 11), .ref (x + 12), .ref (x + 13), .ref (x + 14), .ref (x + 15), .ref (x + 16), .int (nI n_1), .long v_1, .ref (x + 17), .ref (x + 18), .ref (x + 19), .ref (x + 20), .ref (x + 21), .ref (x + 22), .int (nI n_2), .ref (x + 23), .ref (x + 24), .int (nI tk), .ref (x + 25), .int (nI il), .int (nI nx), .int ec, .int ep, .int kn, .int (nI st), .int nu, .long va]) := fset_at hΦ7
      have hI10 : Im G x (NN, (NNq (finC c)), cr, tp, tt, sI, sT, pt, ql, fl, pe, le, nx, il, qu, kn, ec, nu, va, st, ep, 0, 0, 0, 1, n_3, 0, 0, us, tk, th, me, dr, se, sn) Φ7 := Im.put0 hI9 hΦ7 ⟨n_1, v_1, n_2, rfl, (by decide), (show 1 ≤ n_3 by omega), (show n_3 ≤ 1024 by omega), b_4, b_5, b_6, b_7, b_8, b_9, b_10, b_11, b_12, b_13⟩
      refine z_aload_n B dX12_take_118 rfl 1 rfl ?_
      refine z_lconst (v := 0) B dX12_take_119 rfl ?_
      refine z_put (ref := "FlowExporterModel") (C := RX12) (T := TX12) (N := 54) (ci := 14) (v := .long 0) B hu_X12_take_X12 tyX12 tyX12_ok nmX12 rfl 17 (Nat.le_of_ble_eq_true rfl) hv_X12_take_124 rfl (Or.inl rfl) h_13 hx rfl rfl (Nat.le_of_ble_eq_true rfl) dX12_take_120 (fun Φ8 hΦ8 => ?_)
      have h_14 : Φ8 x = some (o_ 14 [.int th, .ref (x + 1), .ref (x + 2), .int 0, .int 1, .int (nI n_3), .int 0, .int 0, .ref (x + 3), .ref (x + 4), .int me, .long se, .ref (x + 5), .int (nI fl), .int dr, .long 0, .long 0, .long 0, .long us, .ref (x + 6), .ref (x + 7), .int (nI pe), .ref (x + 8), .int (nI le), .ref (x + 9), .ref (x + 10), .int (nI qu), .ref (x + 11), .ref (x + 12), .ref (x + 13), .ref (x + 14), .ref (x + 15), .ref (x + 16), .int (nI n_1), .long v_1, .ref (x + 17), .ref (x + 18), .ref (x + 19), .ref (x + 20), .ref (x + 21), .ref (x + 22), .int (nI n_2), .ref (x + 23), .ref (x + 24), .int (nI tk), .ref (x + 25), .int (nI il), .int (nI nx), .int ec, .int ep, .int kn, .int (nI st), .int nu, .long va]) := fset_at hΦ8
      have hI11 : Im G x (NN, (NNq (finC c)), cr, tp, tt, sI, sT, pt, ql, fl, pe, le, nx, il, qu, kn, ec, nu, va, st, ep, 0, 0, 0, 1, n_3, 0, 0, us, tk, th, me, dr, se, 0) Φ8 := Im.put0 hI10 hΦ8 ⟨n_1, v_1, n_2, rfl, (by decide), (show 1 ≤ n_3 by omega), (show n_3 ≤ 1024 by omega), b_4, b_5, b_6, b_7, b_8, b_9, b_10, b_11, b_12, b_13⟩
      refine z_aload_n B dX12_take_123 rfl 1 rfl ?_
      refine z_lconst (v := 0) B dX12_take_124 rfl ?_
      refine z_put (ref := "FlowExporterModel") (C := RX12) (T := TX12) (N := 54) (ci := 14) (v := .long 0) B hu_X12_take_X12 tyX12 tyX12_ok nmX12 rfl 18 (Nat.le_of_ble_eq_true rfl) hv_X12_take_127 rfl (Or.inl rfl) h_14 hx rfl rfl (Nat.le_of_ble_eq_true rfl) dX12_take_125 (fun Φ9 hΦ9 => ?_)
      have h_15 : Φ9 x = some (o_ 14 [.int th, .ref (x + 1), .ref (x + 2), .int 0, .int 1, .int (nI n_3), .int 0, .int 0, .ref (x + 3), .ref (x + 4), .int me, .long se, .ref (x + 5), .int (nI fl), .int dr, .long 0, .long 0, .long 0, .long 0, .ref (x + 6), .ref (x + 7), .int (nI pe), .ref (x + 8), .int (nI le), .ref (x + 9), .ref (x + 10), .int (nI qu), .ref (x + 11), .ref (x + 12), .ref (x + 13), .ref (x + 14), .ref (x + 15), .ref (x + 16), .int (nI n_1), .long v_1, .ref (x + 17), .ref (x + 18), .ref (x + 19), .ref (x + 20), .ref (x + 21), .ref (x + 22), .int (nI n_2), .ref (x + 23), .ref (x + 24), .int (nI tk), .ref (x + 25), .int (nI il), .int (nI nx), .int ec, .int ep, .int kn, .int (nI st), .int nu, .long va]) := fset_at hΦ9
      have hI12 : Im G x (NN, (NNq (finC c)), cr, tp, tt, sI, sT, pt, ql, fl, pe, le, nx, il, qu, kn, ec, nu, va, st, ep, 0, 0, 0, 1, n_3, 0, 0, 0, tk, th, me, dr, se, 0) Φ9 := Im.put0 hI11 hΦ9 ⟨n_1, v_1, n_2, rfl, (by decide), (show 1 ≤ n_3 by omega), (show n_3 ≤ 1024 by omega), b_4, b_5, b_6, b_7, b_8, b_9, b_10, b_11, b_12, b_13⟩
      refine z_aload_n B dX12_take_128 rfl 1 rfl ?_
      refine z_iconst (v := 0) B dX12_take_129 rfl ?_
      refine z_put (ref := "FlowExporterModel") (C := RX12) (T := TX12) (N := 54) (ci := 14) (v := .int 0) B hu_X12_take_X12 tyX12 tyX12_ok nmX12 rfl 14 (Nat.le_of_ble_eq_true rfl) hv_X12_take_130 rfl (Or.inl rfl) h_15 hx rfl rfl (Nat.le_of_ble_eq_true rfl) dX12_take_130 (fun Φ10 hΦ10 => ?_)
      have h_16 : Φ10 x = some (o_ 14 [.int th, .ref (x + 1), .ref (x + 2), .int 0, .int 1, .int (nI n_3), .int 0, .int 0, .ref (x + 3), .ref (x + 4), .int me, .long se, .ref (x + 5), .int (nI fl), .int 0, .long 0, .long 0, .long 0, .long 0, .ref (x + 6), .ref (x + 7), .int (nI pe), .ref (x + 8), .int (nI le), .ref (x + 9), .ref (x + 10), .int (nI qu), .ref (x + 11), .ref (x + 12), .ref (x + 13), .ref (x + 14), .ref (x + 15), .ref (x + 16), .int (nI n_1), .long v_1, .ref (x + 17), .ref (x + 18), .ref (x + 19), .ref (x + 20), .ref (x + 21), .ref (x + 22), .int (nI n_2), .ref (x + 23), .ref (x + 24), .int (nI tk), .ref (x + 25), .int (nI il), .int (nI nx), .int ec, .int ep, .int kn, .int (nI st), .int nu, .long va]) := fset_at hΦ10
      have hI13 : Im G x (NN, (NNq (finC c)), cr, tp, tt, sI, sT, pt, ql, fl, pe, le, nx, il, qu, kn, ec, nu, va, st, ep, 0, 0, 0, 1, n_3, 0, 0, 0, tk, th, me, 0, se, 0) Φ10 := Im.put0 hI12 hΦ10 ⟨n_1, v_1, n_2, rfl, (by decide), (show 1 ≤ n_3 by omega), (show n_3 ≤ 1024 by omega), b_4, b_5, b_6, b_7, b_8, b_9, b_10, b_11, b_12, b_13⟩
      refine z_aload_n B dX12_take_133 rfl 1 rfl ?_
      refine z_iconst (v := 0) B dX12_take_134 rfl ?_
      refine z_put (ref := "FlowExporterModel") (C := RX12) (T := TX12) (N := 54) (ci := 14) (v := .int 0) B hu_X12_take_X12 tyX12 tyX12_ok nmX12 rfl 13 (Nat.le_of_ble_eq_true rfl) hv_X12_take_133 rfl (Or.inl rfl) h_16 hx rfl rfl (Nat.le_of_ble_eq_true rfl) dX12_take_135 (fun Φ11 hΦ11 => ?_)
      have h_17 : Φ11 x = some (o_ 14 [.int th, .ref (x + 1), .ref (x + 2), .int 0, .int 1, .int (nI n_3), .int 0, .int 0, .ref (x + 3), .ref (x + 4), .int me, .long se, .ref (x + 5), .int 0, .int 0, .long 0, .long 0, .long 0, .long 0, .ref (x + 6), .ref (x + 7), .int (nI pe), .ref (x + 8), .int (nI le), .ref (x + 9), .ref (x + 10), .int (nI qu), .ref (x + 11), .ref (x + 12), .ref (x + 13), .ref (x + 14), .ref (x + 15), .ref (x + 16), .int (nI n_1), .long v_1, .ref (x + 17), .ref (x + 18), .ref (x + 19), .ref (x + 20), .ref (x + 21), .ref (x + 22), .int (nI n_2), .ref (x + 23), .ref (x + 24), .int (nI tk), .ref (x + 25), .int (nI il), .int (nI nx), .int ec, .int ep, .int kn, .int (nI st), .int nu, .long va]) := fset_at hΦ11
      have hI14 : Im G x (NN, (NNq (finC c)), cr, tp, tt, sI, sT, pt, ql, 0, pe, le, nx, il, qu, kn, ec, nu, va, st, ep, 0, 0, 0, 1, n_3, 0, 0, 0, tk, th, me, 0, se, 0) Φ11 := Im.put0 hI13 hΦ11 ⟨n_1, v_1, n_2, rfl, (by decide), (show 1 ≤ n_3 by omega), (show n_3 ≤ 1024 by omega), (show 0 ≤ 12 by omega), b_5, b_6, b_7, b_8, b_9, b_10, b_11, b_12, b_13⟩
      refine z_aload_n B dX12_take_138 rfl 1 rfl ?_
      refine z_iconst (v := 0) B dX12_take_139 rfl ?_
      refine z_put (ref := "FlowExporterModel") (C := RX12) (T := TX12) (N := 54) (ci := 14) (v := .int 0) B hu_X12_take_X12 tyX12 tyX12_ok nmX12 rfl 21 (Nat.le_of_ble_eq_true rfl) hv_X12_take_136 rfl (Or.inl rfl) h_17 hx rfl rfl (Nat.le_of_ble_eq_true rfl) dX12_take_140 (fun Φ12 hΦ12 => ?_)
      have h_18 : Φ12 x = some (o_ 14 [.int th, .ref (x + 1), .ref (x + 2), .int 0, .int 1, .int (nI n_3), .int 0, .int 0, .ref (x + 3), .ref (x + 4), .int me, .long se, .ref (x + 5), .int 0, .int 0, .long 0, .long 0, .long 0, .long 0, .ref (x + 6), .ref (x + 7), .int 0, .ref (x + 8), .int (nI le), .ref (x + 9), .ref (x + 10), .int (nI qu), .ref (x + 11), .ref (x + 12), .ref (x + 13), .ref (x + 14), .ref (x + 15), .ref (x + 16), .int (nI n_1), .long v_1, .ref (x + 17), .ref (x + 18), .ref (x + 19), .ref (x + 20), .ref (x + 21), .ref (x + 22), .int (nI n_2), .ref (x + 23), .ref (x + 24), .int (nI tk), .ref (x + 25), .int (nI il), .int (nI nx), .int ec, .int ep, .int kn, .int (nI st), .int nu, .long va]) := fset_at hΦ12
      have hI15 : Im G x (NN, (NNq (finC c)), cr, tp, tt, sI, sT, pt, ql, 0, 0, le, nx, il, qu, kn, ec, nu, va, st, ep, 0, 0, 0, 1, n_3, 0, 0, 0, tk, th, me, 0, se, 0) Φ12 := Im.put0 hI14 hΦ12 ⟨n_1, v_1, n_2, rfl, (by decide), (show 1 ≤ n_3 by omega), (show n_3 ≤ 1024 by omega), (show 0 ≤ 12 by omega), (show 0 ≤ 24 by omega), b_6, b_7, b_8, b_9, b_10, b_11, b_12, b_13⟩
      refine z_aload_n B dX12_take_143 rfl 1 rfl ?_
      refine z_iconst (v := 0) B dX12_take_144 rfl ?_
      refine z_put (ref := "FlowExporterModel") (C := RX12) (T := TX12) (N := 54) (ci := 14) (v := .int 0) B hu_X12_take_X12 tyX12 tyX12_ok nmX12 rfl 26 (Nat.le_of_ble_eq_true rfl) hv_X12_take_139 rfl (Or.inl rfl) h_18 hx rfl rfl (Nat.le_of_ble_eq_true rfl) dX12_take_145 (fun Φ13 hΦ13 => ?_)
      have h_19 : Φ13 x = some (o_ 14 [.int th, .ref (x + 1), .ref (x + 2), .int 0, .int 1, .int (nI n_3), .int 0, .int 0, .ref (x + 3), .ref (x + 4), .int me, .long se, .ref (x + 5), .int 0, .int 0, .long 0, .long 0, .long 0, .long 0, .ref (x + 6), .ref (x + 7), .int 0, .ref (x + 8), .int (nI le), .ref (x + 9), .ref (x + 10), .int 0, .ref (x + 11), .ref (x + 12), .ref (x + 13), .ref (x + 14), .ref (x + 15), .ref (x + 16), .int (nI n_1), .long v_1, .ref (x + 17), .ref (x + 18), .ref (x + 19), .ref (x + 20), .ref (x + 21), .ref (x + 22), .int (nI n_2), .ref (x + 23), .ref (x + 24), .int (nI tk), .ref (x + 25), .int (nI il), .int (nI nx), .int ec, .int ep, .int kn, .int (nI st), .int nu, .long va]) := fset_at hΦ13
      have hI16 : Im G x (NN, (NNq (finC c)), cr, tp, tt, sI, sT, pt, ql, 0, 0, le, nx, il, 0, kn, ec, nu, va, st, ep, 0, 0, 0, 1, n_3, 0, 0, 0, tk, th, me, 0, se, 0) Φ13 := Im.put0 hI15 hΦ13 ⟨n_1, v_1, n_2, rfl, (by decide), (show 1 ≤ n_3 by omega), (show n_3 ≤ 1024 by omega), (show 0 ≤ 12 by omega), (show 0 ≤ 24 by omega), b_6, (show 0 ≤ 12 by omega), b_8, b_9, b_10, b_11, b_12, b_13⟩
      refine z_aload_n B dX12_take_148 rfl 1 rfl ?_
      refine z_iconst (v := 0) B dX12_take_149 rfl ?_
      refine z_put (ref := "FlowExporterModel") (C := RX12) (T := TX12) (N := 54) (ci := 14) (v := .int 0) B hu_X12_take_X12 tyX12 tyX12_ok nmX12 rfl 10 (Nat.le_of_ble_eq_true rfl) hv_X12_take_142 rfl (Or.inl rfl) h_19 hx rfl rfl (Nat.le_of_ble_eq_true rfl) dX12_take_150 (fun Φ14 hΦ14 => ?_)
      have h_20 : Φ14 x = some (o_ 14 [.int th, .ref (x + 1), .ref (x + 2), .int 0, .int 1, .int (nI n_3), .int 0, .int 0, .ref (x + 3), .ref (x + 4), .int 0, .long se, .ref (x + 5), .int 0, .int 0, .long 0, .long 0, .long 0, .long 0, .ref (x + 6), .ref (x + 7), .int 0, .ref (x + 8), .int (nI le), .ref (x + 9), .ref (x + 10), .int 0, .ref (x + 11), .ref (x + 12), .ref (x + 13), .ref (x + 14), .ref (x + 15), .ref (x + 16), .int (nI n_1), .long v_1, .ref (x + 17), .ref (x + 18), .ref (x + 19), .ref (x + 20), .ref (x + 21), .ref (x + 22), .int (nI n_2), .ref (x + 23), .ref (x + 24), .int (nI tk), .ref (x + 25), .int (nI il), .int (nI nx), .int ec, .int ep, .int kn, .int (nI st), .int nu, .long va]) := fset_at hΦ14
      have hI17 : Im G x (NN, (NNq (finC c)), cr, tp, tt, sI, sT, pt, ql, 0, 0, le, nx, il, 0, kn, ec, nu, va, st, ep, 0, 0, 0, 1, n_3, 0, 0, 0, tk, th, 0, 0, se, 0) Φ14 := Im.put0 hI16 hΦ14 ⟨n_1, v_1, n_2, rfl, (by decide), (show 1 ≤ n_3 by omega), (show n_3 ≤ 1024 by omega), (show 0 ≤ 12 by omega), (show 0 ≤ 24 by omega), b_6, (show 0 ≤ 12 by omega), b_8, b_9, b_10, b_11, b_12, b_13⟩
      refine z_aload_n B dX12_take_153 rfl 1 rfl ?_
      refine z_iconst (v := 0) B dX12_take_154 rfl ?_
      refine z_put (ref := "FlowExporterModel") (C := RX12) (T := TX12) (N := 54) (ci := 14) (v := .int 0) B hu_X12_take_X12 tyX12 tyX12_ok nmX12 rfl 44 (Nat.le_of_ble_eq_true rfl) hv_X12_take_145 rfl (Or.inl rfl) h_20 hx rfl rfl (Nat.le_of_ble_eq_true rfl) dX12_take_155 (fun Φ15 hΦ15 => ?_)
      have h_21 : Φ15 x = some (o_ 14 [.int th, .ref (x + 1), .ref (x + 2), .int 0, .int 1, .int (nI n_3), .int 0, .int 0, .ref (x + 3), .ref (x + 4), .int 0, .long se, .ref (x + 5), .int 0, .int 0, .long 0, .long 0, .long 0, .long 0, .ref (x + 6), .ref (x + 7), .int 0, .ref (x + 8), .int (nI le), .ref (x + 9), .ref (x + 10), .int 0, .ref (x + 11), .ref (x + 12), .ref (x + 13), .ref (x + 14), .ref (x + 15), .ref (x + 16), .int (nI n_1), .long v_1, .ref (x + 17), .ref (x + 18), .ref (x + 19), .ref (x + 20), .ref (x + 21), .ref (x + 22), .int (nI n_2), .ref (x + 23), .ref (x + 24), .int 0, .ref (x + 25), .int (nI il), .int (nI nx), .int ec, .int ep, .int kn, .int (nI st), .int nu, .long va]) := fset_at hΦ15
      have hI18 : Im G x (NN, (NNq (finC c)), cr, tp, tt, sI, sT, pt, ql, 0, 0, le, nx, il, 0, kn, ec, nu, va, st, ep, 0, 0, 0, 1, n_3, 0, 0, 0, 0, th, 0, 0, se, 0) Φ15 := Im.put0 hI17 hΦ15 ⟨n_1, v_1, n_2, rfl, (by decide), (show 1 ≤ n_3 by omega), (show n_3 ≤ 1024 by omega), (show 0 ≤ 12 by omega), (show 0 ≤ 24 by omega), b_6, (show 0 ≤ 12 by omega), b_8, b_9, (show 0 ≤ 24 by omega), b_11, b_12, b_13⟩
      refine z_aload_n B dX12_take_158 rfl 1 rfl ?_
      refine z_iconst (v := 0) B dX12_take_159 rfl ?_
      refine z_put (ref := "FlowExporterModel") (C := RX12) (T := TX12) (N := 54) (ci := 14) (v := .int 0) B hu_X12_take_X12 tyX12 tyX12_ok nmX12 rfl 41 (Nat.le_of_ble_eq_true rfl) hv_X12_take_148 rfl (Or.inl rfl) h_21 hx rfl rfl (Nat.le_of_ble_eq_true rfl) dX12_take_160 (fun Φ16 hΦ16 => ?_)
      have h_22 : Φ16 x = some (o_ 14 [.int th, .ref (x + 1), .ref (x + 2), .int 0, .int 1, .int (nI n_3), .int 0, .int 0, .ref (x + 3), .ref (x + 4), .int 0, .long se, .ref (x + 5), .int 0, .int 0, .long 0, .long 0, .long 0, .long 0, .ref (x + 6), .ref (x + 7), .int 0, .ref (x + 8), .int (nI le), .ref (x + 9), .ref (x + 10), .int 0, .ref (x + 11), .ref (x + 12), .ref (x + 13), .ref (x + 14), .ref (x + 15), .ref (x + 16), .int (nI n_1), .long v_1, .ref (x + 17), .ref (x + 18), .ref (x + 19), .ref (x + 20), .ref (x + 21), .ref (x + 22), .int 0, .ref (x + 23), .ref (x + 24), .int 0, .ref (x + 25), .int (nI il), .int (nI nx), .int ec, .int ep, .int kn, .int (nI st), .int nu, .long va]) := fset_at hΦ16
      have hI19 : Im G x (NN, (NNq (finC c)), cr, tp, tt, sI, sT, pt, ql, 0, 0, le, nx, il, 0, kn, ec, nu, va, st, ep, 0, 0, 0, 1, n_3, 0, 0, 0, 0, th, 0, 0, se, 0) Φ16 := Im.put0 hI18 hΦ16 ⟨n_1, v_1, 0, rfl, (by decide), (show 1 ≤ n_3 by omega), (show n_3 ≤ 1024 by omega), (show 0 ≤ 12 by omega), (show 0 ≤ 24 by omega), b_6, (show 0 ≤ 12 by omega), b_8, (show 0 ≤ 24 by omega), (show 0 ≤ 24 by omega), b_11, b_12, b_13⟩
      refine z_iconst (v := 0) B dX12_take_163 rfl ?_
      refine z_istore_n (lv' := [(1, .int 0), (0, .ref x)]) B dX12_take_164 rfl (Nat.le_of_ble_eq_true rfl) rfl ?_
      refine z_lv [0, 1] rfl ?_
      refine z_loop (α := Nat) (fun (a9 : Nat) Φi => Im G x (NN, (NNq (finC c)), cr, tp, tt, sI, sT, pt, ql, 0, 0, le, nx, il, 0, kn, ec, nu, va, st, ep, 0, 0, 0, 1, n_3, 0, 0, 0, 0, th, 0, 0, se, 0) Φi ∧ Fr x (fun j9 => j9 = 11) Φ16 Φi ∧ (a9 ≤ 9) ∧ True) (fun a9 => [(1, .int (nI a9)), (0, .ref x)]) (fun a9 => 9 - a9) ?_ (0) ⟨hI19, fun _ _ => rfl, (show 0 ≤ 9 by omega), trivial⟩
      rintro i_2 Φl2 ⟨hI20, hF3, b_17, -⟩ ih2
      replace hI20 : Im G x (NN, (NNq (finC c)), cr, tp, tt, sI, sT, pt, ql, 0, 0, le, nx, il, 0, kn, ec, nu, va, st, ep, 0, 0, 0, 1, n_3, 0, 0, 0, 0, th, 0, 0, se, 0) Φl2 := hI20
      replace b_17 : i_2 ≤ 9 := b_17
      show Z p9 l e9 _ s9 m9 _ w9 t9 k9 _ G 2 165 [(1, .int (nI i_2)), (0, .ref x)] [] Φl2 _ _ _
      refine z_iload_n B dX12_take_165 rfl 0 rfl ?_
      refine z_bipush (v := 9) B dX12_take_166 rfl ?_
      refine z_icmp_ge (tgt := 184) B dX12_take_168 rfl (fun c_2 => ?_) (fun c_2 => ?_)
      · have e_3 : 9 ≤ i_2 := (nI_leI (a := 9) (b := i_2) (by omega) (by omega)).mp c_2
        refine z_aload_n B dX12_take_184 rfl 1 rfl ?_
        have h_23 : Φl2 x = some (o_ 14 [.int th, .ref (x + 1), .ref (x + 2), .int 0, .int 1, .int (nI n_3), .int 0, .int 0, .ref (x + 3), .ref (x + 4), .int 0, .long se, .ref (x + 5), .int 0, .int 0, .long 0, .long 0, .long 0, .long 0, .ref (x + 6), .ref (x + 7), .int 0, .ref (x + 8), .int (nI le), .ref (x + 9), .ref (x + 10), .int 0, .ref (x + 11), .ref (x + 12), .ref (x + 13), .ref (x + 14), .ref (x + 15), .ref (x + 16), .int (nI n_1), .long v_1, .ref (x + 17), .ref (x + 18), .ref (x + 19), .ref (x + 20), .ref (x + 21), .ref (x + 22), .int 0, .ref (x + 23), .ref (x + 24), .int 0, .ref (x + 25), .int (nI il), .int (nI nx), .int ec, .int ep, .int kn, .int (nI st), .int nu, .long va]) := ((hF3 x fq_1235).trans h_22)
        refine z_callV (As := []) (rest := []) B (r_startExporter G l Φl2 sz x NN (NNq (finC c)) cr tp tt sI sT pt ql 0 0 le nx il 0 kn ec nu va st ep 0 0 0 1 n_3 0 0 0 0 th 0 0 se 0  hx hI20 (fun f9 h9 => h9.1)) (cwV 0 B.1.2.2.2.2 gX12_take_X12_startExporter rfl rfl rfl (by decide +kernel) ⟨Nat.le_of_ble_eq_true rfl, Nat.le_of_ble_eq_true rfl⟩) h_23 rfl rfl rfl rfl (Nat.le_of_ble_eq_true rfl) dX12_take_185 ⟨Nat.le_of_ble_eq_true rfl, Nat.le_of_ble_eq_true rfl⟩ (fun r_4 Φ17 sz1 st1 hp1 hs1 => ?_)
        obtain ⟨rfl, hq1, hI21, hF4⟩ := hp1
        subst sz1
        replace hs1 : st1 = [] := hs1
        subst st1
        replace hI21 : Im G x (NN, (NNq (finC c)), cr, tp, tt, SiQ (fun _ => 0), sT, pt, ql, 0, 0, le, nx, il, 0, kn, ec, nu, va, st, ep, 0, 0, 0, 1, n_3, 0, 0, 0, 0, th, 0, 0, 0, 0) Φ17 := hI21
        refine z_aload_n B dX12_take_188 rfl 1 rfl ?_
        obtain ⟨n_4, v_2, n_5, h_24, b_30, b_18, b_19, b_20, b_21, b_22, b_23, b_24, b_25, b_26, b_27, b_28, b_29⟩ := im0 hI21
        replace b_18 : 1 ≤ n_3 := b_18
        replace b_19 : n_3 ≤ 1024 := b_19
        replace b_20 : 0 ≤ 12 := b_20
        replace b_21 : 0 ≤ 24 := b_21
        replace b_22 : le ≤ 700 := b_22
        replace b_23 : 0 ≤ 12 := b_23
        replace b_24 : n_4 ≤ 8 := b_24
        replace b_25 : n_5 ≤ 24 := b_25
        replace b_26 : 0 ≤ 24 := b_26
        replace b_27 : il ≤ 700 := b_27
        replace b_28 : nx ≤ 701 := b_28
        replace b_29 : st ≤ 701 := b_29
        have h_25 : Φ17 x = some (o_ 14 [.int th, .ref (x + 1), .ref (x + 2), .int 0, .int 1, .int (nI n_3), .int 0, .int 0, .ref (x + 3), .ref (x + 4), .int 0, .long 0, .ref (x + 5), .int (nI 0), .int 0, .long 0, .long 0, .long 0, .long 0, .ref (x + 6), .ref (x + 7), .int (nI 0), .ref (x + 8), .int (nI le), .ref (x + 9), .ref (x + 10), .int (nI 0), .ref (x + 11), .ref (x + 12), .ref (x + 13), .ref (x + 14), .ref (x + 15), .ref (x + 16), .int (nI n_4), .long v_2, .ref (x + 17), .ref (x + 18), .ref (x + 19), .ref (x + 20), .ref (x + 21), .ref (x + 22), .int (nI n_5), .ref (x + 23), .ref (x + 24), .int (nI 0), .ref (x + 25), .int (nI il), .int (nI nx), .int ec, .int ep, .int kn, .int (nI st), .int nu, .long va]) := h_24
        refine z_callV (As := []) (rest := []) B (r_startCollector G l Φ17 sz x NN (NNq (finC c)) cr tp tt (SiQ (fun _ => 0)) sT pt ql 0 0 le nx il 0 kn ec nu va st ep 0 0 0 1 n_3 0 0 0 0 th 0 0 0 0  hx hI21 (fun f9 h9 => h9.1)) (cwV 0 B.1.2.2.2.2 gX12_take_X12_startCollector rfl rfl rfl (by decide +kernel) ⟨Nat.le_of_ble_eq_true rfl, Nat.le_of_ble_eq_true rfl⟩) h_25 rfl rfl rfl rfl (Nat.le_of_ble_eq_true rfl) dX12_take_189 ⟨Nat.le_of_ble_eq_true rfl, Nat.le_of_ble_eq_true rfl⟩ (fun r_5 Φ18 sz2 st2 hp2 hs2 => ?_)
        obtain ⟨rfl, hq2, hI22, hF5⟩ := hp2
        subst sz2
        replace hs2 : st2 = [] := hs2
        subst st2
        replace hI22 : Im G x (NN, (NNq (finC c)), cr, tp, tt, SiQ (fun _ => 0), sT, pt, ql, 0, 0, le, nx, il, 0, kn, ec, nu, va, st, ep, 0, 0, 0, 1, n_3, 0, 0, 0, 0, th, 0, 0, 0, 0) Φ18 := hI22
        have hI23 : Im G x (NN, (NNq (finC c)), (CaQ 0 Fz), (TpQ 0 Fz), (TtQ 0 Fz), SiQ (fun _ => 0), sT, (PtQ 0 (fun _ => 0)), (QlQ 0 (fun _ => 0)), 0, 0, le, nx, il, 0, kn, ec, nu, va, st, ep, 0, 0, 0, 1, n_3, 0, 0, 0, 0, th, 0, 0, 0, 0) Φ18 := Im.weak5 hI22 (fun _ q9 => q9) (fun _ q9 => q9) (fun _ _ => CaQ.z) (fun _ _ => TpQ.z) (fun _ _ => TtQ.z) (fun _ q9 => q9) (fun _ q9 => q9) (fun _ _ => PtQ.z) (fun _ _ => QlQ.z)
        exact z_ret_v B dX12_take_192 ⟨rfl, rfl, ⟨n_3, ((r_2.2 0 (by decide)).symm.trans e_2), hI23⟩, (fun b9 h9 => ((hF5 b9 (fun j9 h8 h7 => h9 j9 h8 (fq_1239 j9 h7))).trans ((hF4 b9 (fun j9 h8 h7 => h9 j9 h8 (fq_1238 j9 h7))).trans ((hF3 b9 (fun j9 h8 h7 => h9 j9 h8 (fq_1237 j9 h7))).trans ((fset_fr hΦ16 (fun h8 => h9 (0) h8 (show 0 = 0 ∨ 0 = 1 ∨ 0 = 2 ∨ 0 = 3 ∨ 0 = 11 ∨ 0 = 12 by decide))).trans ((fset_fr hΦ15 (fun h8 => h9 (0) h8 (show 0 = 0 ∨ 0 = 1 ∨ 0 = 2 ∨ 0 = 3 ∨ 0 = 11 ∨ 0 = 12 by decide))).trans ((fset_fr hΦ14 (fun h8 => h9 (0) h8 (show 0 = 0 ∨ 0 = 1 ∨ 0 = 2 ∨ 0 = 3 ∨ 0 = 11 ∨ 0 = 12 by decide))).trans ((fset_fr hΦ13 (fun h8 => h9 (0) h8 (show 0 = 0 ∨ 0 = 1 ∨ 0 = 2 ∨ 0 = 3 ∨ 0 = 11 ∨ 0 = 12 by decide))).trans ((fset_fr hΦ12 (fun h8 => h9 (0) h8 (show 0 = 0 ∨ 0 = 1 ∨ 0 = 2 ∨ 0 = 3 ∨ 0 = 11 ∨ 0 = 12 by decide))).trans ((fset_fr hΦ11 (fun h8 => h9 (0) h8 (show 0 = 0 ∨ 0 = 1 ∨ 0 = 2 ∨ 0 = 3 ∨ 0 = 11 ∨ 0 = 12 by decide))).trans ((fset_fr hΦ10 (fun h8 => h9 (0) h8 (show 0 = 0 ∨ 0 = 1 ∨ 0 = 2 ∨ 0 = 3 ∨ 0 = 11 ∨ 0 = 12 by decide))).trans ((fset_fr hΦ9 (fun h8 => h9 (0) h8 (show 0 = 0 ∨ 0 = 1 ∨ 0 = 2 ∨ 0 = 3 ∨ 0 = 11 ∨ 0 = 12 by decide))).trans ((fset_fr hΦ8 (fun h8 => h9 (0) h8 (show 0 = 0 ∨ 0 = 1 ∨ 0 = 2 ∨ 0 = 3 ∨ 0 = 11 ∨ 0 = 12 by decide))).trans ((fset_fr hΦ7 (fun h8 => h9 (0) h8 (show 0 = 0 ∨ 0 = 1 ∨ 0 = 2 ∨ 0 = 3 ∨ 0 = 11 ∨ 0 = 12 by decide))).trans ((fset_fr hΦ6 (fun h8 => h9 (0) h8 (show 0 = 0 ∨ 0 = 1 ∨ 0 = 2 ∨ 0 = 3 ∨ 0 = 11 ∨ 0 = 12 by decide))).trans ((fset_fr hΦ5 (fun h8 => h9 (0) h8 (show 0 = 0 ∨ 0 = 1 ∨ 0 = 2 ∨ 0 = 3 ∨ 0 = 11 ∨ 0 = 12 by decide))).trans ((fset_fr hΦ4 (fun h8 => h9 (0) h8 (show 0 = 0 ∨ 0 = 1 ∨ 0 = 2 ∨ 0 = 3 ∨ 0 = 11 ∨ 0 = 12 by decide))).trans ((fset_fr hΦ3 (fun h8 => h9 (0) h8 (show 0 = 0 ∨ 0 = 1 ∨ 0 = 2 ∨ 0 = 3 ∨ 0 = 11 ∨ 0 = 12 by decide))).trans ((fset_fr hΦ2 (fun h8 => h9 (0) h8 (show 0 = 0 ∨ 0 = 1 ∨ 0 = 2 ∨ 0 = 3 ∨ 0 = 11 ∨ 0 = 12 by decide))).trans ((fset_fr hΦ1 (fun h8 => h9 (0) h8 (show 0 = 0 ∨ 0 = 1 ∨ 0 = 2 ∨ 0 = 3 ∨ 0 = 11 ∨ 0 = 12 by decide))).trans ((hF2 b9 (fun j9 h8 h7 => h9 j9 h8 (fq_1236 j9 h7))).trans ((hF1 b9 h9).trans rfl))))))))))))))))))))))⟩
      · have e_4 : ¬ (9 ≤ i_2) := fun h9 => c_2 ((nI_leI (a := 9) (b := i_2) (by omega) (by omega)).mpr h9)
        refine z_aload_n B dX12_take_171 rfl 1 rfl ?_
        have h_26 : Φl2 x = some (o_ 14 [.int th, .ref (x + 1), .ref (x + 2), .int 0, .int 1, .int (nI n_3), .int 0, .int 0, .ref (x + 3), .ref (x + 4), .int 0, .long se, .ref (x + 5), .int 0, .int 0, .long 0, .long 0, .long 0, .long 0, .ref (x + 6), .ref (x + 7), .int 0, .ref (x + 8), .int (nI le), .ref (x + 9), .ref (x + 10), .int 0, .ref (x + 11), .ref (x + 12), .ref (x + 13), .ref (x + 14), .ref (x + 15), .ref (x + 16), .int (nI n_1), .long v_1, .ref (x + 17), .ref (x + 18), .ref (x + 19), .ref (x + 20), .ref (x + 21), .ref (x + 22), .int 0, .ref (x + 23), .ref (x + 24), .int 0, .ref (x + 25), .int (nI il), .int (nI nx), .int ec, .int ep, .int kn, .int (nI st), .int nu, .long va]) := ((hF3 x fq_1235).trans h_22)
        refine z_get (ref := "FlowExporterModel") (C := RX12) (T := TX12) (N := 54) (ci := 14) (v := .ref (x + 11)) B hu_X12_take_X12 rfl 27 (Nat.le_of_ble_eq_true rfl) hv_X12_take_45 rfl h_26 rfl dX12_take_172 ?_
        refine z_iload_n B dX12_take_175 rfl 0 rfl ?_
        refine z_lconst (v := 0) B dX12_take_176 rfl ?_
        obtain ⟨f_3, h_27⟩ := imk (k := 11) hI20
        have h_28 : Φl2 (x + 11) = some (al_ G 9 f_3) := h_27
        refine z_last B h_28 (Nat.le_trans hx (Nat.le_add_right x 11)) (vp_in_nI (by omega) (by omega)) dX12_take_177 (fun Φ19 hΦ17 => ?_)
        have h_29 : Φ19 (x + 11) = some (al_ G 9 (vp_updL f_3 (nI i_2).toNatClampNeg 0)) := fset_at hΦ17
        have hI24 : Im G x (NN, (NNq (finC c)), cr, tp, tt, sI, sT, pt, ql, 0, 0, le, nx, il, 0, kn, ec, nu, va, st, ep, 0, 0, 0, 1, n_3, 0, 0, 0, 0, th, 0, 0, se, 0) Φ19 := Im.put (k := 11) hI20 hΦ17 ⟨_, rfl⟩
        refine z_iinc (k := 0) (v := nI (i_2 + 1)) (lv' := [(1, .int (nI (i_2 + 1))), (0, .ref x)]) B dX12_take_178 rfl (nI_add i_2 1) (Nat.le_of_ble_eq_true rfl) rfl ?_
        refine z_goto (tgt := 165) B dX12_take_181 rfl ?_
        refine z_lv [0, 1] rfl ?_
        exact ih2 (i_2 + 1) Φ19 (show 9 - (i_2 + 1) < 9 - i_2 by omega) ⟨hI24, (fun b9 h9 => ((fset_fr hΦ17 (fun h8 => h9 (11) h8 (show 11 = 11 by decide))).trans ((hF3 b9 h9).trans rfl))), (show (i_2 + 1) ≤ 9 by omega), trivial⟩
    · have e_5 : ¬ (307 ≤ i_1) := fun h9 => c_1 ((nI_leI (a := 307) (b := i_1) (by omega) (by omega)).mpr h9)
      refine z_aload_n B dX12_take_60 rfl 1 rfl ?_
      obtain ⟨n_6, v_3, n_7, h_30, b_43, b_31, b_32, b_33, b_34, b_35, b_36, b_37, b_38, b_39, b_40, b_41, b_42⟩ := im0 hI2
      replace b_31 : 1 ≤ rt := b_31
      replace b_32 : rt ≤ 1024 := b_32
      replace b_33 : fl ≤ 12 := b_33
      replace b_34 : pe ≤ 24 := b_34
      replace b_35 : le ≤ 700 := b_35
      replace b_36 : qu ≤ 12 := b_36
      replace b_37 : n_6 ≤ 8 := b_37
      replace b_38 : n_7 ≤ 24 := b_38
      replace b_39 : tk ≤ 24 := b_39
      replace b_40 : il ≤ 700 := b_40
      replace b_41 : nx ≤ 701 := b_41
      replace b_42 : st ≤ 701 := b_42
      have h_31 : Φl1 x = some (o_ 14 [.int th, .ref (x + 1), .ref (x + 2), .int ti, .int ra, .int (nI rt), .int ex, .int ad, .ref (x + 3), .ref (x + 4), .int me, .long se, .ref (x + 5), .int (nI fl), .int dr, .long ob, .long sa, .long sn, .long us, .ref (x + 6), .ref (x + 7), .int (nI pe), .ref (x + 8), .int (nI le), .ref (x + 9), .ref (x + 10), .int (nI qu), .ref (x + 11), .ref (x + 12), .ref (x + 13), .ref (x + 14), .ref (x + 15), .ref (x + 16), .int (nI n_6), .long v_3, .ref (x + 17), .ref (x + 18), .ref (x + 19), .ref (x + 20), .ref (x + 21), .ref (x + 22), .int (nI n_7), .ref (x + 23), .ref (x + 24), .int (nI tk), .ref (x + 25), .int (nI il), .int (nI nx), .int ec, .int ep, .int kn, .int (nI st), .int nu, .long va]) := h_30
      refine z_get (ref := "FlowExporterModel") (C := RX12) (T := TX12) (N := 54) (ci := 14) (v := .ref (x + 2)) B hu_X12_take_X12 rfl 2 (Nat.le_of_ble_eq_true rfl) hv_X12_take_17 rfl h_31 rfl dX12_take_61 ?_
      refine z_iload_n B dX12_take_64 rfl 0 rfl ?_
      refine z_aload_n B dX12_take_65 rfl 1 rfl ?_
      refine z_get (ref := "FlowExporterModel") (C := RX12) (T := TX12) (N := 54) (ci := 14) (v := .ref (x + 1)) B hu_X12_take_X12 rfl 1 (Nat.le_of_ble_eq_true rfl) hv_X12_take_13 rfl h_31 rfl dX12_take_66 ?_
      refine z_iload_n B dX12_take_69 rfl 0 rfl ?_
      have h_32 : Φl1 (x + 1) = some (ai_ G 307 f_1) := ((hF2 (x + 1) fq_1242).trans h_2)
      refine z_iald B h_32 (vp_in_nI (by omega) (by omega)) dX12_take_70 ?_
      obtain ⟨f_4, h_33, r_7⟩ := imk (k := 2) hI2
      replace r_7 : (fun g9 => ∀ j9, j9 < i_1 → g9 j9 = f_1 j9) f_4 := r_7
      have h_34 : Φl1 (x + 2) = some (ai_ G 307 f_4) := h_33
      refine z_iast B h_34 (Nat.le_trans hx (Nat.le_add_right x 2)) (vp_in_nI (by omega) (by omega)) dX12_take_71 (fun Φ20 hΦ18 => ?_)
      have h_35 : Φ20 (x + 2) = some (ai_ G 307 (upd f_4 (nI i_1).toNatClampNeg (f_1 (nI i_1).toNatClampNeg))) := fset_at hΦ18
      have hI25 : Im G x ((NNq (finC c)), (fun g9 => ∀ j9, j9 < i_1 + 1 → g9 j9 = f_1 j9), cr, tp, tt, sI, sT, pt, ql, fl, pe, le, nx, il, qu, kn, ec, nu, va, st, ep, ti, ad, ob, ra, rt, ex, sa, us, tk, th, me, dr, se, sn) Φ20 := Im.put2 (nw1 := (fun g9 => ∀ j9, j9 < i_1 + 1 → g9 j9 = f_1 j9)) hI2 hΦ18 (cps r_7 (nI_clamp (by omega)) (nI_clamp (by omega)))
      refine z_iinc (k := 0) (v := nI (i_1 + 1)) (lv' := [(1, .int (nI (i_1 + 1))), (0, .ref x)]) B dX12_take_72 rfl (nI_add i_1 1) (Nat.le_of_ble_eq_true rfl) rfl ?_
      refine z_goto (tgt := 53) B dX12_take_75 rfl ?_
      refine z_lv [0, 1] rfl ?_
      exact ih1 (i_1 + 1) Φ20 (show 307 - (i_1 + 1) < 307 - i_1 by omega) ⟨hI25, (fun b9 h9 => ((fset_fr hΦ18 (fun h8 => h9 (2) h8 (show 2 = 2 by decide))).trans ((hF2 b9 h9).trans rfl))), (show (i_1 + 1) ≤ 307 by omega), trivial⟩
  refine z_aload_n B dX12_take_0 rfl 0 rfl ?_
  obtain ⟨n_8, v_4, n_9, h_36, b_56, b_44, b_45, b_46, b_47, b_48, b_49, b_50, b_51, b_52, b_53, b_54, b_55⟩ := im0 hI
  replace b_44 : 1 ≤ rt := b_44
  replace b_45 : rt ≤ 1024 := b_45
  replace b_46 : fl ≤ 12 := b_46
  replace b_47 : pe ≤ 24 := b_47
  replace b_48 : le ≤ 700 := b_48
  replace b_49 : qu ≤ 12 := b_49
  replace b_50 : n_8 ≤ 8 := b_50
  replace b_51 : n_9 ≤ 24 := b_51
  replace b_52 : tk ≤ 24 := b_52
  replace b_53 : il ≤ 700 := b_53
  replace b_54 : nx ≤ 701 := b_54
  replace b_55 : st ≤ 701 := b_55
  have h_37 : Φ x = some (o_ 14 [.int th, .ref (x + 1), .ref (x + 2), .int ti, .int ra, .int (nI rt), .int ex, .int ad, .ref (x + 3), .ref (x + 4), .int me, .long se, .ref (x + 5), .int (nI fl), .int dr, .long ob, .long sa, .long sn, .long us, .ref (x + 6), .ref (x + 7), .int (nI pe), .ref (x + 8), .int (nI le), .ref (x + 9), .ref (x + 10), .int (nI qu), .ref (x + 11), .ref (x + 12), .ref (x + 13), .ref (x + 14), .ref (x + 15), .ref (x + 16), .int (nI n_8), .long v_4, .ref (x + 17), .ref (x + 18), .ref (x + 19), .ref (x + 20), .ref (x + 21), .ref (x + 22), .int (nI n_9), .ref (x + 23), .ref (x + 24), .int (nI tk), .ref (x + 25), .int (nI il), .int (nI nx), .int ec, .int ep, .int kn, .int (nI st), .int nu, .long va]) := h_36
  refine z_get (ref := "FlowExporterModel") (C := RX12) (T := TX12) (N := 54) (ci := 14) (v := .ref (x + 1)) B hu_X12_take_X12 rfl 1 (Nat.le_of_ble_eq_true rfl) hv_X12_take_13 rfl h_37 rfl dX12_take_1 ?_
  refine z_bipush (v := 10) B dX12_take_4 rfl ?_
  obtain ⟨f_5, h_38, r_8⟩ := imk (k := 1) hI
  replace r_8 : (NNc t c) f_5 := r_8
  have h_39 : Φ (x + 1) = some (ai_ G 307 f_5) := h_38
  refine z_iald B h_39 (vin rfl) dX12_take_6 ?_
  obtain ⟨n_10, b_57, e_6⟩ := r_8.1.1.2.2.2.2.1
  refine z_top (st1 := [.int (nI n_10)]) (congrArg (fun w9 : Int32 => ([.int w9] : List Value)) (e_6)) ?_
  refine z_if_ne (tgt := 51) B dX12_take_7 rfl (fun c_3 => ?_) (fun c_3 => ?_)
  · have e_7 : ¬ (n_10 = 0) := fun h9 => c_3 ((nI_eq (a := n_10) (b := 0) (by omega) (by omega)).mpr h9)
    have hI26 : Im G x ((NNq (finC c)), nw, cr, tp, tt, sI, sT, pt, ql, fl, pe, le, nx, il, qu, kn, ec, nu, va, st, ep, ti, ad, ob, ra, rt, ex, sa, us, tk, th, me, dr, se, sn) Φ := (Im.re1 hI h_39 (rd1 := NNq (finC c)) (NNq_fin r_8 e_6 (by omega) (by omega)))
    refine z_lv [0] rfl ?_
    exact J51 () Φ ⟨hI26, (fun b9 h9 => rfl), trivial⟩
  · have e_8 : n_10 = 0 := (nI_eq (a := n_10) (b := 0) (by omega) (by omega)).mp c_3
    refine z_aload_n B dX12_take_10 rfl 0 rfl ?_
    refine z_get (ref := "FlowExporterModel") (C := RX12) (T := TX12) (N := 54) (ci := 14) (v := .ref (x + 1)) B hu_X12_take_X12 rfl 1 (Nat.le_of_ble_eq_true rfl) hv_X12_take_13 rfl h_37 rfl dX12_take_11 ?_
    refine z_bipush (v := 10) B dX12_take_14 rfl ?_
    refine z_iconst (v := 1) B dX12_take_16 rfl ?_
    refine z_iast B h_39 (Nat.le_trans hx (Nat.le_add_right x 1)) (vin rfl) dX12_take_17 (fun Φ21 hΦ19 => ?_)
    have h_40 : Φ21 (x + 1) = some (ai_ G 307 (upd f_5 (10 : Int32).toNatClampNeg 1)) := fset_at hΦ19
    have hI27 : Im G x ((fun g9 => g9 = (upd f_5 (10 : Int32).toNatClampNeg 1)), nw, cr, tp, tt, sI, sT, pt, ql, fl, pe, le, nx, il, qu, kn, ec, nu, va, st, ep, ti, ad, ob, ra, rt, ex, sa, us, tk, th, me, dr, se, sn) Φ21 := Im.put1 (rd1 := (fun g9 => g9 = (upd f_5 (10 : Int32).toNatClampNeg 1))) hI hΦ19 rfl
    refine z_aload_n B dX12_take_18 rfl 0 rfl ?_
    have h_41 : Φ21 x = some (o_ 14 [.int th, .ref (x + 1), .ref (x + 2), .int ti, .int ra, .int (nI rt), .int ex, .int ad, .ref (x + 3), .ref (x + 4), .int me, .long se, .ref (x + 5), .int (nI fl), .int dr, .long ob, .long sa, .long sn, .long us, .ref (x + 6), .ref (x + 7), .int (nI pe), .ref (x + 8), .int (nI le), .ref (x + 9), .ref (x + 10), .int (nI qu), .ref (x + 11), .ref (x + 12), .ref (x + 13), .ref (x + 14), .ref (x + 15), .ref (x + 16), .int (nI n_8), .long v_4, .ref (x + 17), .ref (x + 18), .ref (x + 19), .ref (x + 20), .ref (x + 21), .ref (x + 22), .int (nI n_9), .ref (x + 23), .ref (x + 24), .int (nI tk), .ref (x + 25), .int (nI il), .int (nI nx), .int ec, .int ep, .int kn, .int (nI st), .int nu, .long va]) := ((fset_fr hΦ19 (ne_off (x := x) (i := 0) (j := 1) rfl)).trans h_37)
    refine z_get (ref := "FlowExporterModel") (C := RX12) (T := TX12) (N := 54) (ci := 14) (v := .ref (x + 1)) B hu_X12_take_X12 rfl 1 (Nat.le_of_ble_eq_true rfl) hv_X12_take_13 rfl h_41 rfl dX12_take_19 ?_
    refine z_bipush (v := 11) B dX12_take_22 rfl ?_
    refine z_bipush (v := 9) B dX12_take_24 rfl ?_
    refine z_iast B h_40 (Nat.le_trans hx (Nat.le_add_right x 1)) (vin rfl) dX12_take_26 (fun Φ22 hΦ20 => ?_)
    have h_42 : Φ22 (x + 1) = some (ai_ G 307 (upd (upd f_5 (10 : Int32).toNatClampNeg 1) (11 : Int32).toNatClampNeg 9)) := fset_at hΦ20
    have hI28 : Im G x ((fun g9 => g9 = (upd (upd f_5 (10 : Int32).toNatClampNeg 1) (11 : Int32).toNatClampNeg 9)), nw, cr, tp, tt, sI, sT, pt, ql, fl, pe, le, nx, il, qu, kn, ec, nu, va, st, ep, ti, ad, ob, ra, rt, ex, sa, us, tk, th, me, dr, se, sn) Φ22 := Im.put1 (rd1 := (fun g9 => g9 = (upd (upd f_5 (10 : Int32).toNatClampNeg 1) (11 : Int32).toNatClampNeg 9))) hI27 hΦ20 rfl
    refine z_iconst (v := 0) B dX12_take_27 rfl ?_
    refine z_istore_n (lv' := [(1, .int 0), (0, .ref x)]) B dX12_take_28 rfl (Nat.le_of_ble_eq_true rfl) rfl ?_
    refine z_lv [0, 1] rfl ?_
    refine z_loop (α := Nat) (fun (a9 : Nat) Φi => Im G x ((UsR f_5 a9), nw, cr, tp, tt, sI, sT, pt, ql, fl, pe, le, nx, il, qu, kn, ec, nu, va, st, ep, ti, ad, ob, ra, rt, ex, sa, us, tk, th, me, dr, se, sn) Φi ∧ Fr x (fun j9 => j9 = 1) Φ22 Φi ∧ (a9 ≤ 9) ∧ True) (fun a9 => [(1, .int (nI a9)), (0, .ref x)]) (fun a9 => 9 - a9) ?_ (0) ⟨(Im.re1 hI28 h_42 (rd1 := UsR f_5 0) ⟨fun _ _ => rfl, fun j9 h9 => absurd h9 (Nat.not_lt_zero _)⟩), fun _ _ => rfl, (show 0 ≤ 9 by omega), trivial⟩
    rintro i_3 Φl3 ⟨hI29, hF6, b_58, -⟩ ih3
    replace hI29 : Im G x ((UsR f_5 i_3), nw, cr, tp, tt, sI, sT, pt, ql, fl, pe, le, nx, il, qu, kn, ec, nu, va, st, ep, ti, ad, ob, ra, rt, ex, sa, us, tk, th, me, dr, se, sn) Φl3 := hI29
    replace b_58 : i_3 ≤ 9 := b_58
    show Z p9 l e9 _ s9 m9 _ w9 t9 k9 _ G 2 29 [(1, .int (nI i_3)), (0, .ref x)] [] Φl3 _ _ _
    refine z_iload_n B dX12_take_29 rfl 0 rfl ?_
    refine z_bipush (v := 9) B dX12_take_30 rfl ?_
    refine z_icmp_ge (tgt := 51) B dX12_take_32 rfl (fun c_4 => ?_) (fun c_4 => ?_)
    · have e_9 : 9 ≤ i_3 := (nI_leI (a := 9) (b := i_3) (by omega) (by omega)).mp c_4
      have hI30 : Im G x ((NNq (finC c)), nw, cr, tp, tt, sI, sT, pt, ql, fl, pe, le, nx, il, qu, kn, ec, nu, va, st, ep, ti, ad, ob, ra, rt, ex, sa, us, tk, th, me, dr, se, sn) Φl3 := Im.weak hI29 (fun g9 q9 => UsR.nnq r_8 (e_6.trans (congrArg nI (show n_10 = 0 by omega))) (by omega) q9) (fun _ q9 => q9)
      refine z_lv [1] rfl ?_
      exact J51 () Φl3 ⟨hI30, (fun b9 h9 => ((hF6 b9 (fun j9 h8 h7 => h9 j9 h8 (fq_1243 j9 h7))).trans ((fset_fr hΦ20 (fun h8 => h9 (1) h8 (show 1 = 0 ∨ 1 = 1 ∨ 1 = 2 ∨ 1 = 3 ∨ 1 = 11 ∨ 1 = 12 by decide))).trans ((fset_fr hΦ19 (fun h8 => h9 (1) h8 (show 1 = 0 ∨ 1 = 1 ∨ 1 = 2 ∨ 1 = 3 ∨ 1 = 11 ∨ 1 = 12 by decide))).trans rfl)))), trivial⟩
    · have e_10 : ¬ (9 ≤ i_3) := fun h9 => c_4 ((nI_leI (a := 9) (b := i_3) (by omega) (by omega)).mpr h9)
      refine z_aload_n B dX12_take_35 rfl 1 rfl ?_
      have h_43 : Φl3 x = some (o_ 14 [.int th, .ref (x + 1), .ref (x + 2), .int ti, .int ra, .int (nI rt), .int ex, .int ad, .ref (x + 3), .ref (x + 4), .int me, .long se, .ref (x + 5), .int (nI fl), .int dr, .long ob, .long sa, .long sn, .long us, .ref (x + 6), .ref (x + 7), .int (nI pe), .ref (x + 8), .int (nI le), .ref (x + 9), .ref (x + 10), .int (nI qu), .ref (x + 11), .ref (x + 12), .ref (x + 13), .ref (x + 14), .ref (x + 15), .ref (x + 16), .int (nI n_8), .long v_4, .ref (x + 17), .ref (x + 18), .ref (x + 19), .ref (x + 20), .ref (x + 21), .ref (x + 22), .int (nI n_9), .ref (x + 23), .ref (x + 24), .int (nI tk), .ref (x + 25), .int (nI il), .int (nI nx), .int ec, .int ep, .int kn, .int (nI st), .int nu, .long va]) := ((hF6 x fq_1244).trans ((fset_fr hΦ20 (ne_off (x := x) (i := 0) (j := 1) rfl)).trans h_41))
      refine z_get (ref := "FlowExporterModel") (C := RX12) (T := TX12) (N := 54) (ci := 14) (v := .ref (x + 1)) B hu_X12_take_X12 rfl 1 (Nat.le_of_ble_eq_true rfl) hv_X12_take_13 rfl h_43 rfl dX12_take_36 ?_
      refine z_bipush (v := 15) B dX12_take_39 rfl ?_
      refine z_iload_n B dX12_take_41 rfl 0 rfl ?_
      refine z_iadd B dX12_take_42 ?_
      refine z_top (st1 := [.int (nI (15 + i_3)), .ref (x + 1)]) (congrArg (fun w9 : Int32 => ([.int w9, .ref (x + 1)] : List Value)) (nI_add 15 i_3)) ?_
      refine z_iload_n B dX12_take_43 rfl 0 rfl ?_
      obtain ⟨f_6, h_44, r_11⟩ := imk (k := 1) hI29
      replace r_11 : (UsR f_5 i_3) f_6 := r_11
      have h_45 : Φl3 (x + 1) = some (ai_ G 307 f_6) := h_44
      refine z_iast B h_45 (Nat.le_trans hx (Nat.le_add_right x 1)) (vp_in_nI (by omega) (by omega)) dX12_take_44 (fun Φ23 hΦ21 => ?_)
      have h_46 : Φ23 (x + 1) = some (ai_ G 307 (upd f_6 (nI (15 + i_3)).toNatClampNeg (nI i_3))) := fset_at hΦ21
      have hI31 : Im G x ((UsR f_5 (i_3 + 1)), nw, cr, tp, tt, sI, sT, pt, ql, fl, pe, le, nx, il, qu, kn, ec, nu, va, st, ep, ti, ad, ob, ra, rt, ex, sa, us, tk, th, me, dr, se, sn) Φ23 := Im.put1 (rd1 := (UsR f_5 (i_3 + 1))) hI29 hΦ21 (UsR.s r_11 (nI_clamp (by omega)))
      refine z_iinc (k := 0) (v := nI (i_3 + 1)) (lv' := [(1, .int (nI (i_3 + 1))), (0, .ref x)]) B dX12_take_45 rfl (nI_add i_3 1) (Nat.le_of_ble_eq_true rfl) rfl ?_
      refine z_goto (tgt := 29) B dX12_take_48 rfl ?_
      refine z_lv [0, 1] rfl ?_
      exact ih3 (i_3 + 1) Φ23 (show 9 - (i_3 + 1) < 9 - i_3 by omega) ⟨hI31, (fun b9 h9 => ((fset_fr hΦ21 (fun h8 => h9 (1) h8 (show 1 = 1 by decide))).trans ((hF6 b9 h9).trans rfl))), (show (i_3 + 1) ≤ 9 by omega), trivial⟩

theorem tk_end {f : Nat → Int32} {n p st nx : Nat} {kn : Int32} {va : Int64} (h : TkR (bA f n) p kn st nx va) (hp : p ≤ n) (hk : kn = 0) : Tk (bA f n) p 0 st nx := by
  obtain ⟨k, h1, h2, h3, h4, -, -⟩ := TkR_k h hp
  have h7 : k - 1 = 0 := kR_k (h2.symm.trans hk) h4 (by omega)
  have h8 : k = 0 := by omega
  subst h8
  exact h1
theorem tk_go {f : Nat → Int32} {n p st nx : Nat} {kn : Int32} {va : Int64} (h : TkR (bA f n) p kn st nx va) (hp : p ≤ n) (hk : ¬ kn = 0) : ∃ k, Tk (bA f n) p k st nx ∧ ¬ k = 0 := by
  obtain ⟨k, h1, h2, h3, h4, -, -⟩ := TkR_k h hp
  refine ⟨k, h1, fun e => hk ?_⟩
  subst e
  exact h2
theorem tk_st {b : Nat → Int32} {p k s e : Nat} {c : Cf} {r : RS} (h : Tk b p k s e) (h1 : stK b (tk b p).1 s e c = r) : stK b k s e c = r := by
  rw [tk_eq h] at h1
  exact h1

theorem hu_X12_load_X12 : ∀ w ∈ u_ws RX12 TX12 54, w ∈ wsX12_load := fun _ h => List.mem_cons_of_mem _ (List.mem_append_left _ (List.mem_append_right _ (h)))

theorem hv_X12_load_1 : Cond.fieldLink RX12 1 "FlowExporterModel" (TX12 0).2.1 (TX12 0).2.2.1 ∈ wsX12_load := List.mem_cons_of_mem _ (List.mem_append_left _ (List.mem_append_left _ (List.mem_append_left _ (List.mem_of_getElem? (i := 0) rfl))))

theorem hv_X12_load_447 : Cond.fieldLink RX12 447 "FlowExporterModel" (TX12 48).2.1 (TX12 48).2.2.1 ∈ wsX12_load := List.mem_cons_of_mem _ (List.mem_append_left _ (List.mem_append_left _ (List.mem_append_left _ (List.mem_of_getElem? (i := 1) rfl))))

theorem hv_X12_load_92 : Cond.fieldLink RX12 92 "FlowExporterModel" (TX12 49).2.1 (TX12 49).2.2.1 ∈ wsX12_load := List.mem_cons_of_mem _ (List.mem_append_left _ (List.mem_append_left _ (List.mem_append_left _ (List.mem_of_getElem? (i := 2) rfl))))

theorem hv_X12_load_458 : Cond.fieldLink RX12 458 "FlowExporterModel" (TX12 47).2.1 (TX12 47).2.2.1 ∈ wsX12_load := List.mem_cons_of_mem _ (List.mem_append_left _ (List.mem_append_left _ (List.mem_append_left _ (List.mem_of_getElem? (i := 3) rfl))))

theorem fq_1250 {x : Nat} : ∀ j9 : Nat, x + 25 = x + j9 → (j9 = 1) → False := by
  intro j9 h1 h2
  omega

theorem hv_X12_load_476 : Cond.fieldLink RX12 476 "FlowExporterModel" (TX12 50).2.1 (TX12 50).2.2.1 ∈ wsX12_load := List.mem_cons_of_mem _ (List.mem_append_left _ (List.mem_append_left _ (List.mem_append_left _ (List.mem_of_getElem? (i := 4) rfl))))

theorem hv_X12_load_441 : Cond.fieldLink RX12 441 "FlowExporterModel" (TX12 46).2.1 (TX12 46).2.2.1 ∈ wsX12_load := List.mem_cons_of_mem _ (List.mem_append_left _ (List.mem_append_left _ (List.mem_append_left _ (List.mem_of_getElem? (i := 5) rfl))))

theorem fq_1253 : ∀ j9 : Nat, (j9 = 0) → (j9 = 0 ∨ j9 = 1 ∨ j9 = 2 ∨ j9 = 3 ∨ j9 = 11 ∨ j9 = 12) := by
  intro j9 h
  omega

theorem fq_1254 : ∀ j9 : Nat, (j9 = 0 ∨ j9 = 1) → (j9 = 0 ∨ j9 = 1 ∨ j9 = 2 ∨ j9 = 3 ∨ j9 = 11 ∨ j9 = 12) := by
  intro j9 h
  omega

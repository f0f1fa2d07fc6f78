set_option maxRecDepth 20000 in
theorem ggX12_readTemplates_X12_get : GoodIn wsX12_readTemplates wsX12_get := goodIn_ca ((goodIn_ca (goodIn_r _ [13, 14] rfl (by decide +kernel)) (goodIn_sub (fun _ h => List.mem_cons_of_mem _ (List.mem_append_left _ (List.mem_append_right _ h))) gw_wsX120))) (goodIn_sub (fun _ h => List.mem_cons_of_mem _ (List.mem_append_right _ h)) (all_fg _))
set_option maxRecDepth 20000 in
theorem gX12_readTemplates_X12_get : GoodIn wsX12_readTemplates (wsV RX12 339 RX12 yX12_get wsX12_get) := goodIn_app (goodIn_m (mem_cA (List.mem_cons_of_mem _ (List.mem_append_left _ (List.mem_append_left _ (List.mem_append_left _ (List.mem_of_getElem? (i := 8) rfl))))) (mem_cA (List.mem_cons_of_mem _ (List.mem_append_left _ (List.mem_append_left _ (List.mem_append_left _ (List.mem_of_getElem? (i := 9) rfl))))) (mem_cA (List.mem_cons_of_mem _ (List.mem_append_left _ (List.mem_append_left _ (List.mem_append_left _ (List.mem_of_getElem? (i := 10) rfl))))) (mem_cA (List.mem_cons_of_mem _ (List.mem_append_left _ (List.mem_append_left _ (List.mem_append_left _ (List.mem_of_getElem? (i := 11) rfl))))) mem_cZ)))) (by decide +kernel)) ggX12_readTemplates_X12_get
set_option maxRecDepth 20000 in
theorem ggX12_readTemplates_X12_inRange : GoodIn wsX12_readTemplates wsX12_inRange := (goodIn_r _ [17] rfl (by decide +kernel))
set_option maxRecDepth 20000 in
theorem gX12_readTemplates_X12_inRange : GoodIn wsX12_readTemplates (va_wsS RX12 169 yX12_inRange wsX12_inRange) := goodIn_app (goodIn_m (mem_cA (List.mem_cons_of_mem _ (List.mem_append_left _ (List.mem_append_left _ (List.mem_append_left _ (List.mem_of_getElem? (i := 14) rfl))))) (mem_cA (List.mem_cons_of_mem _ (List.mem_append_left _ (List.mem_append_left _ (List.mem_append_left _ (List.mem_of_getElem? (i := 15) rfl))))) (mem_cA (List.mem_cons_of_mem _ (List.mem_append_left _ (List.mem_append_left _ (List.mem_append_left _ (List.mem_of_getElem? (i := 11) rfl))))) mem_cZ))) (by decide +kernel)) ggX12_readTemplates_X12_inRange
set_option maxRecDepth 20000 in
theorem ggX12_readTemplates_X12_areFields : GoodIn wsX12_readTemplates wsX12_areFields := goodIn_ca ((goodIn_ca (goodIn_r _ [21, 22, 8, 9, 10, 11, 12, 13, 14, 15, 16, 17, 23, 24, 25] rfl (by decide +kernel)) (goodIn_sub (fun _ h => List.mem_cons_of_mem _ (List.mem_append_left _ (List.mem_append_right _ h))) gw_wsX120))) (goodIn_sub (fun _ h => List.mem_cons_of_mem _ (List.mem_append_right _ h)) (all_fg _))
set_option maxRecDepth 20000 in
theorem gX12_readTemplates_X12_areFields : GoodIn wsX12_readTemplates (wsV RX12 368 RX12 yX12_areFields wsX12_areFields) := goodIn_app (goodIn_m (mem_cA (List.mem_cons_of_mem _ (List.mem_append_left _ (List.mem_append_left _ (List.mem_append_left _ (List.mem_of_getElem? (i := 17) rfl))))) (mem_cA (List.mem_cons_of_mem _ (List.mem_append_left _ (List.mem_append_left _ (List.mem_append_left _ (List.mem_of_getElem? (i := 18) rfl))))) (mem_cA (List.mem_cons_of_mem _ (List.mem_append_left _ (List.mem_append_left _ (List.mem_append_left _ (List.mem_of_getElem? (i := 19) rfl))))) (mem_cA (List.mem_cons_of_mem _ (List.mem_append_left _ (List.mem_append_left _ (List.mem_append_left _ (List.mem_of_getElem? (i := 11) rfl))))) mem_cZ)))) (by decide +kernel)) ggX12_readTemplates_X12_areFields
theorem dX12_readTemplates_0 : decode cX12_readTemplates 0 = .ok (.iload_n 1, 1) := by decide +kernel
theorem dX12_readTemplates_1 : decode cX12_readTemplates 1 = .ok (.istore_n 3, 1) := by decide +kernel
theorem dX12_readTemplates_2 : decode cX12_readTemplates 2 = .ok (.iconst 1, 1) := by decide +kernel
theorem dX12_readTemplates_3 : decode cX12_readTemplates 3 = .ok (.istore 4, 2) := by decide +kernel
theorem dX12_readTemplates_5 : decode cX12_readTemplates 5 = .ok (.iload 4, 2) := by decide +kernel
theorem dX12_readTemplates_7 : decode cX12_readTemplates 7 = .ok (.ifCond .eq 169, 3) := by decide +kernel
theorem dX12_readTemplates_10 : decode cX12_readTemplates 10 = .ok (.iload_n 2, 1) := by decide +kernel
theorem dX12_readTemplates_11 : decode cX12_readTemplates 11 = .ok (.iload_n 3, 1) := by decide +kernel
theorem dX12_readTemplates_12 : decode cX12_readTemplates 12 = .ok (.isub, 1) := by decide +kernel
theorem dX12_readTemplates_13 : decode cX12_readTemplates 13 = .ok (.iconst 4, 1) := by decide +kernel
theorem dX12_readTemplates_14 : decode cX12_readTemplates 14 = .ok (.if_icmp .lt 162, 3) := by decide +kernel
theorem dX12_readTemplates_17 : decode cX12_readTemplates 17 = .ok (.aload_n 0, 1) := by decide +kernel
theorem dX12_readTemplates_18 : decode cX12_readTemplates 18 = .ok (.iload_n 3, 1) := by decide +kernel
theorem dX12_readTemplates_19 : decode cX12_readTemplates 19 = .ok (.iconst 2, 1) := by decide +kernel
theorem dX12_readTemplates_20 : decode cX12_readTemplates 20 = .ok (.invokevirtual 339, 3) := by decide +kernel
theorem dX12_readTemplates_23 : decode cX12_readTemplates 23 = .ok (.lstore 5, 2) := by decide +kernel
theorem dX12_readTemplates_25 : decode cX12_readTemplates 25 = .ok (.aload_n 0, 1) := by decide +kernel
theorem dX12_readTemplates_26 : decode cX12_readTemplates 26 = .ok (.iload_n 3, 1) := by decide +kernel
theorem dX12_readTemplates_27 : decode cX12_readTemplates 27 = .ok (.iconst 2, 1) := by decide +kernel
theorem dX12_readTemplates_28 : decode cX12_readTemplates 28 = .ok (.iadd, 1) := by decide +kernel
theorem dX12_readTemplates_29 : decode cX12_readTemplates 29 = .ok (.iconst 2, 1) := by decide +kernel
theorem dX12_readTemplates_30 : decode cX12_readTemplates 30 = .ok (.invokevirtual 339, 3) := by decide +kernel
theorem dX12_readTemplates_33 : decode cX12_readTemplates 33 = .ok (.l2i, 1) := by decide +kernel
theorem dX12_readTemplates_34 : decode cX12_readTemplates 34 = .ok (.istore 7, 2) := by decide +kernel
theorem dX12_readTemplates_36 : decode cX12_readTemplates 36 = .ok (.iinc 3 4, 3) := by decide +kernel
theorem dX12_readTemplates_39 : decode cX12_readTemplates 39 = .ok (.lload 5, 2) := by decide +kernel
theorem dX12_readTemplates_41 : decode cX12_readTemplates 41 = .ok (.ldc2_w 358, 3) := by decide +kernel
theorem dX12_readTemplates_44 : decode cX12_readTemplates 44 = .ok (.ldc2_w 360, 3) := by decide +kernel
theorem dX12_readTemplates_47 : decode cX12_readTemplates 47 = .ok (.invokestatic 169, 3) := by decide +kernel
theorem dX12_readTemplates_50 : decode cX12_readTemplates 50 = .ok (.ifCond .eq 40, 3) := by decide +kernel
theorem dX12_readTemplates_53 : decode cX12_readTemplates 53 = .ok (.iload 7, 2) := by decide +kernel
theorem dX12_readTemplates_55 : decode cX12_readTemplates 55 = .ok (.i2l, 1) := by decide +kernel
theorem dX12_readTemplates_56 : decode cX12_readTemplates 56 = .ok (.lconst 1, 1) := by decide +kernel
theorem dX12_readTemplates_57 : decode cX12_readTemplates 57 = .ok (.ldc2_w 366, 3) := by decide +kernel
theorem dX12_readTemplates_60 : decode cX12_readTemplates 60 = .ok (.invokestatic 169, 3) := by decide +kernel
theorem dX12_readTemplates_63 : decode cX12_readTemplates 63 = .ok (.ifCond .eq 27, 3) := by decide +kernel
theorem dX12_readTemplates_66 : decode cX12_readTemplates 66 = .ok (.iload_n 2, 1) := by decide +kernel
theorem dX12_readTemplates_67 : decode cX12_readTemplates 67 = .ok (.iload_n 3, 1) := by decide +kernel
theorem dX12_readTemplates_68 : decode cX12_readTemplates 68 = .ok (.isub, 1) := by decide +kernel
theorem dX12_readTemplates_69 : decode cX12_readTemplates 69 = .ok (.iconst 4, 1) := by decide +kernel
theorem dX12_readTemplates_70 : decode cX12_readTemplates 70 = .ok (.iload 7, 2) := by decide +kernel
theorem dX12_readTemplates_72 : decode cX12_readTemplates 72 = .ok (.imul, 1) := by decide +kernel
theorem dX12_readTemplates_73 : decode cX12_readTemplates 73 = .ok (.if_icmp .lt 17, 3) := by decide +kernel
theorem dX12_readTemplates_76 : decode cX12_readTemplates 76 = .ok (.aload_n 0, 1) := by decide +kernel
theorem dX12_readTemplates_77 : decode cX12_readTemplates 77 = .ok (.iload_n 3, 1) := by decide +kernel
theorem dX12_readTemplates_78 : decode cX12_readTemplates 78 = .ok (.iload 7, 2) := by decide +kernel
theorem dX12_readTemplates_80 : decode cX12_readTemplates 80 = .ok (.invokevirtual 368, 3) := by decide +kernel
theorem dX12_readTemplates_83 : decode cX12_readTemplates 83 = .ok (.ifCond .eq 7, 3) := by decide +kernel
theorem dX12_readTemplates_86 : decode cX12_readTemplates 86 = .ok (.iconst 1, 1) := by decide +kernel
theorem dX12_readTemplates_87 : decode cX12_readTemplates 87 = .ok (.goto 4, 3) := by decide +kernel
theorem dX12_readTemplates_90 : decode cX12_readTemplates 90 = .ok (.iconst 0, 1) := by decide +kernel
theorem dX12_readTemplates_91 : decode cX12_readTemplates 91 = .ok (.istore 4, 2) := by decide +kernel
theorem dX12_readTemplates_93 : decode cX12_readTemplates 93 = .ok (.iload 4, 2) := by decide +kernel
theorem dX12_readTemplates_95 : decode cX12_readTemplates 95 = .ok (.ifCond .ne 6, 3) := by decide +kernel
theorem dX12_readTemplates_98 : decode cX12_readTemplates 98 = .ok (.goto (-93), 3) := by decide +kernel
theorem dX12_readTemplates_101 : decode cX12_readTemplates 101 = .ok (.lload 5, 2) := by decide +kernel
theorem dX12_readTemplates_103 : decode cX12_readTemplates 103 = .ok (.l2i, 1) := by decide +kernel
theorem dX12_readTemplates_104 : decode cX12_readTemplates 104 = .ok (.sipush 256, 3) := by decide +kernel
theorem dX12_readTemplates_107 : decode cX12_readTemplates 107 = .ok (.isub, 1) := by decide +kernel
theorem dX12_readTemplates_108 : decode cX12_readTemplates 108 = .ok (.istore 8, 2) := by decide +kernel
theorem dX12_readTemplates_110 : decode cX12_readTemplates 110 = .ok (.aload_n 0, 1) := by decide +kernel
theorem dX12_readTemplates_111 : decode cX12_readTemplates 111 = .ok (.getfield 48, 3) := by decide +kernel
theorem dX12_readTemplates_114 : decode cX12_readTemplates 114 = .ok (.iload 8, 2) := by decide +kernel
theorem dX12_readTemplates_116 : decode cX12_readTemplates 116 = .ok (.iload 7, 2) := by decide +kernel
theorem dX12_readTemplates_118 : decode cX12_readTemplates 118 = .ok (.iastore, 1) := by decide +kernel
theorem dX12_readTemplates_119 : decode cX12_readTemplates 119 = .ok (.aload_n 0, 1) := by decide +kernel
theorem dX12_readTemplates_120 : decode cX12_readTemplates 120 = .ok (.getfield 54, 3) := by decide +kernel
theorem dX12_readTemplates_123 : decode cX12_readTemplates 123 = .ok (.iload 8, 2) := by decide +kernel
theorem dX12_readTemplates_125 : decode cX12_readTemplates 125 = .ok (.aload_n 0, 1) := by decide +kernel
theorem dX12_readTemplates_126 : decode cX12_readTemplates 126 = .ok (.getfield 101, 3) := by decide +kernel
theorem dX12_readTemplates_129 : decode cX12_readTemplates 129 = .ok (.iastore, 1) := by decide +kernel
theorem dX12_readTemplates_130 : decode cX12_readTemplates 130 = .ok (.iconst 0, 1) := by decide +kernel
theorem dX12_readTemplates_131 : decode cX12_readTemplates 131 = .ok (.istore 9, 2) := by decide +kernel
theorem dX12_readTemplates_133 : decode cX12_readTemplates 133 = .ok (.iload 9, 2) := by decide +kernel
theorem dX12_readTemplates_135 : decode cX12_readTemplates 135 = .ok (.iload 7, 2) := by decide +kernel
theorem dX12_readTemplates_137 : decode cX12_readTemplates 137 = .ok (.if_icmp .ge 29, 3) := by decide +kernel
theorem dX12_readTemplates_140 : decode cX12_readTemplates 140 = .ok (.aload_n 0, 1) := by decide +kernel
theorem dX12_readTemplates_141 : decode cX12_readTemplates 141 = .ok (.getfield 51, 3) := by decide +kernel
theorem dX12_readTemplates_144 : decode cX12_readTemplates 144 = .ok (.bipush 9, 2) := by decide +kernel
theorem dX12_readTemplates_146 : decode cX12_readTemplates 146 = .ok (.iload 8, 2) := by decide +kernel
theorem dX12_readTemplates_148 : decode cX12_readTemplates 148 = .ok (.imul, 1) := by decide +kernel
theorem dX12_readTemplates_149 : decode cX12_readTemplates 149 = .ok (.iload 9, 2) := by decide +kernel
theorem dX12_readTemplates_151 : decode cX12_readTemplates 151 = .ok (.iadd, 1) := by decide +kernel
theorem dX12_readTemplates_152 : decode cX12_readTemplates 152 = .ok (.aload_n 0, 1) := by decide +kernel
theorem dX12_readTemplates_153 : decode cX12_readTemplates 153 = .ok (.getfield 63, 3) := by decide +kernel
theorem dX12_readTemplates_156 : decode cX12_readTemplates 156 = .ok (.iload 9, 2) := by decide +kernel
theorem dX12_readTemplates_158 : decode cX12_readTemplates 158 = .ok (.iaload, 1) := by decide +kernel
theorem dX12_readTemplates_159 : decode cX12_readTemplates 159 = .ok (.iastore, 1) := by decide +kernel
theorem dX12_readTemplates_160 : decode cX12_readTemplates 160 = .ok (.iinc 9 1, 3) := by decide +kernel
theorem dX12_readTemplates_163 : decode cX12_readTemplates 163 = .ok (.goto (-30), 3) := by decide +kernel
theorem dX12_readTemplates_166 : decode cX12_readTemplates 166 = .ok (.iload_n 3, 1) := by decide +kernel
theorem dX12_readTemplates_167 : decode cX12_readTemplates 167 = .ok (.iconst 4, 1) := by decide +kernel
theorem dX12_readTemplates_168 : decode cX12_readTemplates 168 = .ok (.iload 7, 2) := by decide +kernel
theorem dX12_readTemplates_170 : decode cX12_readTemplates 170 = .ok (.imul, 1) := by decide +kernel
theorem dX12_readTemplates_171 : decode cX12_readTemplates 171 = .ok (.iadd, 1) := by decide +kernel
theorem dX12_readTemplates_172 : decode cX12_readTemplates 172 = .ok (.istore_n 3, 1) := by decide +kernel
theorem dX12_readTemplates_173 : decode cX12_readTemplates 173 = .ok (.goto (-168), 3) := by decide +kernel
theorem dX12_readTemplates_176 : decode cX12_readTemplates 176 = .ok (.return_, 1) := by decide +kernel
theorem dX12_rateOf_0 : decode cX12_rateOf 0 = .ok (.fload_n 1, 1) := by decide +kernel
theorem dX12_rateOf_1 : decode cX12_rateOf 1 = .ok (.fconst 0, 1) := by decide +kernel
theorem dX12_rateOf_2 : decode cX12_rateOf 2 = .ok (.fcmp .l, 1) := by decide +kernel
theorem dX12_rateOf_3 : decode cX12_rateOf 3 = .ok (.ifCond .le 9, 3) := by decide +kernel
theorem dX12_rateOf_6 : decode cX12_rateOf 6 = .ok (.fload_n 1, 1) := by decide +kernel
theorem dX12_rateOf_7 : decode cX12_rateOf 7 = .ok (.fconst 1, 1) := by decide +kernel
theorem dX12_rateOf_8 : decode cX12_rateOf 8 = .ok (.fcmp .g, 1) := by decide +kernel
theorem dX12_rateOf_9 : decode cX12_rateOf 9 = .ok (.ifCond .le 11, 3) := by decide +kernel
theorem dX12_rateOf_12 : decode cX12_rateOf 12 = .ok (.aload_n 0, 1) := by decide +kernel
theorem dX12_rateOf_13 : decode cX12_rateOf 13 = .ok (.getfield 17, 3) := by decide +kernel
theorem dX12_rateOf_16 : decode cX12_rateOf 16 = .ok (.bipush 8, 2) := by decide +kernel
theorem dX12_rateOf_18 : decode cX12_rateOf 18 = .ok (.iaload, 1) := by decide +kernel
theorem dX12_rateOf_19 : decode cX12_rateOf 19 = .ok (.ireturn, 1) := by decide +kernel
theorem dX12_rateOf_20 : decode cX12_rateOf 20 = .ok (.fconst 1, 1) := by decide +kernel
theorem dX12_rateOf_21 : decode cX12_rateOf 21 = .ok (.fload_n 1, 1) := by decide +kernel
theorem dX12_rateOf_22 : decode cX12_rateOf 22 = .ok (.fdiv, 1) := by decide +kernel
theorem dX12_rateOf_23 : decode cX12_rateOf 23 = .ok (.ldc_w 385, 3) := by decide +kernel
theorem dX12_rateOf_26 : decode cX12_rateOf 26 = .ok (.fadd, 1) := by decide +kernel
theorem dX12_rateOf_27 : decode cX12_rateOf 27 = .ok (.f2i, 1) := by decide +kernel
theorem dX12_rateOf_28 : decode cX12_rateOf 28 = .ok (.istore_n 2, 1) := by decide +kernel
theorem dX12_rateOf_29 : decode cX12_rateOf 29 = .ok (.iload_n 2, 1) := by decide +kernel
theorem dX12_rateOf_30 : decode cX12_rateOf 30 = .ok (.sipush 1024, 3) := by decide +kernel
theorem dX12_rateOf_33 : decode cX12_rateOf 33 = .ok (.if_icmp .ge 7, 3) := by decide +kernel
theorem dX12_rateOf_36 : decode cX12_rateOf 36 = .ok (.iload_n 2, 1) := by decide +kernel
theorem dX12_rateOf_37 : decode cX12_rateOf 37 = .ok (.goto 6, 3) := by decide +kernel
theorem dX12_rateOf_40 : decode cX12_rateOf 40 = .ok (.sipush 1024, 3) := by decide +kernel
theorem dX12_rateOf_43 : decode cX12_rateOf 43 = .ok (.ireturn, 1) := by decide +kernel
set_option maxHeartbeats 4000000 in
set_option maxRecDepth 100000 in
theorem r_readTemplates (G : EnvG) (l : Launch) (Φ : Hm) (sz x : Nat) (rd : (Nat → Int32) → Prop) (nw : (Nat → Int32) → Prop) (cr : (Nat → Int64) → Prop) (tp : (Nat → Int32) → Prop) (tt : (Nat → Int64) → Prop) (sI : (Nat → Int32) → Prop) (sT : (Nat → Int32) → Prop) (pt : (Nat → Int32) → Prop) (ql : (Nat → Int32) → Prop) (fl : Nat) (pe : Nat) (le : Nat) (nx : Nat) (il : Nat) (qu : Nat) (kn : Int32) (ec : Int32) (nu : Int32) (va : Int64) (st : Nat) (ep : Int32) (ti : Int32) (ad : Int32) (ob : Int64) (ra : Int32) (rt : Nat) (ex : Int32) (sa : Int64) (us : Int64) (tk : Nat) (th : Int32) (me : Int32) (dr : Int32) (se : Int64) (sn : Int64) (f : Nat) (g : Nat) (hx : G.2.2.2 ≤ x) (hI : Im G x (rd, nw, cr, tp, tt, sI, sT, pt, ql, fl, pe, le, nx, il, qu, kn, ec, nu, va, st, ep, ti, ad, ob, ra, rt, ex, sa, us, tk, th, me, dr, se, sn) Φ) (hf : f ≤ g) (hg : g ≤ 700) (hnw : ∀ f9 : Nat → Int32, nw f9 → NN f9) : Ct G l yX12_readTemplates wsX12_readTemplates ({ frames := 2, cells := 0, slots := 0, locals := 50 }) 0 0 [.ref x, .int (nI f), .int (nI g)] Φ sz (fun v Φ1 sz1 => (v = none) ∧ sz1 = sz ∧ (Im G x (rd, nw, cr, tp, tt, sI, sT, pt, ql, fl, pe, le, nx, il, qu, kn, ec, nu, va, st, ep, ti, ad, ob, ra, rt, ex, sa, us, tk, th, me, dr, se, sn) Φ1) ∧ Fr x (fun j9 => j9 = 12 ∨ j9 = 13 ∨ j9 = 14 ∨ j9 = 17) Φ Φ1) := by
  refine Ct.of (cc := cX12_readTemplates) (maxL := 10) (ret := none) (by decide) rfl (Nat.le_of_ble_eq_true rfl) ?_
  intro p9 e9 s9 m9 w9 t9 k9 B
  show Z p9 l e9 _ s9 m9 _ w9 t9 k9 _ G 10 0 [(0, .ref x), (1, .int (nI f)), (2, .int (nI g))] [] Φ sz 0 0
  refine z_iload_n B dX12_readTemplates_0 rfl 1 rfl ?_
  refine z_istore_n (lv' := [(3, .int (nI f)), (0, .ref x), (1, .int (nI f)), (2, .int (nI g))]) B dX12_readTemplates_1 rfl (Nat.le_of_ble_eq_true rfl) rfl ?_
  refine z_iconst (v := 1) B dX12_readTemplates_2 rfl ?_
  refine z_istore (lv' := [(4, .int 1), (3, .int (nI f)), (0, .ref x), (1, .int (nI f)), (2, .int (nI g))]) B dX12_readTemplates_3 (Nat.le_of_ble_eq_true rfl) rfl ?_
  refine z_lv [0, 1, 2, 3, 4] rfl ?_
  refine z_loop (α := Int32 × Nat) (fun (a9 : Int32 × Nat) Φi => Im G x (rd, nw, cr, tp, tt, sI, sT, pt, ql, fl, pe, le, nx, il, qu, kn, ec, nu, va, st, ep, ti, ad, ob, ra, rt, ex, sa, us, tk, th, me, dr, se, sn) Φi ∧ Fr x (fun j9 => j9 = 12 ∨ j9 = 13 ∨ j9 = 14 ∨ j9 = 17) Φ Φi ∧ (a9.2 ≤ g) ∧ True) (fun a9 => [(4, .int a9.1), (3, .int (nI (a9.2))), (0, .ref x), (1, .int (nI f)), (2, .int (nI g))]) (fun a9 => 701 - a9.2) ?_ (1, f) ⟨hI, fun _ _ => rfl, (show f ≤ g by omega), trivial⟩
  rintro ⟨i_1, i_2⟩ Φl1 ⟨hI1, hF1, b_1, -⟩ ih1
  replace hI1 : Im G x (rd, nw, cr, tp, tt, sI, sT, pt, ql, fl, pe, le, nx, il, qu, kn, ec, nu, va, st, ep, ti, ad, ob, ra, rt, ex, sa, us, tk, th, me, dr, se, sn) Φl1 := hI1
  replace b_1 : i_2 ≤ g := b_1
  show Z p9 l e9 _ s9 m9 _ w9 t9 k9 _ G 10 5 [(4, .int i_1), (3, .int (nI i_2)), (0, .ref x), (1, .int (nI f)), (2, .int (nI g))] [] Φl1 _ _ _
  refine z_iload B dX12_readTemplates_5 0 rfl ?_
  refine z_if_eq (tgt := 176) B dX12_readTemplates_7 rfl (fun c_1 => ?_) (fun c_1 => ?_)
  · exact z_ret_v B dX12_readTemplates_176 ⟨rfl, rfl, hI1, (fun b9 h9 => ((hF1 b9 h9).trans rfl))⟩
  · refine z_iload_n B dX12_readTemplates_10 rfl 4 rfl ?_
    refine z_iload_n B dX12_readTemplates_11 rfl 1 rfl ?_
    refine z_isub B dX12_readTemplates_12 ?_
    refine z_top (st1 := [.int (nI (g - i_2))]) (congrArg (fun w9 : Int32 => ([.int w9] : List Value)) (nI_sub (show i_2 ≤ g by omega))) ?_
    refine z_iconst (v := 4) B dX12_readTemplates_13 rfl ?_
    refine z_icmp_lt (tgt := 176) B dX12_readTemplates_14 rfl (fun c_2 => ?_) (fun c_2 => ?_)
    · have e_1 : g - i_2 < 4 := (nI_ltI (a := g - i_2) (b := 4) (by omega) (by omega)).mp c_2
      exact z_ret_v B dX12_readTemplates_176 ⟨rfl, rfl, hI1, (fun b9 h9 => ((hF1 b9 h9).trans rfl))⟩
    · have e_2 : ¬ (g - i_2 < 4) := fun h9 => c_2 ((nI_ltI (a := g - i_2) (b := 4) (by omega) (by omega)).mpr h9)
      refine z_aload_n B dX12_readTemplates_17 rfl 2 rfl ?_
      refine z_iload_n B dX12_readTemplates_18 rfl 1 rfl ?_
      refine z_iconst (v := 2) B dX12_readTemplates_19 rfl ?_
      obtain ⟨n_1, v_1, n_2, h_1, b_14, b_2, b_3, b_4, b_5, b_6, b_7, b_8, b_9, b_10, b_11, b_12, b_13⟩ := im0 hI1
      replace b_2 : 1 ≤ rt := b_2
      replace b_3 : rt ≤ 1024 := b_3
      replace b_4 : fl ≤ 12 := b_4
      replace b_5 : pe ≤ 24 := b_5
      replace b_6 : le ≤ 700 := b_6
      replace b_7 : qu ≤ 12 := b_7
      replace b_8 : n_1 ≤ 8 := b_8
      replace b_9 : n_2 ≤ 24 := b_9
      replace b_10 : tk ≤ 24 := b_10
      replace b_11 : il ≤ 700 := b_11
      replace b_12 : nx ≤ 701 := b_12
      replace b_13 : st ≤ 701 := b_13
      have h_2 : Φl1 x = some (o_ 14 [.int th, .ref (x + 1), .ref (x + 2), .int ti, .int ra, .int (nI rt), .int ex, .int ad, .ref (x + 3), .ref (x + 4), .int me, .long se, .ref (x + 5), .int (nI fl), .int dr, .long ob, .long sa, .long sn, .long us, .ref (x + 6), .ref (x + 7), .int (nI pe), .ref (x + 8), .int (nI le), .ref (x + 9), .ref (x + 10), .int (nI qu), .ref (x + 11), .ref (x + 12), .ref (x + 13), .ref (x + 14), .ref (x + 15), .ref (x + 16), .int (nI n_1), .long v_1, .ref (x + 17), .ref (x + 18), .ref (x + 19), .ref (x + 20), .ref (x + 21), .ref (x + 22), .int (nI n_2), .ref (x + 23), .ref (x + 24), .int (nI tk), .ref (x + 25), .int (nI il), .int (nI nx), .int ec, .int ep, .int kn, .int (nI st), .int nu, .long va]) := h_1
      refine z_callV (As := [.int (nI i_2), .int 2]) (rest := []) B (r_get G l Φl1 sz x rd nw cr tp tt sI sT pt ql fl pe le nx il qu kn ec nu va st ep ti ad ob ra rt ex sa us tk th me dr se sn i_2 2 hx hI1 (show 2 ≤ 8 by omega) (show i_2 + 2 ≤ 700 by omega) hnw) (cwV 2 B.1.2.2.2.2 gX12_readTemplates_X12_get rfl rfl rfl (by decide +kernel) ⟨Nat.le_of_ble_eq_true rfl, Nat.le_of_ble_eq_true rfl⟩) h_2 rfl rfl rfl rfl (Nat.le_of_ble_eq_true rfl) dX12_readTemplates_20 ⟨Nat.le_of_ble_eq_true rfl, Nat.le_of_ble_eq_true rfl⟩ (fun r_1 Φ1 sz1 st1 hp1 hs1 => ?_)
      obtain ⟨⟨v_2, rfl, q_1⟩, hq1, hI2, hF2⟩ := hp1
      subst sz1
      replace hs1 : st1 = [.long v_2] := hs1
      subst st1
      replace q_1 : np 2 v_2 := q_1
      replace hI2 : Im G x (rd, nw, cr, tp, tt, sI, sT, pt, ql, fl, pe, le, nx, il, qu, kn, ec, nu, va, st, ep, ti, ad, ob, ra, rt, ex, sa, us, tk, th, me, dr, se, sn) Φ1 := hI2
      refine z_lstore (lv' := [(5, .long v_2), (4, .int i_1), (3, .int (nI i_2)), (0, .ref x), (1, .int (nI f)), (2, .int (nI g))]) B dX12_readTemplates_23 (Nat.le_of_ble_eq_true rfl) rfl ?_
      refine z_aload_n B dX12_readTemplates_25 rfl 3 rfl ?_
      refine z_iload_n B dX12_readTemplates_26 rfl 2 rfl ?_
      refine z_iconst (v := 2) B dX12_readTemplates_27 rfl ?_
      refine z_iadd B dX12_readTemplates_28 ?_
      refine z_top (st1 := [.int (nI (i_2 + 2)), .ref x]) (congrArg (fun w9 : Int32 => ([.int w9, .ref x] : List Value)) (nI_add i_2 2)) ?_
      refine z_iconst (v := 2) B dX12_readTemplates_29 rfl ?_
      have h_3 : Φ1 x = some (o_ 14 [.int th, .ref (x + 1), .ref (x + 2), .int ti, .int ra, .int (nI rt), .int ex, .int ad, .ref (x + 3), .ref (x + 4), .int me, .long se, .ref (x + 5), .int (nI fl), .int dr, .long ob, .long sa, .long sn, .long us, .ref (x + 6), .ref (x + 7), .int (nI pe), .ref (x + 8), .int (nI le), .ref (x + 9), .ref (x + 10), .int (nI qu), .ref (x + 11), .ref (x + 12), .ref (x + 13), .ref (x + 14), .ref (x + 15), .ref (x + 16), .int (nI n_1), .long v_1, .ref (x + 17), .ref (x + 18), .ref (x + 19), .ref (x + 20), .ref (x + 21), .ref (x + 22), .int (nI n_2), .ref (x + 23), .ref (x + 24), .int (nI tk), .ref (x + 25), .int (nI il), .int (nI nx), .int ec, .int ep, .int kn, .int (nI st), .int nu, .long va]) := ((hF2 x (fun j9 h8 h7 => (show False from h7).elim)).trans h_2)
      refine z_callV (As := [.int (nI (i_2 + 2)), .int 2]) (rest := []) B (r_get G l Φ1 sz x rd nw cr tp tt sI sT pt ql fl pe le nx il qu kn ec nu va st ep ti ad ob ra rt ex sa us tk th me dr se sn (i_2 + 2) 2 hx hI2 (show 2 ≤ 8 by omega) (show (i_2 + 2) + 2 ≤ 700 by omega) hnw) (cwV 2 B.1.2.2.2.2 gX12_readTemplates_X12_get rfl rfl rfl (by decide +kernel) ⟨Nat.le_of_ble_eq_true rfl, Nat.le_of_ble_eq_true rfl⟩) h_3 rfl rfl rfl rfl (Nat.le_of_ble_eq_true rfl) dX12_readTemplates_30 ⟨Nat.le_of_ble_eq_true rfl, Nat.le_of_ble_eq_true rfl⟩ (fun r_2 Φ2 sz2 st2 hp2 hs2 => ?_)
      obtain ⟨⟨v_3, rfl, q_2⟩, hq2, hI3, hF3⟩ := hp2
      subst sz2
      replace hs2 : st2 = [.long v_3] := hs2
      subst st2
      replace q_2 : np 2 v_3 := q_2
      replace hI3 : Im G x (rd, nw, cr, tp, tt, sI, sT, pt, ql, fl, pe, le, nx, il, qu, kn, ec, nu, va, st, ep, ti, ad, ob, ra, rt, ex, sa, us, tk, th, me, dr, se, sn) Φ2 := hI3
      refine z_l2i (v := v_3.toInt32) B dX12_readTemplates_33 rfl ?_
      obtain ⟨n_3, b_15, e_3, -⟩ := np2 q_2
      refine z_top (st1 := [.int (nI n_3)]) (congrArg (fun w9 : Int32 => ([.int w9] : List Value)) (e_3)) ?_
      refine z_istore (lv' := [(7, .int (nI n_3)), (5, .long v_2), (4, .int i_1), (3, .int (nI i_2)), (0, .ref x), (1, .int (nI f)), (2, .int (nI g))]) B dX12_readTemplates_34 (Nat.le_of_ble_eq_true rfl) rfl ?_
      refine z_iinc (k := 3) (v := nI (i_2 + 4)) (lv' := [(3, .int (nI (i_2 + 4))), (7, .int (nI n_3)), (5, .long v_2), (4, .int i_1), (0, .ref x), (1, .int (nI f)), (2, .int (nI g))]) B dX12_readTemplates_36 rfl (nI_add i_2 4) (Nat.le_of_ble_eq_true rfl) rfl ?_
      refine z_lload B dX12_readTemplates_39 2 rfl ?_
      refine z_ldc2 (v := 256) B (by decide +kernel) dX12_readTemplates_41 ?_
      refine z_ldc2 (v := 259) B (by decide +kernel) dX12_readTemplates_44 ?_
      by_cases hR1 : inP v_2 256 259
      · obtain ⟨n_4, e_4, e_5, e_6, rfl⟩ := inL_get (L := 256) (H := 259) (by decide) (by decide) hR1
        refine z_callS (As := [.long (Int64.ofNat n_4), .long 256, .long 259]) (rest := []) B (c_inR1 G l Φ2 sz (Int64.ofNat n_4) 256 259 hR1 (fun v8 Φ8 sz8 => v8 = some (.int 1) ∧ sz8 = sz ∧ Im G x (rd, nw, cr, tp, tt, sI, sT, pt, ql, fl, pe, le, nx, il, qu, kn, ec, nu, va, st, ep, ti, ad, ob, ra, rt, ex, sa, us, tk, th, me, dr, se, sn) Φ8 ∧ Fr x (fun j9 => False) Φ2 Φ8) ⟨rfl, rfl, hI3, fun _ _ => rfl⟩) (va_cwS 3 B.1.2.2.2.2 gX12_readTemplates_X12_inRange rfl rfl rfl (by decide +kernel) ⟨Nat.le_of_ble_eq_true rfl, Nat.le_of_ble_eq_true rfl⟩) rfl rfl (Nat.le_of_ble_eq_true rfl) dX12_readTemplates_47 ⟨Nat.le_of_ble_eq_true rfl, Nat.le_of_ble_eq_true rfl⟩ (fun r_3 Φ3 sz3 st3 hp3 hs3 => ?_)
        obtain ⟨rfl, hq3, hI4, hF4⟩ := hp3
        subst sz3
        replace hs3 : st3 = [.int 1] := hs3
        subst st3
        refine z_if_eq (tgt := 90) B dX12_readTemplates_50 rfl (fun h9 => absurd h9 (by decide)) (fun c_3 => ?_)
        refine z_iload B dX12_readTemplates_53 1 rfl ?_
        refine z_i2l (v := (nI n_3).toInt64) B dX12_readTemplates_55 rfl ?_
        refine z_lconst (v := 1) B dX12_readTemplates_56 rfl ?_
        refine z_ldc2 (v := 9) B (by decide +kernel) dX12_readTemplates_57 ?_
        by_cases hR2 : inP ((nI n_3).toInt64) 1 9
        · have e_7 := (in_nat (m := n_3) (L := 1) (H := 9) (by decide) (by decide) (by omega)).mp hR2
          refine z_callS (As := [.long ((nI n_3).toInt64), .long 1, .long 9]) (rest := []) B (c_inR1 G l Φ3 sz ((nI n_3).toInt64) 1 9 hR2 (fun v8 Φ8 sz8 => v8 = some (.int 1) ∧ sz8 = sz ∧ Im G x (rd, nw, cr, tp, tt, sI, sT, pt, ql, fl, pe, le, nx, il, qu, kn, ec, nu, va, st, ep, ti, ad, ob, ra, rt, ex, sa, us, tk, th, me, dr, se, sn) Φ8 ∧ Fr x (fun j9 => False) Φ3 Φ8) ⟨rfl, rfl, hI4, fun _ _ => rfl⟩) (va_cwS 3 B.1.2.2.2.2 gX12_readTemplates_X12_inRange rfl rfl rfl (by decide +kernel) ⟨Nat.le_of_ble_eq_true rfl, Nat.le_of_ble_eq_true rfl⟩) rfl rfl (Nat.le_of_ble_eq_true rfl) dX12_readTemplates_60 ⟨Nat.le_of_ble_eq_true rfl, Nat.le_of_ble_eq_true rfl⟩ (fun r_4 Φ4 sz4 st4 hp4 hs4 => ?_)
          obtain ⟨rfl, hq4, hI5, hF5⟩ := hp4
          subst sz4
          replace hs4 : st4 = [.int 1] := hs4
          subst st4
          refine z_if_eq (tgt := 90) B dX12_readTemplates_63 rfl (fun h9 => absurd h9 (by decide)) (fun c_4 => ?_)
          refine z_iload_n B dX12_readTemplates_66 rfl 6 rfl ?_
          refine z_iload_n B dX12_readTemplates_67 rfl 0 rfl ?_
          refine z_isub B dX12_readTemplates_68 ?_
          refine z_top (st1 := [.int (nI (g - (i_2 + 4)))]) (congrArg (fun w9 : Int32 => ([.int w9] : List Value)) (nI_sub (show i_2 + 4 ≤ g by omega))) ?_
          refine z_iconst (v := 4) B dX12_readTemplates_69 rfl ?_
          refine z_iload B dX12_readTemplates_70 1 rfl ?_
          refine z_imul B dX12_readTemplates_72 ?_
          refine z_top (st1 := [.int (nI (4 * n_3)), .int (nI (g - (i_2 + 4)))]) (congrArg (fun w9 : Int32 => ([.int w9, .int (nI (g - (i_2 + 4)))] : List Value)) (nI_mul 4 n_3)) ?_
          refine z_icmp_lt (tgt := 90) B dX12_readTemplates_73 rfl (fun c_5 => ?_) (fun c_5 => ?_)
          · have e_10 : g - (i_2 + 4) < 4 * n_3 := (nI_ltI (a := g - (i_2 + 4)) (b := 4 * n_3) (by omega) (by omega)).mp c_5
            refine z_iconst (v := 0) B dX12_readTemplates_90 rfl ?_
            refine z_istore (lv' := [(4, .int 0), (3, .int (nI (i_2 + 4))), (7, .int (nI n_3)), (5, .long (Int64.ofNat n_4)), (0, .ref x), (1, .int (nI f)), (2, .int (nI g))]) B dX12_readTemplates_91 (Nat.le_of_ble_eq_true rfl) rfl ?_
            refine z_iload B dX12_readTemplates_93 0 rfl ?_
            refine z_if_ne (tgt := 101) B dX12_readTemplates_95 rfl (fun h9 => absurd (by decide) h9) (fun c_6 => ?_)
            refine z_goto (tgt := 5) B dX12_readTemplates_98 rfl ?_
            refine z_lv [0, 1, 4, 5, 6] rfl ?_
            exact ih1 (0, i_2 + 4) Φ4 (show 701 - (i_2 + 4) < 701 - i_2 by omega) ⟨hI5, (fun b9 h9 => ((hF5 b9 (fun j9 h8 h7 => (show False from h7).elim)).trans ((hF4 b9 (fun j9 h8 h7 => (show False from h7).elim)).trans ((hF3 b9 (fun j9 h8 h7 => (show False from h7).elim)).trans ((hF2 b9 (fun j9 h8 h7 => (show False from h7).elim)).trans ((hF1 b9 h9).trans rfl)))))), (show (i_2 + 4) ≤ g by omega), trivial⟩
          · have e_11 : ¬ (g - (i_2 + 4) < 4 * n_3) := fun h9 => c_5 ((nI_ltI (a := g - (i_2 + 4)) (b := 4 * n_3) (by omega) (by omega)).mpr h9)
            refine z_aload_n B dX12_readTemplates_76 rfl 4 rfl ?_
            refine z_iload_n B dX12_readTemplates_77 rfl 0 rfl ?_
            refine z_iload B dX12_readTemplates_78 1 rfl ?_
            have h_4 : Φ4 x = some (o_ 14 [.int th, .ref (x + 1), .ref (x + 2), .int ti, .int ra, .int (nI rt), .int ex, .int ad, .ref (x + 3), .ref (x + 4), .int me, .long se, .ref (x + 5), .int (nI fl), .int dr, .long ob, .long sa, .long sn, .long us, .ref (x + 6), .ref (x + 7), .int (nI pe), .ref (x + 8), .int (nI le), .ref (x + 9), .ref (x + 10), .int (nI qu), .ref (x + 11), .ref (x + 12), .ref (x + 13), .ref (x + 14), .ref (x + 15), .ref (x + 16), .int (nI n_1), .long v_1, .ref (x + 17), .ref (x + 18), .ref (x + 19), .ref (x + 20), .ref (x + 21), .ref (x + 22), .int (nI n_2), .ref (x + 23), .ref (x + 24), .int (nI tk), .ref (x + 25), .int (nI il), .int (nI nx), .int ec, .int ep, .int kn, .int (nI st), .int nu, .long va]) := ((hF5 x (fun j9 h8 h7 => (show False from h7).elim)).trans ((hF4 x (fun j9 h8 h7 => (show False from h7).elim)).trans ((hF3 x (fun j9 h8 h7 => (show False from h7).elim)).trans h_3)))
            refine z_callV (As := [.int (nI (i_2 + 4)), .int (nI n_3)]) (rest := []) B (r_areFields G l Φ4 sz x rd nw cr tp tt sI sT pt ql fl pe le nx il qu kn ec nu va st ep ti ad ob ra rt ex sa us tk th me dr se sn (i_2 + 4) n_3 hx hI5 (show n_3 ≤ 9 by omega) (show (i_2 + 4) + 4 * n_3 ≤ 700 by omega) hnw) (cwV 2 B.1.2.2.2.2 gX12_readTemplates_X12_areFields rfl rfl rfl (by decide +kernel) ⟨Nat.le_of_ble_eq_true rfl, Nat.le_of_ble_eq_true rfl⟩) h_4 rfl rfl rfl rfl (Nat.le_of_ble_eq_true rfl) dX12_readTemplates_80 ⟨Nat.le_of_ble_eq_true rfl, Nat.le_of_ble_eq_true rfl⟩ (fun r_5 Φ5 sz5 st5 hp5 hs5 => ?_)
            obtain ⟨⟨v_4, rfl, b_16⟩, hq5, hI6, hF6⟩ := hp5
            subst sz5
            replace hs5 : st5 = [.int v_4] := hs5
            subst st5
            replace hI6 : Im G x (rd, nw, cr, tp, tt, sI, sT, pt, ql, fl, pe, le, nx, il, qu, kn, ec, nu, va, st, ep, ti, ad, ob, ra, rt, ex, sa, us, tk, th, me, dr, se, sn) Φ5 := hI6
            refine z_if_eq (tgt := 90) B dX12_readTemplates_83 rfl (fun c_7 => ?_) (fun c_7 => ?_)
            · refine z_iconst (v := 0) B dX12_readTemplates_90 rfl ?_
              refine z_istore (lv' := [(4, .int 0), (3, .int (nI (i_2 + 4))), (7, .int (nI n_3)), (5, .long (Int64.ofNat n_4)), (0, .ref x), (1, .int (nI f)), (2, .int (nI g))]) B dX12_readTemplates_91 (Nat.le_of_ble_eq_true rfl) rfl ?_
              refine z_iload B dX12_readTemplates_93 0 rfl ?_
              refine z_if_ne (tgt := 101) B dX12_readTemplates_95 rfl (fun h9 => absurd (by decide) h9) (fun c_8 => ?_)
              refine z_goto (tgt := 5) B dX12_readTemplates_98 rfl ?_
              refine z_lv [0, 1, 4, 5, 6] rfl ?_
              exact ih1 (0, i_2 + 4) Φ5 (show 701 - (i_2 + 4) < 701 - i_2 by omega) ⟨hI6, (fun b9 h9 => ((hF6 b9 (fun j9 h8 h7 => h9 j9 h8 (fq_1257 j9 h7))).trans ((hF5 b9 (fun j9 h8 h7 => (show False from h7).elim)).trans ((hF4 b9 (fun j9 h8 h7 => (show False from h7).elim)).trans ((hF3 b9 (fun j9 h8 h7 => (show False from h7).elim)).trans ((hF2 b9 (fun j9 h8 h7 => (show False from h7).elim)).trans ((hF1 b9 h9).trans rfl))))))), (show (i_2 + 4) ≤ g by omega), trivial⟩
            · refine z_iconst (v := 1) B dX12_readTemplates_86 rfl ?_
              refine z_goto (tgt := 91) B dX12_readTemplates_87 rfl ?_
              refine z_istore (lv' := [(4, .int 1), (3, .int (nI (i_2 + 4))), (7, .int (nI n_3)), (5, .long (Int64.ofNat n_4)), (0, .ref x), (1, .int (nI f)), (2, .int (nI g))]) B dX12_readTemplates_91 (Nat.le_of_ble_eq_true rfl) rfl ?_
              refine z_iload B dX12_readTemplates_93 0 rfl ?_
              refine z_if_ne (tgt := 101) B dX12_readTemplates_95 rfl (fun c_9 => ?_) (fun h9 => absurd h9 (by decide))
              refine z_lload B dX12_readTemplates_101 3 rfl ?_
              refine z_l2i (v := (Int64.ofNat n_4).toInt32) B dX12_readTemplates_103 rfl ?_
              refine z_top (st1 := [.int (nI n_4)]) (congrArg (fun w9 : Int32 => ([.int w9] : List Value)) (ofL (by omega))) ?_
              refine z_sipush (v := 256) B dX12_readTemplates_104 rfl ?_
              refine z_isub B dX12_readTemplates_107 ?_
              refine z_top (st1 := [.int (nI (n_4 - 256))]) (congrArg (fun w9 : Int32 => ([.int w9] : List Value)) (nI_sub (show 256 ≤ n_4 by omega))) ?_
              refine z_istore (lv' := [(8, .int (nI (n_4 - 256))), (4, .int 1), (3, .int (nI (i_2 + 4))), (7, .int (nI n_3)), (5, .long (Int64.ofNat n_4)), (0, .ref x), (1, .int (nI f)), (2, .int (nI g))]) B dX12_readTemplates_108 (Nat.le_of_ble_eq_true rfl) rfl ?_
              refine z_aload_n B dX12_readTemplates_110 rfl 5 rfl ?_
              have h_5 : Φ5 x = some (o_ 14 [.int th, .ref (x + 1), .ref (x + 2), .int ti, .int ra, .int (nI rt), .int ex, .int ad, .ref (x + 3), .ref (x + 4), .int me, .long se, .ref (x + 5), .int (nI fl), .int dr, .long ob, .long sa, .long sn, .long us, .ref (x + 6), .ref (x + 7), .int (nI pe), .ref (x + 8), .int (nI le), .ref (x + 9), .ref (x + 10), .int (nI qu), .ref (x + 11), .ref (x + 12), .ref (x + 13), .ref (x + 14), .ref (x + 15), .ref (x + 16), .int (nI n_1), .long v_1, .ref (x + 17), .ref (x + 18), .ref (x + 19), .ref (x + 20), .ref (x + 21), .ref (x + 22), .int (nI n_2), .ref (x + 23), .ref (x + 24), .int (nI tk), .ref (x + 25), .int (nI il), .int (nI nx), .int ec, .int ep, .int kn, .int (nI st), .int nu, .long va]) := ((hF6 x fq_1258).trans h_4)
              refine z_get (ref := "FlowExporterModel") (C := RX12) (T := TX12) (N := 54) (ci := 14) (v := .ref (x + 12)) B hu_X12_readTemplates_X12 rfl 28 (Nat.le_of_ble_eq_true rfl) hv_X12_readTemplates_48 rfl h_5 rfl dX12_readTemplates_111 ?_
              refine z_iload B dX12_readTemplates_114 0 rfl ?_
              refine z_iload B dX12_readTemplates_116 3 rfl ?_
              obtain ⟨f_1, h_6, r_6⟩ := imk (k := 12) hI6
              replace r_6 : Rw 9 f_1 := r_6
              have h_7 : Φ5 (x + 12) = some (ai_ G 4 f_1) := h_6
              refine z_iast B h_7 (Nat.le_trans hx (Nat.le_add_right x 12)) (vp_in_nI (by omega) (by omega)) dX12_readTemplates_118 (fun Φ6 hΦ1 => ?_)
              have h_8 : Φ6 (x + 12) = some (ai_ G 4 (upd f_1 (nI (n_4 - 256)).toNatClampNeg (nI n_3))) := fset_at hΦ1
              have hI7 : Im G x (rd, nw, cr, tp, tt, sI, sT, pt, ql, fl, pe, le, nx, il, qu, kn, ec, nu, va, st, ep, ti, ad, ob, ra, rt, ex, sa, us, tk, th, me, dr, se, sn) Φ6 := Im.put (k := 12) hI6 hΦ1 ⟨_, rfl, Rw.up (n := n_3) r_6 (show n_3 ≤ 9 by omega)⟩
              refine z_aload_n B dX12_readTemplates_119 rfl 5 rfl ?_
              have h_9 : Φ6 x = some (o_ 14 [.int th, .ref (x + 1), .ref (x + 2), .int ti, .int ra, .int (nI rt), .int ex, .int ad, .ref (x + 3), .ref (x + 4), .int me, .long se, .ref (x + 5), .int (nI fl), .int dr, .long ob, .long sa, .long sn, .long us, .ref (x + 6), .ref (x + 7), .int (nI pe), .ref (x + 8), .int (nI le), .ref (x + 9), .ref (x + 10), .int (nI qu), .ref (x + 11), .ref (x + 12), .ref (x + 13), .ref (x + 14), .ref (x + 15), .ref (x + 16), .int (nI n_1), .long v_1, .ref (x + 17), .ref (x + 18), .ref (x + 19), .ref (x + 20), .ref (x + 21), .ref (x + 22), .int (nI n_2), .ref (x + 23), .ref (x + 24), .int (nI tk), .ref (x + 25), .int (nI il), .int (nI nx), .int ec, .int ep, .int kn, .int (nI st), .int nu, .long va]) := ((fset_fr hΦ1 (ne_off (x := x) (i := 0) (j := 12) rfl)).trans h_5)
              refine z_get (ref := "FlowExporterModel") (C := RX12) (T := TX12) (N := 54) (ci := 14) (v := .ref (x + 14)) B hu_X12_readTemplates_X12 rfl 30 (Nat.le_of_ble_eq_true rfl) hv_X12_readTemplates_54 rfl h_9 rfl dX12_readTemplates_120 ?_
              refine z_iload B dX12_readTemplates_123 0 rfl ?_
              refine z_aload_n B dX12_readTemplates_125 rfl 5 rfl ?_
              refine z_get (ref := "FlowExporterModel") (C := RX12) (T := TX12) (N := 54) (ci := 14) (v := .int ti) B hu_X12_readTemplates_X12 rfl 3 (Nat.le_of_ble_eq_true rfl) hv_X12_readTemplates_101 rfl h_9 rfl dX12_readTemplates_126 ?_
              obtain ⟨f_2, h_10⟩ := imk (k := 14) hI7
              have h_11 : Φ6 (x + 14) = some (ai_ G 4 f_2) := h_10
              refine z_iast B h_11 (Nat.le_trans hx (Nat.le_add_right x 14)) (vp_in_nI (by omega) (by omega)) dX12_readTemplates_129 (fun Φ7 hΦ2 => ?_)
              have h_12 : Φ7 (x + 14) = some (ai_ G 4 (upd f_2 (nI (n_4 - 256)).toNatClampNeg ti)) := fset_at hΦ2
              have hI8 : Im G x (rd, nw, cr, tp, tt, sI, sT, pt, ql, fl, pe, le, nx, il, qu, kn, ec, nu, va, st, ep, ti, ad, ob, ra, rt, ex, sa, us, tk, th, me, dr, se, sn) Φ7 := Im.put (k := 14) hI7 hΦ2 ⟨_, rfl⟩
              refine z_iconst (v := 0) B dX12_readTemplates_130 rfl ?_
              refine z_istore (lv' := [(9, .int 0), (8, .int (nI (n_4 - 256))), (4, .int 1), (3, .int (nI (i_2 + 4))), (7, .int (nI n_3)), (5, .long (Int64.ofNat n_4)), (0, .ref x), (1, .int (nI f)), (2, .int (nI g))]) B dX12_readTemplates_131 (Nat.le_of_ble_eq_true rfl) rfl ?_
              refine z_lv [0, 1, 2, 3, 4, 5, 6, 7, 8] rfl ?_
              refine z_loop (α := Nat) (fun (a9 : Nat) Φi => Im G x (rd, nw, cr, tp, tt, sI, sT, pt, ql, fl, pe, le, nx, il, qu, kn, ec, nu, va, st, ep, ti, ad, ob, ra, rt, ex, sa, us, tk, th, me, dr, se, sn) Φi ∧ Fr x (fun j9 => j9 = 13) Φ7 Φi ∧ (a9 ≤ 9) ∧ True) (fun a9 => [(9, .int (nI a9)), (8, .int (nI (n_4 - 256))), (4, .int 1), (3, .int (nI (i_2 + 4))), (7, .int (nI n_3)), (5, .long (Int64.ofNat n_4)), (0, .ref x), (1, .int (nI f)), (2, .int (nI g))]) (fun a9 => 9 - a9) ?_ (0) ⟨hI8, fun _ _ => rfl, (show 0 ≤ 9 by omega), trivial⟩
              rintro i_3 Φl2 ⟨hI9, hF7, b_17, -⟩ ih2
              replace hI9 : Im G x (rd, nw, cr, tp, tt, sI, sT, pt, ql, fl, pe, le, nx, il, qu, kn, ec, nu, va, st, ep, ti, ad, ob, ra, rt, ex, sa, us, tk, th, me, dr, se, sn) Φl2 := hI9
              replace b_17 : i_3 ≤ 9 := b_17
              show Z p9 l e9 _ s9 m9 _ w9 t9 k9 _ G 10 133 [(9, .int (nI i_3)), (8, .int (nI (n_4 - 256))), (4, .int 1), (3, .int (nI (i_2 + 4))), (7, .int (nI n_3)), (5, .long (Int64.ofNat n_4)), (0, .ref x), (1, .int (nI f)), (2, .int (nI g))] [] Φl2 _ _ _
              refine z_iload B dX12_readTemplates_133 0 rfl ?_
              refine z_iload B dX12_readTemplates_135 4 rfl ?_
              refine z_icmp_ge (tgt := 166) B dX12_readTemplates_137 rfl (fun c_10 => ?_) (fun c_10 => ?_)
              · have e_12 : n_3 ≤ i_3 := (nI_leI (a := n_3) (b := i_3) (by omega) (by omega)).mp c_10
                refine z_iload_n B dX12_readTemplates_166 rfl 3 rfl ?_
                refine z_iconst (v := 4) B dX12_readTemplates_167 rfl ?_
                refine z_iload B dX12_readTemplates_168 4 rfl ?_
                refine z_imul B dX12_readTemplates_170 ?_
                refine z_top (st1 := [.int (nI (4 * n_3)), .int (nI (i_2 + 4))]) (congrArg (fun w9 : Int32 => ([.int w9, .int (nI (i_2 + 4))] : List Value)) (nI_mul 4 n_3)) ?_
                refine z_iadd B dX12_readTemplates_171 ?_
                refine z_top (st1 := [.int (nI (i_2 + 4 + 4 * n_3))]) (congrArg (fun w9 : Int32 => ([.int w9] : List Value)) (nI_add (i_2 + 4) (4 * n_3))) ?_
                refine z_istore_n (lv' := [(3, .int (nI (i_2 + 4 + 4 * n_3))), (9, .int (nI i_3)), (8, .int (nI (n_4 - 256))), (4, .int 1), (7, .int (nI n_3)), (5, .long (Int64.ofNat n_4)), (0, .ref x), (1, .int (nI f)), (2, .int (nI g))]) B dX12_readTemplates_172 rfl (Nat.le_of_ble_eq_true rfl) rfl ?_
                refine z_goto (tgt := 5) B dX12_readTemplates_173 rfl ?_
                refine z_lv [3, 0, 6, 7, 8] rfl ?_
                exact ih1 (1, i_2 + 4 + 4 * n_3) Φl2 (show 701 - (i_2 + 4 + 4 * n_3) < 701 - i_2 by omega) ⟨hI9, (fun b9 h9 => ((hF7 b9 (fun j9 h8 h7 => h9 j9 h8 (fq_1263 j9 h7))).trans ((fset_fr hΦ2 (fun h8 => h9 (14) h8 (show 14 = 12 ∨ 14 = 13 ∨ 14 = 14 ∨ 14 = 17 by decide))).trans ((fset_fr hΦ1 (fun h8 => h9 (12) h8 (show 12 = 12 ∨ 12 = 13 ∨ 12 = 14 ∨ 12 = 17 by decide))).trans ((hF6 b9 (fun j9 h8 h7 => h9 j9 h8 (fq_1257 j9 h7))).trans ((hF5 b9 (fun j9 h8 h7 => (show False from h7).elim)).trans ((hF4 b9 (fun j9 h8 h7 => (show False from h7).elim)).trans ((hF3 b9 (fun j9 h8 h7 => (show False from h7).elim)).trans ((hF2 b9 (fun j9 h8 h7 => (show False from h7).elim)).trans ((hF1 b9 h9).trans rfl)))))))))), (show (i_2 + 4 + 4 * n_3) ≤ g by omega), trivial⟩
              · have e_13 : ¬ (n_3 ≤ i_3) := fun h9 => c_10 ((nI_leI (a := n_3) (b := i_3) (by omega) (by omega)).mpr h9)
                refine z_aload_n B dX12_readTemplates_140 rfl 6 rfl ?_
                have h_13 : Φl2 x = some (o_ 14 [.int th, .ref (x + 1), .ref (x + 2), .int ti, .int ra, .int (nI rt), .int ex, .int ad, .ref (x + 3), .ref (x + 4), .int me, .long se, .ref (x + 5), .int (nI fl), .int dr, .long ob, .long sa, .long sn, .long us, .ref (x + 6), .ref (x + 7), .int (nI pe), .ref (x + 8), .int (nI le), .ref (x + 9), .ref (x + 10), .int (nI qu), .ref (x + 11), .ref (x + 12), .ref (x + 13), .ref (x + 14), .ref (x + 15), .ref (x + 16), .int (nI n_1), .long v_1, .ref (x + 17), .ref (x + 18), .ref (x + 19), .ref (x + 20), .ref (x + 21), .ref (x + 22), .int (nI n_2), .ref (x + 23), .ref (x + 24), .int (nI tk), .ref (x + 25), .int (nI il), .int (nI nx), .int ec, .int ep, .int kn, .int (nI st), .int nu, .long va]) := ((hF7 x fq_1264).trans ((fset_fr hΦ2 (ne_off (x := x) (i := 0) (j := 14) rfl)).trans h_9))
                refine z_get (ref := "FlowExporterModel") (C := RX12) (T := TX12) (N := 54) (ci := 14) (v := .ref (x + 13)) B hu_X12_readTemplates_X12 rfl 29 (Nat.le_of_ble_eq_true rfl) hv_X12_readTemplates_51 rfl h_13 rfl dX12_readTemplates_141 ?_
                refine z_bipush (v := 9) B dX12_readTemplates_144 rfl ?_
                refine z_iload B dX12_readTemplates_146 1 rfl ?_
                refine z_imul B dX12_readTemplates_148 ?_
                refine z_top (st1 := [.int (nI (9 * (n_4 - 256))), .ref (x + 13)]) (congrArg (fun w9 : Int32 => ([.int w9, .ref (x + 13)] : List Value)) (nI_mul 9 (n_4 - 256))) ?_
                refine z_iload B dX12_readTemplates_149 0 rfl ?_
                refine z_iadd B dX12_readTemplates_151 ?_
                refine z_top (st1 := [.int (nI (9 * (n_4 - 256) + i_3)), .ref (x + 13)]) (congrArg (fun w9 : Int32 => ([.int w9, .ref (x + 13)] : List Value)) (nI_add (9 * (n_4 - 256)) i_3)) ?_
                refine z_aload_n B dX12_readTemplates_152 rfl 6 rfl ?_
                refine z_get (ref := "FlowExporterModel") (C := RX12) (T := TX12) (N := 54) (ci := 14) (v := .ref (x + 17)) B hu_X12_readTemplates_X12 rfl 35 (Nat.le_of_ble_eq_true rfl) hv_X12_readTemplates_63 rfl h_13 rfl dX12_readTemplates_153 ?_
                refine z_iload B dX12_readTemplates_156 0 rfl ?_
                obtain ⟨f_3, h_14, r_8⟩ := imk (k := 17) hI9
                replace r_8 : Rw 8 f_3 := r_8
                have h_15 : Φl2 (x + 17) = some (ai_ G 9 f_3) := h_14
                refine z_iald B h_15 (vp_in_nI (by omega) (by omega)) dX12_readTemplates_158 ?_
                obtain ⟨n_6, b_18, e_14⟩ := r_8 ((nI i_3).toNatClampNeg)
                refine z_top (st1 := [.int (nI n_6), .int (nI (9 * (n_4 - 256) + i_3)), .ref (x + 13)]) (congrArg (fun w9 : Int32 => ([.int w9, .int (nI (9 * (n_4 - 256) + i_3)), .ref (x + 13)] : List Value)) (e_14)) ?_
                obtain ⟨f_4, h_16, r_9⟩ := imk (k := 13) hI9
                replace r_9 : Rw 8 f_4 := r_9
                have h_17 : Φl2 (x + 13) = some (ai_ G 36 f_4) := h_16
                refine z_iast B h_17 (Nat.le_trans hx (Nat.le_add_right x 13)) (vp_in_nI (by omega) (by omega)) dX12_readTemplates_159 (fun Φ8 hΦ3 => ?_)
                have h_18 : Φ8 (x + 13) = some (ai_ G 36 (upd f_4 (nI (9 * (n_4 - 256) + i_3)).toNatClampNeg (nI n_6))) := fset_at hΦ3
                have hI10 : Im G x (rd, nw, cr, tp, tt, sI, sT, pt, ql, fl, pe, le, nx, il, qu, kn, ec, nu, va, st, ep, ti, ad, ob, ra, rt, ex, sa, us, tk, th, me, dr, se, sn) Φ8 := Im.put (k := 13) hI9 hΦ3 ⟨_, rfl, Rw.up (n := n_6) r_9 (show n_6 ≤ 8 by omega)⟩
                refine z_iinc (k := 0) (v := nI (i_3 + 1)) (lv' := [(9, .int (nI (i_3 + 1))), (8, .int (nI (n_4 - 256))), (4, .int 1), (3, .int (nI (i_2 + 4))), (7, .int (nI n_3)), (5, .long (Int64.ofNat n_4)), (0, .ref x), (1, .int (nI f)), (2, .int (nI g))]) B dX12_readTemplates_160 rfl (nI_add i_3 1) (Nat.le_of_ble_eq_true rfl) rfl ?_
                refine z_goto (tgt := 133) B dX12_readTemplates_163 rfl ?_
                refine z_lv [0, 1, 2, 3, 4, 5, 6, 7, 8] rfl ?_
                exact ih2 (i_3 + 1) Φ8 (show 9 - (i_3 + 1) < 9 - i_3 by omega) ⟨hI10, (fun b9 h9 => ((fset_fr hΦ3 (fun h8 => h9 (13) h8 (show 13 = 13 by decide))).trans ((hF7 b9 h9).trans rfl))), (show (i_3 + 1) ≤ 9 by omega), trivial⟩
        · have e_15 := fun h9 => hR2 ((in_nat (m := n_3) (L := 1) (H := 9) (by decide) (by decide) (by omega)).mpr h9)
          refine z_callS (As := [.long ((nI n_3).toInt64), .long 1, .long 9]) (rest := []) B (c_inR0 G l Φ3 sz ((nI n_3).toInt64) 1 9 hR2 (fun v8 Φ8 sz8 => v8 = some (.int 0) ∧ sz8 = sz ∧ Im G x (rd, nw, cr, tp, tt, sI, sT, pt, ql, fl, pe, le, nx, il, qu, kn, ec, nu, va, st, ep, ti, ad, ob, ra, rt, ex, sa, us, tk, th, me, dr, se, sn) Φ8 ∧ Fr x (fun j9 => False) Φ3 Φ8) ⟨rfl, rfl, hI4, fun _ _ => rfl⟩) (va_cwS 3 B.1.2.2.2.2 gX12_readTemplates_X12_inRange rfl rfl rfl (by decide +kernel) ⟨Nat.le_of_ble_eq_true rfl, Nat.le_of_ble_eq_true rfl⟩) rfl rfl (Nat.le_of_ble_eq_true rfl) dX12_readTemplates_60 ⟨Nat.le_of_ble_eq_true rfl, Nat.le_of_ble_eq_true rfl⟩ (fun r_10 Φ9 sz6 st6 hp6 hs6 => ?_)
          obtain ⟨rfl, hq6, hI11, hF8⟩ := hp6
          subst sz6
          replace hs6 : st6 = [.int 0] := hs6
          subst st6
          refine z_if_eq (tgt := 90) B dX12_readTemplates_63 rfl (fun c_11 => ?_) (fun h9 => absurd (by decide) h9)
          refine z_iconst (v := 0) B dX12_readTemplates_90 rfl ?_
          refine z_istore (lv' := [(4, .int 0), (3, .int (nI (i_2 + 4))), (7, .int (nI n_3)), (5, .long (Int64.ofNat n_4)), (0, .ref x), (1, .int (nI f)), (2, .int (nI g))]) B dX12_readTemplates_91 (Nat.le_of_ble_eq_true rfl) rfl ?_
          refine z_iload B dX12_readTemplates_93 0 rfl ?_
          refine z_if_ne (tgt := 101) B dX12_readTemplates_95 rfl (fun h9 => absurd (by decide) h9) (fun c_12 => ?_)
          refine z_goto (tgt := 5) B dX12_readTemplates_98 rfl ?_
          refine z_lv [0, 1, 4, 5, 6] rfl ?_
          exact ih1 (0, i_2 + 4) Φ9 (show 701 - (i_2 + 4) < 701 - i_2 by omega) ⟨hI11, (fun b9 h9 => ((hF8 b9 (fun j9 h8 h7 => (show False from h7).elim)).trans ((hF4 b9 (fun j9 h8 h7 => (show False from h7).elim)).trans ((hF3 b9 (fun j9 h8 h7 => (show False from h7).elim)).trans ((hF2 b9 (fun j9 h8 h7 => (show False from h7).elim)).trans ((hF1 b9 h9).trans rfl)))))), (show (i_2 + 4) ≤ g by omega), trivial⟩
      · refine z_callS (As := [.long v_2, .long 256, .long 259]) (rest := []) B (c_inR0 G l Φ2 sz v_2 256 259 hR1 (fun v8 Φ8 sz8 => v8 = some (.int 0) ∧ sz8 = sz ∧ Im G x (rd, nw, cr, tp, tt, sI, sT, pt, ql, fl, pe, le, nx, il, qu, kn, ec, nu, va, st, ep, ti, ad, ob, ra, rt, ex, sa, us, tk, th, me, dr, se, sn) Φ8 ∧ Fr x (fun j9 => False) Φ2 Φ8) ⟨rfl, rfl, hI3, fun _ _ => rfl⟩) (va_cwS 3 B.1.2.2.2.2 gX12_readTemplates_X12_inRange rfl rfl rfl (by decide +kernel) ⟨Nat.le_of_ble_eq_true rfl, Nat.le_of_ble_eq_true rfl⟩) rfl rfl (Nat.le_of_ble_eq_true rfl) dX12_readTemplates_47 ⟨Nat.le_of_ble_eq_true rfl, Nat.le_of_ble_eq_true rfl⟩ (fun r_11 Φ10 sz7 st7 hp7 hs7 => ?_)
        obtain ⟨rfl, hq7, hI12, hF9⟩ := hp7
        subst sz7
        replace hs7 : st7 = [.int 0] := hs7
        subst st7
        refine z_if_eq (tgt := 90) B dX12_readTemplates_50 rfl (fun c_13 => ?_) (fun h9 => absurd (by decide) h9)
        refine z_iconst (v := 0) B dX12_readTemplates_90 rfl ?_
        refine z_istore (lv' := [(4, .int 0), (3, .int (nI (i_2 + 4))), (7, .int (nI n_3)), (5, .long v_2), (0, .ref x), (1, .int (nI f)), (2, .int (nI g))]) B dX12_readTemplates_91 (Nat.le_of_ble_eq_true rfl) rfl ?_
        refine z_iload B dX12_readTemplates_93 0 rfl ?_
        refine z_if_ne (tgt := 101) B dX12_readTemplates_95 rfl (fun h9 => absurd (by decide) h9) (fun c_14 => ?_)
        refine z_goto (tgt := 5) B dX12_readTemplates_98 rfl ?_
        refine z_lv [0, 1, 4, 5, 6] rfl ?_
        exact ih1 (0, i_2 + 4) Φ10 (show 701 - (i_2 + 4) < 701 - i_2 by omega) ⟨hI12, (fun b9 h9 => ((hF9 b9 (fun j9 h8 h7 => (show False from h7).elim)).trans ((hF3 b9 (fun j9 h8 h7 => (show False from h7).elim)).trans ((hF2 b9 (fun j9 h8 h7 => (show False from h7).elim)).trans ((hF1 b9 h9).trans rfl))))), (show (i_2 + 4) ≤ g by omega), trivial⟩

theorem hu_X12_rateOf_X12 : ∀ w ∈ u_ws RX12 TX12 54, w ∈ wsX12_rateOf := fun _ h => List.mem_cons_of_mem _ (List.mem_append_left _ (List.mem_append_right _ (h)))

theorem hv_X12_rateOf_17 : Cond.fieldLink RX12 17 "FlowExporterModel" (TX12 2).2.1 (TX12 2).2.2.1 ∈ wsX12_rateOf := List.mem_cons_of_mem _ (List.mem_append_left _ (List.mem_append_left _ (List.mem_of_getElem? (i := 0) rfl)))

set_option maxHeartbeats 4000000 in
set_option maxRecDepth 100000 in
theorem r_rateOf (G : EnvG) (l : Launch) (Φ : Hm) (sz x : Nat) (rd : (Nat → Int32) → Prop) (nw : (Nat → Int32) → Prop) (cr : (Nat → Int64) → Prop) (tp : (Nat → Int32) → Prop) (tt : (Nat → Int64) → Prop) (sI : (Nat → Int32) → Prop) (sT : (Nat → Int32) → Prop) (pt : (Nat → Int32) → Prop) (ql : (Nat → Int32) → Prop) (fl : Nat) (pe : Nat) (le : Nat) (nx : Nat) (il : Nat) (qu : Nat) (kn : Int32) (ec : Int32) (nu : Int32) (va : Int64) (st : Nat) (ep : Int32) (ti : Int32) (ad : Int32) (ob : Int64) (ra : Int32) (rt : Nat) (ex : Int32) (sa : Int64) (us : Int64) (tk : Nat) (th : Int32) (me : Int32) (dr : Int32) (se : Int64) (sn : Int64) (a : UInt32) (hx : G.2.2.2 ≤ x) (hI : Im G x (rd, nw, cr, tp, tt, sI, sT, pt, ql, fl, pe, le, nx, il, qu, kn, ec, nu, va, st, ep, ti, ad, ob, ra, rt, ex, sa, us, tk, th, me, dr, se, sn) Φ) (hnw : ∀ f9 : Nat → Int32, nw f9 → NN f9) : Ct G l yX12_rateOf wsX12_rateOf ({ frames := 0, cells := 0, slots := 0, locals := 0 }) 0 0 [.ref x, .float a] Φ sz (fun v Φ1 sz1 => (∃ n9 : Nat, v = some (.int (nI n9)) ∧ n9 < 2 ^ 31) ∧ sz1 = sz ∧ (Im G x (rd, nw, cr, tp, tt, sI, sT, pt, ql, fl, pe, le, nx, il, qu, kn, ec, nu, va, st, ep, ti, ad, ob, ra, rt, ex, sa, us, tk, th, me, dr, se, sn) Φ1) ∧ Fr x (fun j9 => False) Φ Φ1) := by
  refine Ct.of (cc := cX12_rateOf) (maxL := 3) (ret := (some .int)) (by decide) rfl (Nat.le_of_ble_eq_true rfl) ?_
  intro p9 e9 s9 m9 w9 t9 k9 B
  show Z p9 l e9 _ s9 m9 _ w9 t9 k9 _ G 3 0 [(0, .ref x), (1, .float a)] [] Φ sz 0 0
  refine z_fload_n B dX12_rateOf_0 rfl 1 rfl ?_
  refine z_fconst0 B dX12_rateOf_1 ?_
  refine z_fcmp B dX12_rateOf_2 ?_
  refine z_if_le (tgt := 12) B dX12_rateOf_3 rfl (fun c_1 => ?_) (fun c_1 => ?_)
  · refine z_aload_n B dX12_rateOf_12 rfl 0 rfl ?_
    obtain ⟨n_1, v_1, n_2, h_1, b_13, b_1, b_2, b_3, b_4, b_5, b_6, b_7, b_8, b_9, b_10, b_11, b_12⟩ := im0 hI
    replace b_1 : 1 ≤ rt := b_1
    replace b_2 : rt ≤ 1024 := b_2
    replace b_3 : fl ≤ 12 := b_3
    replace b_4 : pe ≤ 24 := b_4
    replace b_5 : le ≤ 700 := b_5
    replace b_6 : qu ≤ 12 := b_6
    replace b_7 : n_1 ≤ 8 := b_7
    replace b_8 : n_2 ≤ 24 := b_8
    replace b_9 : tk ≤ 24 := b_9
    replace b_10 : il ≤ 700 := b_10
    replace b_11 : nx ≤ 701 := b_11
    replace b_12 : st ≤ 701 := b_12
    have h_2 : Φ x = some (o_ 14 [.int th, .ref (x + 1), .ref (x + 2), .int ti, .int ra, .int (nI rt), .int ex, .int ad, .ref (x + 3), .ref (x + 4), .int me, .long se, .ref (x + 5), .int (nI fl), .int dr, .long ob, .long sa, .long sn, .long us, .ref (x + 6), .ref (x + 7), .int (nI pe), .ref (x + 8), .int (nI le), .ref (x + 9), .ref (x + 10), .int (nI qu), .ref (x + 11), .ref (x + 12), .ref (x + 13), .ref (x + 14), .ref (x + 15), .ref (x + 16), .int (nI n_1), .long v_1, .ref (x + 17), .ref (x + 18), .ref (x + 19), .ref (x + 20), .ref (x + 21), .ref (x + 22), .int (nI n_2), .ref (x + 23), .ref (x + 24), .int (nI tk), .ref (x + 25), .int (nI il), .int (nI nx), .int ec, .int ep, .int kn, .int (nI st), .int nu, .long va]) := h_1
    refine z_get (ref := "FlowExporterModel") (C := RX12) (T := TX12) (N := 54) (ci := 14) (v := .ref (x + 2)) B hu_X12_rateOf_X12 rfl 2 (Nat.le_of_ble_eq_true rfl) hv_X12_rateOf_17 rfl h_2 rfl dX12_rateOf_13 ?_
    refine z_bipush (v := 8) B dX12_rateOf_16 rfl ?_
    obtain ⟨f_1, h_3, r_1⟩ := imk (k := 2) hI
    replace r_1 : nw f_1 := r_1
    have r_2 : NN f_1 := hnw f_1 r_1
    have h_4 : Φ (x + 2) = some (ai_ G 307 f_1) := h_3
    refine z_iald B h_4 (vin rfl) dX12_rateOf_18 ?_
    obtain ⟨n_3, b_14, e_1⟩ := r_2.2.2.2.2.2.2.1
    refine z_top (st1 := [.int (nI n_3)]) (congrArg (fun w9 : Int32 => ([.int w9] : List Value)) (e_1)) ?_
    exact z_ret_i B dX12_rateOf_19 ⟨⟨n_3, rfl, (show n_3 < 2 ^ 31 by omega)⟩, rfl, hI, (fun b9 h9 => rfl)⟩
  · refine z_fload_n B dX12_rateOf_6 rfl 1 rfl ?_
    refine z_fconst1 B dX12_rateOf_7 ?_
    refine z_fcmp B dX12_rateOf_8 ?_
    refine z_fi (fun v_2 => ?_)
    refine z_if_le (tgt := 20) B dX12_rateOf_9 rfl (fun c_2 => ?_) (fun c_2 => ?_)
    · have hu9 := gt_nn c_1
      refine z_fconst1 B dX12_rateOf_20 ?_
      refine z_fload_n B dX12_rateOf_21 rfl 1 rfl ?_
      refine z_fdiv B dX12_rateOf_22 (vf32_of (inv_nn hu9)) ?_
      refine z_ldcwf (v := 1056964608) B (by decide +kernel) dX12_rateOf_23 ?_
      refine z_fadd B dX12_rateOf_26 (vf32_of (inv_add_nn hu9)) ?_
      refine z_f2i B dX12_rateOf_27 ?_
      obtain ⟨n_4, b_15, e_2⟩ := f2i_nat c_1
      refine z_top (st1 := [.int (nI n_4)]) (congrArg (fun w9 : Int32 => ([.int w9] : List Value)) (e_2)) ?_
      refine z_istore_n (lv' := [(2, .int (nI n_4)), (0, .ref x), (1, .float a)]) B dX12_rateOf_28 rfl (Nat.le_of_ble_eq_true rfl) rfl ?_
      refine z_iload_n B dX12_rateOf_29 rfl 0 rfl ?_
      refine z_sipush (v := 1024) B dX12_rateOf_30 rfl ?_
      refine z_icmp_ge (tgt := 40) B dX12_rateOf_33 rfl (fun c_3 => ?_) (fun c_3 => ?_)
      · have e_3 : 1024 ≤ n_4 := (nI_leI (a := 1024) (b := n_4) (by omega) (by omega)).mp c_3
        refine z_sipush (v := 1024) B dX12_rateOf_40 rfl ?_
        exact z_ret_i B dX12_rateOf_43 ⟨⟨1024, rfl, (show 1024 < 2 ^ 31 by omega)⟩, rfl, hI, (fun b9 h9 => rfl)⟩
      · have e_4 : ¬ (1024 ≤ n_4) := fun h9 => c_3 ((nI_leI (a := 1024) (b := n_4) (by omega) (by omega)).mpr h9)
        refine z_iload_n B dX12_rateOf_36 rfl 0 rfl ?_
        refine z_goto (tgt := 43) B dX12_rateOf_37 rfl ?_
        exact z_ret_i B dX12_rateOf_43 ⟨⟨n_4, rfl, (show n_4 < 2 ^ 31 by omega)⟩, rfl, hI, (fun b9 h9 => rfl)⟩
    · obtain ⟨n_5, e_6, e_5, rfl⟩ := nI_ofp c_2
      refine z_aload_n B dX12_rateOf_12 rfl 0 rfl ?_
      obtain ⟨n_6, v_3, n_7, h_5, b_28, b_16, b_17, b_18, b_19, b_20, b_21, b_22, b_23, b_24, b_25, b_26, b_27⟩ := im0 hI
      replace b_16 : 1 ≤ rt := b_16
      replace b_17 : rt ≤ 1024 := b_17
      replace b_18 : fl ≤ 12 := b_18
      replace b_19 : pe ≤ 24 := b_19
      replace b_20 : le ≤ 700 := b_20
      replace b_21 : qu ≤ 12 := b_21
      replace b_22 : n_6 ≤ 8 := b_22
      replace b_23 : n_7 ≤ 24 := b_23
      replace b_24 : tk ≤ 24 := b_24
      replace b_25 : il ≤ 700 := b_25
      replace b_26 : nx ≤ 701 := b_26
      replace b_27 : st ≤ 701 := b_27
      have h_6 : Φ x = some (o_ 14 [.int th, .ref (x + 1), .ref (x + 2), .int ti, .int ra, .int (nI rt), .int ex, .int ad, .ref (x + 3), .ref (x + 4), .int me, .long se, .ref (x + 5), .int (nI fl), .int dr, .long ob, .long sa, .long sn, .long us, .ref (x + 6), .ref (x + 7), .int (nI pe), .ref (x + 8), .int (nI le), .ref (x + 9), .ref (x + 10), .int (nI qu), .ref (x + 11), .ref (x + 12), .ref (x + 13), .ref (x + 14), .ref (x + 15), .ref (x + 16), .int (nI n_6), .long v_3, .ref (x + 17), .ref (x + 18), .ref (x + 19), .ref (x + 20), .ref (x + 21), .ref (x + 22), .int (nI n_7), .ref (x + 23), .ref (x + 24), .int (nI tk), .ref (x + 25), .int (nI il), .int (nI nx), .int ec, .int ep, .int kn, .int (nI st), .int nu, .long va]) := h_5
      refine z_get (ref := "FlowExporterModel") (C := RX12) (T := TX12) (N := 54) (ci := 14) (v := .ref (x + 2)) B hu_X12_rateOf_X12 rfl 2 (Nat.le_of_ble_eq_true rfl) hv_X12_rateOf_17 rfl h_6 rfl dX12_rateOf_13 ?_
      refine z_bipush (v := 8) B dX12_rateOf_16 rfl ?_
      obtain ⟨f_2, h_7, r_3⟩ := imk (k := 2) hI
      replace r_3 : nw f_2 := r_3
      have r_4 : NN f_2 := hnw f_2 r_3
      have h_8 : Φ (x + 2) = some (ai_ G 307 f_2) := h_7
      refine z_iald B h_8 (vin rfl) dX12_rateOf_18 ?_
      obtain ⟨n_8, b_29, e_7⟩ := r_4.2.2.2.2.2.2.1
      refine z_top (st1 := [.int (nI n_8)]) (congrArg (fun w9 : Int32 => ([.int w9] : List Value)) (e_7)) ?_
      exact z_ret_i B dX12_rateOf_19 ⟨⟨n_8, rfl, (show n_8 < 2 ^ 31 by omega)⟩, rfl, hI, (fun b9 h9 => rfl)⟩

theorem hu_X12_addRecord_X12 : ∀ w ∈ u_ws RX12 TX12 54, w ∈ wsX12_addRecord := fun _ h => List.mem_cons_of_mem _ (List.mem_append_left _ (List.mem_append_right _ (h)))

theorem hv_X12_addRecord_66 : Cond.fieldLink RX12 66 "FlowExporterModel" (TX12 36).2.1 (TX12 36).2.2.1 ∈ wsX12_addRecord := List.mem_cons_of_mem _ (List.mem_append_left _ (List.mem_append_left _ (List.mem_of_getElem? (i := 0) rfl)))

theorem hv_X12_addRecord_72 : Cond.fieldLink RX12 72 "FlowExporterModel" (TX12 38).2.1 (TX12 38).2.2.1 ∈ wsX12_addRecord := List.mem_cons_of_mem _ (List.mem_append_left _ (List.mem_append_left _ (List.mem_of_getElem? (i := 4) rfl)))

theorem hv_X12_addRecord_75 : Cond.fieldLink RX12 75 "FlowExporterModel" (TX12 39).2.1 (TX12 39).2.2.1 ∈ wsX12_addRecord := List.mem_cons_of_mem _ (List.mem_append_left _ (List.mem_append_left _ (List.mem_of_getElem? (i := 5) rfl)))

theorem hv_X12_addRecord_78 : Cond.fieldLink RX12 78 "FlowExporterModel" (TX12 40).2.1 (TX12 40).2.2.1 ∈ wsX12_addRecord := List.mem_cons_of_mem _ (List.mem_append_left _ (List.mem_append_left _ (List.mem_of_getElem? (i := 6) rfl)))

theorem hv_X12_addRecord_148 : Cond.fieldLink RX12 148 "FlowExporterModel" (TX12 41).2.1 (TX12 41).2.2.1 ∈ wsX12_addRecord := List.mem_cons_of_mem _ (List.mem_append_left _ (List.mem_append_left _ (List.mem_of_getElem? (i := 1) rfl)))

theorem fq_1275 : ∀ j9 : Nat, (j9 = 19) → (j9 = 0 ∨ j9 = 11 ∨ j9 = 19 ∨ j9 = 20 ∨ j9 = 21 ∨ j9 = 22) := by
  intro j9 h
  omega

theorem fq_1276 : ∀ j9 : Nat, (j9 = 20 ∨ j9 = 21 ∨ j9 = 22) → (j9 = 0 ∨ j9 = 11 ∨ j9 = 19 ∨ j9 = 20 ∨ j9 = 21 ∨ j9 = 22) := by
  intro j9 h
  omega

theorem fq_1277 {x : Nat} : ∀ j9 : Nat, x = x + j9 → (j9 = 19) → False := by
  intro j9 h1 h2
  omega

theorem fq_1278 {x : Nat} : ∀ j9 : Nat, x = x + j9 → (j9 = 20 ∨ j9 = 21 ∨ j9 = 22) → False := by
  intro j9 h1 h2
  omega

theorem hv_X12_addRecord_69 : Cond.fieldLink RX12 69 "FlowExporterModel" (TX12 37).2.1 (TX12 37).2.2.1 ∈ wsX12_addRecord := List.mem_cons_of_mem _ (List.mem_append_left _ (List.mem_append_left _ (List.mem_of_getElem? (i := 3) rfl)))

theorem fq_1280 {x : Nat} : ∀ j9 : Nat, x + 18 = x + j9 → (j9 = 19) → False := by
  intro j9 h1 h2
  omega

theorem hv_X12_addRecord_45 : Cond.fieldLink RX12 45 "FlowExporterModel" (TX12 27).2.1 (TX12 27).2.2.1 ∈ wsX12_addRecord := List.mem_cons_of_mem _ (List.mem_append_left _ (List.mem_append_left _ (List.mem_of_getElem? (i := 2) rfl)))

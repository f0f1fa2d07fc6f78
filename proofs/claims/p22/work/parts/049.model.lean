set_option maxRecDepth 20000 in
theorem ggX12_keyOf_X12_isSame : GoodIn wsX12_keyOf wsX12_isSame := goodIn_ca ((goodIn_r _ [6] rfl (by decide +kernel))) (goodIn_sub (fun _ h => List.mem_cons_of_mem _ (List.mem_append_right _ h)) (all_fg _))
set_option maxRecDepth 20000 in
theorem gX12_keyOf_X12_isSame : GoodIn wsX12_keyOf (va_wsS RX12 386 yX12_isSame wsX12_isSame) := goodIn_app (goodIn_m (mem_cA (List.mem_cons_of_mem _ (List.mem_append_left _ (List.mem_append_left _ (List.mem_of_getElem? (i := 2) rfl)))) (mem_cA (List.mem_cons_of_mem _ (List.mem_append_left _ (List.mem_append_left _ (List.mem_of_getElem? (i := 3) rfl)))) (mem_cA (List.mem_cons_of_mem _ (List.mem_append_left _ (List.mem_append_left _ (List.mem_of_getElem? (i := 4) rfl)))) mem_cZ))) (by decide +kernel)) ggX12_keyOf_X12_isSame
theorem dX12_keyOf_0 : decode cX12_keyOf 0 = .ok (.iconst 0, 1) := by decide +kernel
theorem dX12_keyOf_1 : decode cX12_keyOf 1 = .ok (.istore 9, 2) := by decide +kernel
theorem dX12_keyOf_3 : decode cX12_keyOf 3 = .ok (.iload 9, 2) := by decide +kernel
theorem dX12_keyOf_5 : decode cX12_keyOf 5 = .ok (.aload_n 0, 1) := by decide +kernel
theorem dX12_keyOf_6 : decode cX12_keyOf 6 = .ok (.getfield 148, 3) := by decide +kernel
theorem dX12_keyOf_9 : decode cX12_keyOf 9 = .ok (.if_icmp .ge 30, 3) := by decide +kernel
theorem dX12_keyOf_12 : decode cX12_keyOf 12 = .ok (.aload_n 0, 1) := by decide +kernel
theorem dX12_keyOf_13 : decode cX12_keyOf 13 = .ok (.getfield 69, 3) := by decide +kernel
theorem dX12_keyOf_16 : decode cX12_keyOf 16 = .ok (.iload 9, 2) := by decide +kernel
theorem dX12_keyOf_18 : decode cX12_keyOf 18 = .ok (.lload_n 1, 1) := by decide +kernel
theorem dX12_keyOf_19 : decode cX12_keyOf 19 = .ok (.lload_n 3, 1) := by decide +kernel
theorem dX12_keyOf_20 : decode cX12_keyOf 20 = .ok (.lload 5, 2) := by decide +kernel
theorem dX12_keyOf_22 : decode cX12_keyOf 22 = .ok (.lload 7, 2) := by decide +kernel
theorem dX12_keyOf_24 : decode cX12_keyOf 24 = .ok (.invokestatic 386, 3) := by decide +kernel
theorem dX12_keyOf_27 : decode cX12_keyOf 27 = .ok (.ifCond .eq 6, 3) := by decide +kernel
theorem dX12_keyOf_30 : decode cX12_keyOf 30 = .ok (.iload 9, 2) := by decide +kernel
theorem dX12_keyOf_32 : decode cX12_keyOf 32 = .ok (.ireturn, 1) := by decide +kernel
theorem dX12_keyOf_33 : decode cX12_keyOf 33 = .ok (.iinc 9 1, 3) := by decide +kernel
theorem dX12_keyOf_36 : decode cX12_keyOf 36 = .ok (.goto (-33), 3) := by decide +kernel
theorem dX12_keyOf_39 : decode cX12_keyOf 39 = .ok (.iconst (-1), 1) := by decide +kernel
theorem dX12_keyOf_40 : decode cX12_keyOf 40 = .ok (.ireturn, 1) := by decide +kernel
set_option maxRecDepth 20000 in
theorem ggX12_trueKeyOf_X12_isSame : GoodIn wsX12_trueKeyOf wsX12_isSame := goodIn_ca ((goodIn_r _ [6] rfl (by decide +kernel))) (goodIn_sub (fun _ h => List.mem_cons_of_mem _ (List.mem_append_right _ h)) (all_fg _))
set_option maxRecDepth 20000 in
theorem gX12_trueKeyOf_X12_isSame : GoodIn wsX12_trueKeyOf (va_wsS RX12 386 yX12_isSame wsX12_isSame) := goodIn_app (goodIn_m (mem_cA (List.mem_cons_of_mem _ (List.mem_append_left _ (List.mem_append_left _ (List.mem_of_getElem? (i := 2) rfl)))) (mem_cA (List.mem_cons_of_mem _ (List.mem_append_left _ (List.mem_append_left _ (List.mem_of_getElem? (i := 3) rfl)))) (mem_cA (List.mem_cons_of_mem _ (List.mem_append_left _ (List.mem_append_left _ (List.mem_of_getElem? (i := 4) rfl)))) mem_cZ))) (by decide +kernel)) ggX12_trueKeyOf_X12_isSame
theorem dX12_trueKeyOf_0 : decode cX12_trueKeyOf 0 = .ok (.iconst 0, 1) := by decide +kernel
theorem dX12_trueKeyOf_1 : decode cX12_trueKeyOf 1 = .ok (.istore 5, 2) := by decide +kernel
theorem dX12_trueKeyOf_3 : decode cX12_trueKeyOf 3 = .ok (.iload 5, 2) := by decide +kernel
theorem dX12_trueKeyOf_5 : decode cX12_trueKeyOf 5 = .ok (.aload_n 0, 1) := by decide +kernel
theorem dX12_trueKeyOf_6 : decode cX12_trueKeyOf 6 = .ok (.getfield 145, 3) := by decide +kernel
theorem dX12_trueKeyOf_9 : decode cX12_trueKeyOf 9 = .ok (.if_icmp .ge 33, 3) := by decide +kernel
theorem dX12_trueKeyOf_12 : decode cX12_trueKeyOf 12 = .ok (.aload_n 0, 1) := by decide +kernel
theorem dX12_trueKeyOf_13 : decode cX12_trueKeyOf 13 = .ok (.getfield 82, 3) := by decide +kernel
theorem dX12_trueKeyOf_16 : decode cX12_trueKeyOf 16 = .ok (.iload 5, 2) := by decide +kernel
theorem dX12_trueKeyOf_18 : decode cX12_trueKeyOf 18 = .ok (.iload_n 1, 1) := by decide +kernel
theorem dX12_trueKeyOf_19 : decode cX12_trueKeyOf 19 = .ok (.i2l, 1) := by decide +kernel
theorem dX12_trueKeyOf_20 : decode cX12_trueKeyOf 20 = .ok (.iload_n 2, 1) := by decide +kernel
theorem dX12_trueKeyOf_21 : decode cX12_trueKeyOf 21 = .ok (.i2l, 1) := by decide +kernel
theorem dX12_trueKeyOf_22 : decode cX12_trueKeyOf 22 = .ok (.iload_n 3, 1) := by decide +kernel
theorem dX12_trueKeyOf_23 : decode cX12_trueKeyOf 23 = .ok (.i2l, 1) := by decide +kernel
theorem dX12_trueKeyOf_24 : decode cX12_trueKeyOf 24 = .ok (.iload 4, 2) := by decide +kernel
theorem dX12_trueKeyOf_26 : decode cX12_trueKeyOf 26 = .ok (.i2l, 1) := by decide +kernel
theorem dX12_trueKeyOf_27 : decode cX12_trueKeyOf 27 = .ok (.invokestatic 386, 3) := by decide +kernel
theorem dX12_trueKeyOf_30 : decode cX12_trueKeyOf 30 = .ok (.ifCond .eq 6, 3) := by decide +kernel
theorem dX12_trueKeyOf_33 : decode cX12_trueKeyOf 33 = .ok (.iload 5, 2) := by decide +kernel
theorem dX12_trueKeyOf_35 : decode cX12_trueKeyOf 35 = .ok (.ireturn, 1) := by decide +kernel
theorem dX12_trueKeyOf_36 : decode cX12_trueKeyOf 36 = .ok (.iinc 5 1, 3) := by decide +kernel
theorem dX12_trueKeyOf_39 : decode cX12_trueKeyOf 39 = .ok (.goto (-36), 3) := by decide +kernel
theorem dX12_trueKeyOf_42 : decode cX12_trueKeyOf 42 = .ok (.iconst (-1), 1) := by decide +kernel
theorem dX12_trueKeyOf_43 : decode cX12_trueKeyOf 43 = .ok (.ireturn, 1) := by decide +kernel
set_option maxRecDepth 20000 in
theorem ggX12_remember_X12_trueKeyOf : GoodIn wsX12_remember wsX12_trueKeyOf := goodIn_ca ((goodIn_ca (goodIn_r _ [8, 1, 2, 9, 10, 7, 11] rfl (by decide +kernel)) (goodIn_sub (fun _ h => List.mem_cons_of_mem _ (List.mem_append_left _ (List.mem_append_right _ h))) gw_wsX120))) (goodIn_sub (fun _ h => List.mem_cons_of_mem _ (List.mem_append_right _ h)) (all_fg _))
set_option maxRecDepth 20000 in
theorem gX12_remember_X12_trueKeyOf : GoodIn wsX12_remember (wsV RX12 434 RX12 yX12_trueKeyOf wsX12_trueKeyOf) := goodIn_app (goodIn_m (mem_cA (List.mem_cons_of_mem _ (List.mem_append_left _ (List.mem_append_left _ (List.mem_of_getElem? (i := 3) rfl)))) (mem_cA (List.mem_cons_of_mem _ (List.mem_append_left _ (List.mem_append_left _ (List.mem_of_getElem? (i := 4) rfl)))) (mem_cA (List.mem_cons_of_mem _ (List.mem_append_left _ (List.mem_append_left _ (List.mem_of_getElem? (i := 5) rfl)))) (mem_cA (List.mem_cons_of_mem _ (List.mem_append_left _ (List.mem_append_left _ (List.mem_of_getElem? (i := 6) rfl)))) mem_cZ)))) (by decide +kernel)) ggX12_remember_X12_trueKeyOf
theorem dX12_remember_0 : decode cX12_remember 0 = .ok (.aload_n 0, 1) := by decide +kernel
theorem dX12_remember_1 : decode cX12_remember 1 = .ok (.iload_n 1, 1) := by decide +kernel
theorem dX12_remember_2 : decode cX12_remember 2 = .ok (.iload_n 2, 1) := by decide +kernel
theorem dX12_remember_3 : decode cX12_remember 3 = .ok (.iload_n 3, 1) := by decide +kernel
theorem dX12_remember_4 : decode cX12_remember 4 = .ok (.iload 4, 2) := by decide +kernel
theorem dX12_remember_6 : decode cX12_remember 6 = .ok (.invokevirtual 434, 3) := by decide +kernel
theorem dX12_remember_9 : decode cX12_remember 9 = .ok (.istore 6, 2) := by decide +kernel
theorem dX12_remember_11 : decode cX12_remember 11 = .ok (.iload 6, 2) := by decide +kernel
theorem dX12_remember_13 : decode cX12_remember 13 = .ok (.iconst (-1), 1) := by decide +kernel
theorem dX12_remember_14 : decode cX12_remember 14 = .ok (.if_icmp .ne 13, 3) := by decide +kernel
theorem dX12_remember_17 : decode cX12_remember 17 = .ok (.aload_n 0, 1) := by decide +kernel
theorem dX12_remember_18 : decode cX12_remember 18 = .ok (.getfield 145, 3) := by decide +kernel
theorem dX12_remember_21 : decode cX12_remember 21 = .ok (.bipush 24, 2) := by decide +kernel
theorem dX12_remember_23 : decode cX12_remember 23 = .ok (.if_icmp .ne 4, 3) := by decide +kernel
theorem dX12_remember_26 : decode cX12_remember 26 = .ok (.return_, 1) := by decide +kernel
theorem dX12_remember_27 : decode cX12_remember 27 = .ok (.iload 6, 2) := by decide +kernel
theorem dX12_remember_29 : decode cX12_remember 29 = .ok (.iconst (-1), 1) := by decide +kernel
theorem dX12_remember_30 : decode cX12_remember 30 = .ok (.if_icmp .ne 88, 3) := by decide +kernel
theorem dX12_remember_33 : decode cX12_remember 33 = .ok (.aload_n 0, 1) := by decide +kernel
theorem dX12_remember_34 : decode cX12_remember 34 = .ok (.getfield 145, 3) := by decide +kernel
theorem dX12_remember_37 : decode cX12_remember 37 = .ok (.istore 6, 2) := by decide +kernel
theorem dX12_remember_39 : decode cX12_remember 39 = .ok (.aload_n 0, 1) := by decide +kernel
theorem dX12_remember_40 : decode cX12_remember 40 = .ok (.dup, 1) := by decide +kernel
theorem dX12_remember_41 : decode cX12_remember 41 = .ok (.getfield 145, 3) := by decide +kernel
theorem dX12_remember_44 : decode cX12_remember 44 = .ok (.iconst 1, 1) := by decide +kernel
theorem dX12_remember_45 : decode cX12_remember 45 = .ok (.iadd, 1) := by decide +kernel
theorem dX12_remember_46 : decode cX12_remember 46 = .ok (.putfield 145, 3) := by decide +kernel
theorem dX12_remember_49 : decode cX12_remember 49 = .ok (.aload_n 0, 1) := by decide +kernel
theorem dX12_remember_50 : decode cX12_remember 50 = .ok (.getfield 82, 3) := by decide +kernel
theorem dX12_remember_53 : decode cX12_remember 53 = .ok (.iconst 4, 1) := by decide +kernel
theorem dX12_remember_54 : decode cX12_remember 54 = .ok (.iload 6, 2) := by decide +kernel
theorem dX12_remember_56 : decode cX12_remember 56 = .ok (.imul, 1) := by decide +kernel
theorem dX12_remember_57 : decode cX12_remember 57 = .ok (.iload_n 1, 1) := by decide +kernel
theorem dX12_remember_58 : decode cX12_remember 58 = .ok (.iastore, 1) := by decide +kernel
theorem dX12_remember_59 : decode cX12_remember 59 = .ok (.aload_n 0, 1) := by decide +kernel
theorem dX12_remember_60 : decode cX12_remember 60 = .ok (.getfield 82, 3) := by decide +kernel
theorem dX12_remember_63 : decode cX12_remember 63 = .ok (.iconst 4, 1) := by decide +kernel
theorem dX12_remember_64 : decode cX12_remember 64 = .ok (.iload 6, 2) := by decide +kernel
theorem dX12_remember_66 : decode cX12_remember 66 = .ok (.imul, 1) := by decide +kernel
theorem dX12_remember_67 : decode cX12_remember 67 = .ok (.iconst 1, 1) := by decide +kernel
theorem dX12_remember_68 : decode cX12_remember 68 = .ok (.iadd, 1) := by decide +kernel
theorem dX12_remember_69 : decode cX12_remember 69 = .ok (.iload_n 2, 1) := by decide +kernel
theorem dX12_remember_70 : decode cX12_remember 70 = .ok (.iastore, 1) := by decide +kernel
theorem dX12_remember_71 : decode cX12_remember 71 = .ok (.aload_n 0, 1) := by decide +kernel
theorem dX12_remember_72 : decode cX12_remember 72 = .ok (.getfield 82, 3) := by decide +kernel
theorem dX12_remember_75 : decode cX12_remember 75 = .ok (.iconst 4, 1) := by decide +kernel
theorem dX12_remember_76 : decode cX12_remember 76 = .ok (.iload 6, 2) := by decide +kernel
theorem dX12_remember_78 : decode cX12_remember 78 = .ok (.imul, 1) := by decide +kernel
theorem dX12_remember_79 : decode cX12_remember 79 = .ok (.iconst 2, 1) := by decide +kernel
theorem dX12_remember_80 : decode cX12_remember 80 = .ok (.iadd, 1) := by decide +kernel
theorem dX12_remember_81 : decode cX12_remember 81 = .ok (.iload_n 3, 1) := by decide +kernel
theorem dX12_remember_82 : decode cX12_remember 82 = .ok (.iastore, 1) := by decide +kernel
theorem dX12_remember_83 : decode cX12_remember 83 = .ok (.aload_n 0, 1) := by decide +kernel
theorem dX12_remember_84 : decode cX12_remember 84 = .ok (.getfield 82, 3) := by decide +kernel
theorem dX12_remember_87 : decode cX12_remember 87 = .ok (.iconst 4, 1) := by decide +kernel
theorem dX12_remember_88 : decode cX12_remember 88 = .ok (.iload 6, 2) := by decide +kernel
theorem dX12_remember_90 : decode cX12_remember 90 = .ok (.imul, 1) := by decide +kernel
theorem dX12_remember_91 : decode cX12_remember 91 = .ok (.iconst 3, 1) := by decide +kernel
theorem dX12_remember_92 : decode cX12_remember 92 = .ok (.iadd, 1) := by decide +kernel
theorem dX12_remember_93 : decode cX12_remember 93 = .ok (.iload 4, 2) := by decide +kernel
theorem dX12_remember_95 : decode cX12_remember 95 = .ok (.iastore, 1) := by decide +kernel
theorem dX12_remember_96 : decode cX12_remember 96 = .ok (.aload_n 0, 1) := by decide +kernel
theorem dX12_remember_97 : decode cX12_remember 97 = .ok (.getfield 85, 3) := by decide +kernel
theorem dX12_remember_100 : decode cX12_remember 100 = .ok (.iconst 2, 1) := by decide +kernel
theorem dX12_remember_101 : decode cX12_remember 101 = .ok (.iload 6, 2) := by decide +kernel
theorem dX12_remember_103 : decode cX12_remember 103 = .ok (.imul, 1) := by decide +kernel
theorem dX12_remember_104 : decode cX12_remember 104 = .ok (.lconst 0, 1) := by decide +kernel
theorem dX12_remember_105 : decode cX12_remember 105 = .ok (.lastore, 1) := by decide +kernel
theorem dX12_remember_106 : decode cX12_remember 106 = .ok (.aload_n 0, 1) := by decide +kernel
theorem dX12_remember_107 : decode cX12_remember 107 = .ok (.getfield 85, 3) := by decide +kernel
theorem dX12_remember_110 : decode cX12_remember 110 = .ok (.iconst 2, 1) := by decide +kernel
theorem dX12_remember_111 : decode cX12_remember 111 = .ok (.iload 6, 2) := by decide +kernel
theorem dX12_remember_113 : decode cX12_remember 113 = .ok (.imul, 1) := by decide +kernel
theorem dX12_remember_114 : decode cX12_remember 114 = .ok (.iconst 1, 1) := by decide +kernel
theorem dX12_remember_115 : decode cX12_remember 115 = .ok (.iadd, 1) := by decide +kernel
theorem dX12_remember_116 : decode cX12_remember 116 = .ok (.lconst 0, 1) := by decide +kernel
theorem dX12_remember_117 : decode cX12_remember 117 = .ok (.lastore, 1) := by decide +kernel
theorem dX12_remember_118 : decode cX12_remember 118 = .ok (.aload_n 0, 1) := by decide +kernel
theorem dX12_remember_119 : decode cX12_remember 119 = .ok (.getfield 85, 3) := by decide +kernel
theorem dX12_remember_122 : decode cX12_remember 122 = .ok (.iconst 2, 1) := by decide +kernel
theorem dX12_remember_123 : decode cX12_remember 123 = .ok (.iload 6, 2) := by decide +kernel
theorem dX12_remember_125 : decode cX12_remember 125 = .ok (.imul, 1) := by decide +kernel
theorem dX12_remember_126 : decode cX12_remember 126 = .ok (.dup2, 1) := by decide +kernel
theorem dX12_remember_127 : decode cX12_remember 127 = .ok (.laload, 1) := by decide +kernel
theorem dX12_remember_128 : decode cX12_remember 128 = .ok (.lconst 1, 1) := by decide +kernel
theorem dX12_remember_129 : decode cX12_remember 129 = .ok (.ladd, 1) := by decide +kernel
theorem dX12_remember_130 : decode cX12_remember 130 = .ok (.lastore, 1) := by decide +kernel
theorem dX12_remember_131 : decode cX12_remember 131 = .ok (.aload_n 0, 1) := by decide +kernel
theorem dX12_remember_132 : decode cX12_remember 132 = .ok (.getfield 85, 3) := by decide +kernel
theorem dX12_remember_135 : decode cX12_remember 135 = .ok (.iconst 2, 1) := by decide +kernel
theorem dX12_remember_136 : decode cX12_remember 136 = .ok (.iload 6, 2) := by decide +kernel
theorem dX12_remember_138 : decode cX12_remember 138 = .ok (.imul, 1) := by decide +kernel
theorem dX12_remember_139 : decode cX12_remember 139 = .ok (.iconst 1, 1) := by decide +kernel
theorem dX12_remember_140 : decode cX12_remember 140 = .ok (.iadd, 1) := by decide +kernel
theorem dX12_remember_141 : decode cX12_remember 141 = .ok (.dup2, 1) := by decide +kernel
theorem dX12_remember_142 : decode cX12_remember 142 = .ok (.laload, 1) := by decide +kernel
theorem dX12_remember_143 : decode cX12_remember 143 = .ok (.iload 5, 2) := by decide +kernel
theorem dX12_remember_145 : decode cX12_remember 145 = .ok (.i2l, 1) := by decide +kernel
theorem dX12_remember_146 : decode cX12_remember 146 = .ok (.ladd, 1) := by decide +kernel
theorem dX12_remember_147 : decode cX12_remember 147 = .ok (.lastore, 1) := by decide +kernel
theorem dX12_remember_148 : decode cX12_remember 148 = .ok (.return_, 1) := by decide +kernel
set_option maxHeartbeats 4000000 in
set_option maxRecDepth 100000 in
theorem r_isSame_23 (G : EnvG) (l : Launch) (Φ : Hm) (sz x : Nat) (rd : (Nat → Int32) → Prop) (nw : (Nat → Int32) → Prop) (fl : Nat) (pe : Nat) (le : Nat) (nx : Nat) (il : Nat) (qu : Nat) (kn : Int32) (ec : Int32) (nu : Int32) (va : Int64) (st : Nat) (ep : Int32) (ti : Int32) (ad : Int32) (ob : Int64) (i : Nat) (a : Int64) (b : Int64) (d : Int64) (f : Int64) (hx : G.2.2.2 ≤ x) (hI : Im G x (rd, nw, fl, pe, le, nx, il, qu, kn, ec, nu, va, st, ep, ti, ad, ob) Φ) (hi : i < 24) (hnw : ∀ f9 : Nat → Int32, nw f9 → NN f9) : Ct G l yX12_isSame wsX12_isSame ({ frames := 0, cells := 0, slots := 0, locals := 0 }) 0 0 [.ref (x + 23), .int (nI i), .long a, .long b, .long d, .long f] Φ sz (fun v Φ1 sz1 => (∃ r9 : Int32, v = some (.int r9) ∧ (r9 = 0 ∨ r9 = 1)) ∧ sz1 = sz ∧ (Im G x (rd, nw, fl, pe, le, nx, il, qu, kn, ec, nu, va, st, ep, ti, ad, ob) Φ1) ∧ Fr x (fun j9 => False) Φ Φ1) := by
  refine Ct.of (cc := cX12_isSame) (maxL := 10) (ret := (some .boolean)) (by decide) rfl (Nat.le_of_ble_eq_true rfl) ?_
  intro p9 e9 s9 m9 w9 t9 k9 B
  show Z p9 l e9 _ s9 m9 _ w9 t9 k9 _ G 10 0 [(0, .ref (x + 23)), (1, .int (nI i)), (2, .long a), (4, .long b), (6, .long d), (8, .long f)] [] Φ sz 0 0
  refine z_aload_n B dX12_isSame_0 rfl 0 rfl ?_
  refine z_iconst (v := 4) B dX12_isSame_1 rfl ?_
  refine z_iload_n B dX12_isSame_2 rfl 1 rfl ?_
  refine z_imul B dX12_isSame_3 ?_
  refine z_top (st1 := [.int (nI (4 * i)), .ref (x + 23)]) (congrArg (fun w9 : Int32 => ([.int w9, .ref (x + 23)] : List Value)) (nI_mul 4 i)) ?_
  obtain ⟨f_1, h_1⟩ := imk (k := 23) hI
  have h_2 : Φ (x + 23) = some (ai_ G 96 f_1) := h_1
  refine z_iald B h_2 (vp_in_nI (by omega) (by omega)) dX12_isSame_4 ?_
  refine z_fi (fun v_1 => ?_)
  refine z_i2l (v := v_1.toInt64) B dX12_isSame_5 rfl ?_
  refine z_lload_n B dX12_isSame_6 rfl 2 rfl ?_
  refine z_lcmp B dX12_isSame_7 ?_
  refine z_fi (fun v_2 => ?_)
  refine z_if_ne (tgt := 57) B dX12_isSame_8 rfl (fun c_1 => ?_) (fun c_1 => ?_)
  · refine z_iconst (v := 0) B dX12_isSame_57 rfl ?_
    exact z_ret_z B dX12_isSame_58 (by decide) ⟨⟨_, rfl, by decide⟩, rfl, hI, (fun b9 h9 => rfl)⟩
  · refine z_aload_n B dX12_isSame_11 rfl 0 rfl ?_
    refine z_iconst (v := 4) B dX12_isSame_12 rfl ?_
    refine z_iload_n B dX12_isSame_13 rfl 1 rfl ?_
    refine z_imul B dX12_isSame_14 ?_
    refine z_top (st1 := [.int (nI (4 * i)), .ref (x + 23)]) (congrArg (fun w9 : Int32 => ([.int w9, .ref (x + 23)] : List Value)) (nI_mul 4 i)) ?_
    refine z_iconst (v := 1) B dX12_isSame_15 rfl ?_
    refine z_iadd B dX12_isSame_16 ?_
    refine z_top (st1 := [.int (nI (4 * i + 1)), .ref (x + 23)]) (congrArg (fun w9 : Int32 => ([.int w9, .ref (x + 23)] : List Value)) (nI_add (4 * i) 1)) ?_
    refine z_iald B h_2 (vp_in_nI (by omega) (by omega)) dX12_isSame_17 ?_
    refine z_fi (fun v_3 => ?_)
    refine z_i2l (v := v_3.toInt64) B dX12_isSame_18 rfl ?_
    refine z_lload B dX12_isSame_19 3 rfl ?_
    refine z_lcmp B dX12_isSame_21 ?_
    refine z_fi (fun v_4 => ?_)
    refine z_if_ne (tgt := 57) B dX12_isSame_22 rfl (fun c_2 => ?_) (fun c_2 => ?_)
    · refine z_iconst (v := 0) B dX12_isSame_57 rfl ?_
      exact z_ret_z B dX12_isSame_58 (by decide) ⟨⟨_, rfl, by decide⟩, rfl, hI, (fun b9 h9 => rfl)⟩
    · refine z_aload_n B dX12_isSame_25 rfl 0 rfl ?_
      refine z_iconst (v := 4) B dX12_isSame_26 rfl ?_
      refine z_iload_n B dX12_isSame_27 rfl 1 rfl ?_
      refine z_imul B dX12_isSame_28 ?_
      refine z_top (st1 := [.int (nI (4 * i)), .ref (x + 23)]) (congrArg (fun w9 : Int32 => ([.int w9, .ref (x + 23)] : List Value)) (nI_mul 4 i)) ?_
      refine z_iconst (v := 2) B dX12_isSame_29 rfl ?_
      refine z_iadd B dX12_isSame_30 ?_
      refine z_top (st1 := [.int (nI (4 * i + 2)), .ref (x + 23)]) (congrArg (fun w9 : Int32 => ([.int w9, .ref (x + 23)] : List Value)) (nI_add (4 * i) 2)) ?_
      refine z_iald B h_2 (vp_in_nI (by omega) (by omega)) dX12_isSame_31 ?_
      refine z_fi (fun v_5 => ?_)
      refine z_i2l (v := v_5.toInt64) B dX12_isSame_32 rfl ?_
      refine z_lload B dX12_isSame_33 4 rfl ?_
      refine z_lcmp B dX12_isSame_35 ?_
      refine z_fi (fun v_6 => ?_)
      refine z_if_ne (tgt := 57) B dX12_isSame_36 rfl (fun c_3 => ?_) (fun c_3 => ?_)
      · refine z_iconst (v := 0) B dX12_isSame_57 rfl ?_
        exact z_ret_z B dX12_isSame_58 (by decide) ⟨⟨_, rfl, by decide⟩, rfl, hI, (fun b9 h9 => rfl)⟩
      · refine z_aload_n B dX12_isSame_39 rfl 0 rfl ?_
        refine z_iconst (v := 4) B dX12_isSame_40 rfl ?_
        refine z_iload_n B dX12_isSame_41 rfl 1 rfl ?_
        refine z_imul B dX12_isSame_42 ?_
        refine z_top (st1 := [.int (nI (4 * i)), .ref (x + 23)]) (congrArg (fun w9 : Int32 => ([.int w9, .ref (x + 23)] : List Value)) (nI_mul 4 i)) ?_
        refine z_iconst (v := 3) B dX12_isSame_43 rfl ?_
        refine z_iadd B dX12_isSame_44 ?_
        refine z_top (st1 := [.int (nI (4 * i + 3)), .ref (x + 23)]) (congrArg (fun w9 : Int32 => ([.int w9, .ref (x + 23)] : List Value)) (nI_add (4 * i) 3)) ?_
        refine z_iald B h_2 (vp_in_nI (by omega) (by omega)) dX12_isSame_45 ?_
        refine z_fi (fun v_7 => ?_)
        refine z_i2l (v := v_7.toInt64) B dX12_isSame_46 rfl ?_
        refine z_lload B dX12_isSame_47 5 rfl ?_
        refine z_lcmp B dX12_isSame_49 ?_
        refine z_fi (fun v_8 => ?_)
        refine z_if_ne (tgt := 57) B dX12_isSame_50 rfl (fun c_4 => ?_) (fun c_4 => ?_)
        · refine z_iconst (v := 0) B dX12_isSame_57 rfl ?_
          exact z_ret_z B dX12_isSame_58 (by decide) ⟨⟨_, rfl, by decide⟩, rfl, hI, (fun b9 h9 => rfl)⟩
        · refine z_iconst (v := 1) B dX12_isSame_53 rfl ?_
          refine z_goto (tgt := 58) B dX12_isSame_54 rfl ?_
          exact z_ret_z B dX12_isSame_58 (by decide) ⟨⟨_, rfl, by decide⟩, rfl, hI, (fun b9 h9 => rfl)⟩

theorem hu_X12_trueKeyOf_X12 : ∀ w ∈ u_ws RX12 TX12 54, w ∈ wsX12_trueKeyOf := fun _ h => List.mem_cons_of_mem _ (List.mem_append_left _ (List.mem_append_right _ (h)))

theorem hv_X12_trueKeyOf_145 : Cond.fieldLink RX12 145 "FlowExporterModel" (TX12 44).2.1 (TX12 44).2.2.1 ∈ wsX12_trueKeyOf := List.mem_cons_of_mem _ (List.mem_append_left _ (List.mem_append_left _ (List.mem_of_getElem? (i := 0) rfl)))

theorem hv_X12_trueKeyOf_82 : Cond.fieldLink RX12 82 "FlowExporterModel" (TX12 42).2.1 (TX12 42).2.2.1 ∈ wsX12_trueKeyOf := List.mem_cons_of_mem _ (List.mem_append_left _ (List.mem_append_left _ (List.mem_of_getElem? (i := 1) rfl)))

set_option maxHeartbeats 4000000 in
set_option maxRecDepth 100000 in
theorem r_trueKeyOf (G : EnvG) (l : Launch) (Φ : Hm) (sz x : Nat) (rd : (Nat → Int32) → Prop) (nw : (Nat → Int32) → Prop) (fl : Nat) (pe : Nat) (le : Nat) (nx : Nat) (il : Nat) (qu : Nat) (kn : Int32) (ec : Int32) (nu : Int32) (va : Int64) (st : Nat) (ep : Int32) (ti : Int32) (ad : Int32) (ob : Int64) (a : Int32) (b : Int32) (d : Int32) (f : Int32) (hx : G.2.2.2 ≤ x) (hI : Im G x (rd, nw, fl, pe, le, nx, il, qu, kn, ec, nu, va, st, ep, ti, ad, ob) Φ) (hnw : ∀ f9 : Nat → Int32, nw f9 → NN f9) : Ct G l yX12_trueKeyOf wsX12_trueKeyOf ({ frames := 1, cells := 0, slots := 0, locals := 29 }) 0 0 [.ref x, .int a, .int b, .int d, .int f] Φ sz (fun v Φ1 sz1 => (v = some (.int (-1)) ∨ ∃ n9 : Nat, n9 < 24 ∧ v = some (.int (nI n9))) ∧ sz1 = sz ∧ (Im G x (rd, nw, fl, pe, le, nx, il, qu, kn, ec, nu, va, st, ep, ti, ad, ob) Φ1) ∧ Fr x (fun j9 => False) Φ Φ1) := by
  refine Ct.of (cc := cX12_trueKeyOf) (maxL := 6) (ret := (some .int)) (by decide) rfl (Nat.le_of_ble_eq_true rfl) ?_
  intro p9 e9 s9 m9 w9 t9 k9 B
  show Z p9 l e9 _ s9 m9 _ w9 t9 k9 _ G 6 0 [(0, .ref x), (1, .int a), (2, .int b), (3, .int d), (4, .int f)] [] Φ sz 0 0
  refine z_iconst (v := 0) B dX12_trueKeyOf_0 rfl ?_
  refine z_istore (lv' := [(5, .int 0), (0, .ref x), (1, .int a), (2, .int b), (3, .int d), (4, .int f)]) B dX12_trueKeyOf_1 (Nat.le_of_ble_eq_true rfl) rfl ?_
  refine z_lv [0, 1, 2, 3, 4, 5] rfl ?_
  refine z_loop (α := Nat) (fun (a9 : Nat) Φi => Im G x (rd, nw, fl, pe, le, nx, il, qu, kn, ec, nu, va, st, ep, ti, ad, ob) Φi ∧ Fr x (fun j9 => False) Φ Φi ∧ (a9 ≤ 24) ∧ True) (fun a9 => [(5, .int (nI a9)), (0, .ref x), (1, .int a), (2, .int b), (3, .int d), (4, .int f)]) (fun a9 => 24 - a9) ?_ (0) ⟨hI, fun _ _ => rfl, (show 0 ≤ 24 by omega), trivial⟩
  rintro i_1 Φl1 ⟨hI1, hF1, b_1, -⟩ ih1
  replace hI1 : Im G x (rd, nw, fl, pe, le, nx, il, qu, kn, ec, nu, va, st, ep, ti, ad, ob) Φl1 := hI1
  replace b_1 : i_1 ≤ 24 := b_1
  show Z p9 l e9 _ s9 m9 _ w9 t9 k9 _ G 6 3 [(5, .int (nI i_1)), (0, .ref x), (1, .int a), (2, .int b), (3, .int d), (4, .int f)] [] Φl1 _ _ _
  refine z_iload B dX12_trueKeyOf_3 0 rfl ?_
  refine z_aload_n B dX12_trueKeyOf_5 rfl 1 rfl ?_
  obtain ⟨v_1, v_2, n_1, v_3, v_4, v_5, v_6, v_7, v_8, v_9, n_2, v_10, n_3, n_4, h_1, b_14, b_2, b_3, b_4, b_5, b_6, b_7, b_8, b_9, b_10, b_11, b_12, b_13⟩ := im0 hI1
  replace b_2 : 1 ≤ n_1 := b_2
  replace b_3 : n_1 ≤ 1024 := b_3
  replace b_4 : fl ≤ 12 := b_4
  replace b_5 : pe ≤ 24 := b_5
  replace b_6 : le ≤ 700 := b_6
  replace b_7 : qu ≤ 12 := b_7
  replace b_8 : n_2 ≤ 8 := b_8
  replace b_9 : n_3 ≤ 24 := b_9
  replace b_10 : n_4 ≤ 24 := b_10
  replace b_11 : il ≤ 700 := b_11
  replace b_12 : nx ≤ 701 := b_12
  replace b_13 : st ≤ 701 := b_13
  have h_2 : Φl1 x = some (o_ 14 [.int v_1, .ref (x + 1), .ref (x + 2), .int ti, .int v_2, .int (nI n_1), .int v_3, .int ad, .ref (x + 3), .ref (x + 4), .int v_4, .long v_5, .ref (x + 5), .int (nI fl), .int v_6, .long ob, .long v_7, .long v_8, .long v_9, .ref (x + 6), .ref (x + 7), .int (nI pe), .ref (x + 8), .int (nI le), .ref (x + 9), .ref (x + 10), .int (nI qu), .ref (x + 11), .ref (x + 12), .ref (x + 13), .ref (x + 14), .ref (x + 15), .ref (x + 16), .int (nI n_2), .long v_10, .ref (x + 17), .ref (x + 18), .ref (x + 19), .ref (x + 20), .ref (x + 21), .ref (x + 22), .int (nI n_3), .ref (x + 23), .ref (x + 24), .int (nI n_4), .ref (x + 25), .int (nI il), .int (nI nx), .int ec, .int ep, .int kn, .int (nI st), .int nu, .long va]) := h_1
  refine z_get (ref := "FlowExporterModel") (C := RX12) (T := TX12) (N := 54) (ci := 14) (v := .int (nI n_4)) B hu_X12_trueKeyOf_X12 rfl 44 (Nat.le_of_ble_eq_true rfl) hv_X12_trueKeyOf_145 rfl h_2 rfl dX12_trueKeyOf_6 ?_
  refine z_icmp_ge (tgt := 42) B dX12_trueKeyOf_9 rfl (fun c_1 => ?_) (fun c_1 => ?_)
  · have e_1 : n_4 ≤ i_1 := (nI_leI (a := n_4) (b := i_1) (by omega) (by omega)).mp c_1
    refine z_iconst (v := (-1)) B dX12_trueKeyOf_42 rfl ?_
    exact z_ret_i B dX12_trueKeyOf_43 ⟨(Or.inl rfl), rfl, hI1, (fun b9 h9 => ((hF1 b9 (fun j9 h8 h7 => (show False from h7).elim)).trans rfl))⟩
  · have e_2 : ¬ (n_4 ≤ i_1) := fun h9 => c_1 ((nI_leI (a := n_4) (b := i_1) (by omega) (by omega)).mpr h9)
    refine z_aload_n B dX12_trueKeyOf_12 rfl 1 rfl ?_
    refine z_get (ref := "FlowExporterModel") (C := RX12) (T := TX12) (N := 54) (ci := 14) (v := .ref (x + 23)) B hu_X12_trueKeyOf_X12 rfl 42 (Nat.le_of_ble_eq_true rfl) hv_X12_trueKeyOf_82 rfl h_2 rfl dX12_trueKeyOf_13 ?_
    refine z_iload B dX12_trueKeyOf_16 0 rfl ?_
    refine z_iload_n B dX12_trueKeyOf_18 rfl 2 rfl ?_
    refine z_i2l (v := a.toInt64) B dX12_trueKeyOf_19 rfl ?_
    refine z_iload_n B dX12_trueKeyOf_20 rfl 3 rfl ?_
    refine z_i2l (v := b.toInt64) B dX12_trueKeyOf_21 rfl ?_
    refine z_iload_n B dX12_trueKeyOf_22 rfl 4 rfl ?_
    refine z_i2l (v := d.toInt64) B dX12_trueKeyOf_23 rfl ?_
    refine z_iload B dX12_trueKeyOf_24 5 rfl ?_
    refine z_i2l (v := f.toInt64) B dX12_trueKeyOf_26 rfl ?_
    refine z_callS (As := [.ref (x + 23), .int (nI i_1), .long a.toInt64, .long b.toInt64, .long d.toInt64, .long f.toInt64]) (rest := []) B (r_isSame_23 G l Φl1 sz x rd nw fl pe le nx il qu kn ec nu va st ep ti ad ob i_1 a.toInt64 b.toInt64 d.toInt64 f.toInt64 hx hI1 (show i_1 < 24 by omega) hnw) (va_cwS 6 B.1.2.2.2.2 gX12_trueKeyOf_X12_isSame rfl rfl rfl (by decide +kernel) ⟨Nat.le_of_ble_eq_true rfl, Nat.le_of_ble_eq_true rfl⟩) rfl rfl (Nat.le_of_ble_eq_true rfl) dX12_trueKeyOf_27 ⟨Nat.le_of_ble_eq_true rfl, Nat.le_of_ble_eq_true rfl⟩ (fun r_1 Φ1 sz1 st1 hp1 hs1 => ?_)
    obtain ⟨⟨v_11, rfl, b_15⟩, hq1, hI2, hF2⟩ := hp1
    subst sz1
    replace hs1 : st1 = [.int v_11] := hs1
    subst st1
    replace hI2 : Im G x (rd, nw, fl, pe, le, nx, il, qu, kn, ec, nu, va, st, ep, ti, ad, ob) Φ1 := hI2
    refine z_if_eq (tgt := 36) B dX12_trueKeyOf_30 rfl (fun c_2 => ?_) (fun c_2 => ?_)
    · refine z_iinc (k := 0) (v := nI (i_1 + 1)) (lv' := [(5, .int (nI (i_1 + 1))), (0, .ref x), (1, .int a), (2, .int b), (3, .int d), (4, .int f)]) B dX12_trueKeyOf_36 rfl (nI_add i_1 1) (Nat.le_of_ble_eq_true rfl) rfl ?_
      refine z_goto (tgt := 3) B dX12_trueKeyOf_39 rfl ?_
      refine z_lv [0, 1, 2, 3, 4, 5] rfl ?_
      exact ih1 (i_1 + 1) Φ1 (show 24 - (i_1 + 1) < 24 - i_1 by omega) ⟨hI2, (fun b9 h9 => ((hF2 b9 (fun j9 h8 h7 => (show False from h7).elim)).trans ((hF1 b9 (fun j9 h8 h7 => (show False from h7).elim)).trans rfl))), (show (i_1 + 1) ≤ 24 by omega), trivial⟩
    · refine z_iload B dX12_trueKeyOf_33 0 rfl ?_
      exact z_ret_i B dX12_trueKeyOf_35 ⟨(Or.inr ⟨i_1, (show i_1 < 24 by omega), rfl⟩), rfl, hI2, (fun b9 h9 => ((hF2 b9 (fun j9 h8 h7 => (show False from h7).elim)).trans ((hF1 b9 (fun j9 h8 h7 => (show False from h7).elim)).trans rfl)))⟩

theorem hu_X12_keyOf_X12 : ∀ w ∈ u_ws RX12 TX12 54, w ∈ wsX12_keyOf := fun _ h => List.mem_cons_of_mem _ (List.mem_append_left _ (List.mem_append_right _ (h)))

theorem hv_X12_keyOf_148 : Cond.fieldLink RX12 148 "FlowExporterModel" (TX12 41).2.1 (TX12 41).2.2.1 ∈ wsX12_keyOf := List.mem_cons_of_mem _ (List.mem_append_left _ (List.mem_append_left _ (List.mem_of_getElem? (i := 0) rfl)))

theorem hv_X12_keyOf_69 : Cond.fieldLink RX12 69 "FlowExporterModel" (TX12 37).2.1 (TX12 37).2.2.1 ∈ wsX12_keyOf := List.mem_cons_of_mem _ (List.mem_append_left _ (List.mem_append_left _ (List.mem_of_getElem? (i := 1) rfl)))

set_option maxHeartbeats 4000000 in
set_option maxRecDepth 100000 in
theorem r_keyOf (G : EnvG) (l : Launch) (Φ : Hm) (sz x : Nat) (rd : (Nat → Int32) → Prop) (nw : (Nat → Int32) → Prop) (fl : Nat) (pe : Nat) (le : Nat) (nx : Nat) (il : Nat) (qu : Nat) (kn : Int32) (ec : Int32) (nu : Int32) (va : Int64) (st : Nat) (ep : Int32) (ti : Int32) (ad : Int32) (ob : Int64) (a : Int64) (b : Int64) (d : Int64) (f : Int64) (hx : G.2.2.2 ≤ x) (hI : Im G x (rd, nw, fl, pe, le, nx, il, qu, kn, ec, nu, va, st, ep, ti, ad, ob) Φ) (hnw : ∀ f9 : Nat → Int32, nw f9 → NN f9) : Ct G l yX12_keyOf wsX12_keyOf ({ frames := 1, cells := 0, slots := 0, locals := 29 }) 0 0 [.ref x, .long a, .long b, .long d, .long f] Φ sz (fun v Φ1 sz1 => (v = some (.int (-1)) ∨ ∃ n9 : Nat, n9 < 24 ∧ v = some (.int (nI n9))) ∧ sz1 = sz ∧ (Im G x (rd, nw, fl, pe, le, nx, il, qu, kn, ec, nu, va, st, ep, ti, ad, ob) Φ1) ∧ Fr x (fun j9 => False) Φ Φ1) := by
  refine Ct.of (cc := cX12_keyOf) (maxL := 10) (ret := (some .int)) (by decide) rfl (Nat.le_of_ble_eq_true rfl) ?_
  intro p9 e9 s9 m9 w9 t9 k9 B
  show Z p9 l e9 _ s9 m9 _ w9 t9 k9 _ G 10 0 [(0, .ref x), (1, .long a), (3, .long b), (5, .long d), (7, .long f)] [] Φ sz 0 0
  refine z_iconst (v := 0) B dX12_keyOf_0 rfl ?_
  refine z_istore (lv' := [(9, .int 0), (0, .ref x), (1, .long a), (3, .long b), (5, .long d), (7, .long f)]) B dX12_keyOf_1 (Nat.le_of_ble_eq_true rfl) rfl ?_
  refine z_lv [0, 1, 2, 3, 4, 5] rfl ?_
  refine z_loop (α := Nat) (fun (a9 : Nat) Φi => Im G x (rd, nw, fl, pe, le, nx, il, qu, kn, ec, nu, va, st, ep, ti, ad, ob) Φi ∧ Fr x (fun j9 => False) Φ Φi ∧ (a9 ≤ 24) ∧ True) (fun a9 => [(9, .int (nI a9)), (0, .ref x), (1, .long a), (3, .long b), (5, .long d), (7, .long f)]) (fun a9 => 24 - a9) ?_ (0) ⟨hI, fun _ _ => rfl, (show 0 ≤ 24 by omega), trivial⟩
  rintro i_1 Φl1 ⟨hI1, hF1, b_1, -⟩ ih1
  replace hI1 : Im G x (rd, nw, fl, pe, le, nx, il, qu, kn, ec, nu, va, st, ep, ti, ad, ob) Φl1 := hI1
  replace b_1 : i_1 ≤ 24 := b_1
  show Z p9 l e9 _ s9 m9 _ w9 t9 k9 _ G 10 3 [(9, .int (nI i_1)), (0, .ref x), (1, .long a), (3, .long b), (5, .long d), (7, .long f)] [] Φl1 _ _ _
  refine z_iload B dX12_keyOf_3 0 rfl ?_
  refine z_aload_n B dX12_keyOf_5 rfl 1 rfl ?_
  obtain ⟨v_1, v_2, n_1, v_3, v_4, v_5, v_6, v_7, v_8, v_9, n_2, v_10, n_3, n_4, h_1, b_14, b_2, b_3, b_4, b_5, b_6, b_7, b_8, b_9, b_10, b_11, b_12, b_13⟩ := im0 hI1
  replace b_2 : 1 ≤ n_1 := b_2
  replace b_3 : n_1 ≤ 1024 := b_3
  replace b_4 : fl ≤ 12 := b_4
  replace b_5 : pe ≤ 24 := b_5
  replace b_6 : le ≤ 700 := b_6
  replace b_7 : qu ≤ 12 := b_7
  replace b_8 : n_2 ≤ 8 := b_8
  replace b_9 : n_3 ≤ 24 := b_9
  replace b_10 : n_4 ≤ 24 := b_10
  replace b_11 : il ≤ 700 := b_11
  replace b_12 : nx ≤ 701 := b_12
  replace b_13 : st ≤ 701 := b_13
  have h_2 : Φl1 x = some (o_ 14 [.int v_1, .ref (x + 1), .ref (x + 2), .int ti, .int v_2, .int (nI n_1), .int v_3, .int ad, .ref (x + 3), .ref (x + 4), .int v_4, .long v_5, .ref (x + 5), .int (nI fl), .int v_6, .long ob, .long v_7, .long v_8, .long v_9, .ref (x + 6), .ref (x + 7), .int (nI pe), .ref (x + 8), .int (nI le), .ref (x + 9), .ref (x + 10), .int (nI qu), .ref (x + 11), .ref (x + 12), .ref (x + 13), .ref (x + 14), .ref (x + 15), .ref (x + 16), .int (nI n_2), .long v_10, .ref (x + 17), .ref (x + 18), .ref (x + 19), .ref (x + 20), .ref (x + 21), .ref (x + 22), .int (nI n_3), .ref (x + 23), .ref (x + 24), .int (nI n_4), .ref (x + 25), .int (nI il), .int (nI nx), .int ec, .int ep, .int kn, .int (nI st), .int nu, .long va]) := h_1
  refine z_get (ref := "FlowExporterModel") (C := RX12) (T := TX12) (N := 54) (ci := 14) (v := .int (nI n_3)) B hu_X12_keyOf_X12 rfl 41 (Nat.le_of_ble_eq_true rfl) hv_X12_keyOf_148 rfl h_2 rfl dX12_keyOf_6 ?_
  refine z_icmp_ge (tgt := 39) B dX12_keyOf_9 rfl (fun c_1 => ?_) (fun c_1 => ?_)
  · have e_1 : n_3 ≤ i_1 := (nI_leI (a := n_3) (b := i_1) (by omega) (by omega)).mp c_1
    refine z_iconst (v := (-1)) B dX12_keyOf_39 rfl ?_
    exact z_ret_i B dX12_keyOf_40 ⟨(Or.inl rfl), rfl, hI1, (fun b9 h9 => ((hF1 b9 (fun j9 h8 h7 => (show False from h7).elim)).trans rfl))⟩
  · have e_2 : ¬ (n_3 ≤ i_1) := fun h9 => c_1 ((nI_leI (a := n_3) (b := i_1) (by omega) (by omega)).mpr h9)
    refine z_aload_n B dX12_keyOf_12 rfl 1 rfl ?_
    refine z_get (ref := "FlowExporterModel") (C := RX12) (T := TX12) (N := 54) (ci := 14) (v := .ref (x + 19)) B hu_X12_keyOf_X12 rfl 37 (Nat.le_of_ble_eq_true rfl) hv_X12_keyOf_69 rfl h_2 rfl dX12_keyOf_13 ?_
    refine z_iload B dX12_keyOf_16 0 rfl ?_
    refine z_lload_n B dX12_keyOf_18 rfl 2 rfl ?_
    refine z_lload_n B dX12_keyOf_19 rfl 3 rfl ?_
    refine z_lload B dX12_keyOf_20 4 rfl ?_
    refine z_lload B dX12_keyOf_22 5 rfl ?_
    refine z_callS (As := [.ref (x + 19), .int (nI i_1), .long a, .long b, .long d, .long f]) (rest := []) B (r_isSame_19 G l Φl1 sz x rd nw fl pe le nx il qu kn ec nu va st ep ti ad ob i_1 a b d f hx hI1 (show i_1 < 24 by omega) hnw) (va_cwS 6 B.1.2.2.2.2 gX12_keyOf_X12_isSame rfl rfl rfl (by decide +kernel) ⟨Nat.le_of_ble_eq_true rfl, Nat.le_of_ble_eq_true rfl⟩) rfl rfl (Nat.le_of_ble_eq_true rfl) dX12_keyOf_24 ⟨Nat.le_of_ble_eq_true rfl, Nat.le_of_ble_eq_true rfl⟩ (fun r_1 Φ1 sz1 st1 hp1 hs1 => ?_)
    obtain ⟨⟨v_11, rfl, b_15⟩, hq1, hI2, hF2⟩ := hp1
    subst sz1
    replace hs1 : st1 = [.int v_11] := hs1
    subst st1
    replace hI2 : Im G x (rd, nw, fl, pe, le, nx, il, qu, kn, ec, nu, va, st, ep, ti, ad, ob) Φ1 := hI2
    refine z_if_eq (tgt := 33) B dX12_keyOf_27 rfl (fun c_2 => ?_) (fun c_2 => ?_)
    · refine z_iinc (k := 0) (v := nI (i_1 + 1)) (lv' := [(9, .int (nI (i_1 + 1))), (0, .ref x), (1, .long a), (3, .long b), (5, .long d), (7, .long f)]) B dX12_keyOf_33 rfl (nI_add i_1 1) (Nat.le_of_ble_eq_true rfl) rfl ?_
      refine z_goto (tgt := 3) B dX12_keyOf_36 rfl ?_
      refine z_lv [0, 1, 2, 3, 4, 5] rfl ?_
      exact ih1 (i_1 + 1) Φ1 (show 24 - (i_1 + 1) < 24 - i_1 by omega) ⟨hI2, (fun b9 h9 => ((hF2 b9 (fun j9 h8 h7 => (show False from h7).elim)).trans ((hF1 b9 (fun j9 h8 h7 => (show False from h7).elim)).trans rfl))), (show (i_1 + 1) ≤ 24 by omega), trivial⟩
    · refine z_iload B dX12_keyOf_30 0 rfl ?_
      exact z_ret_i B dX12_keyOf_32 ⟨(Or.inr ⟨i_1, (show i_1 < 24 by omega), rfl⟩), rfl, hI2, (fun b9 h9 => ((hF2 b9 (fun j9 h8 h7 => (show False from h7).elim)).trans ((hF1 b9 (fun j9 h8 h7 => (show False from h7).elim)).trans rfl)))⟩

theorem hu_X12_remember_X12 : ∀ w ∈ u_ws RX12 TX12 54, w ∈ wsX12_remember := fun _ h => List.mem_cons_of_mem _ (List.mem_append_left _ (List.mem_append_right _ (h)))

theorem hv_X12_remember_145 : Cond.fieldLink RX12 145 "FlowExporterModel" (TX12 44).2.1 (TX12 44).2.2.1 ∈ wsX12_remember := List.mem_cons_of_mem _ (List.mem_append_left _ (List.mem_append_left _ (List.mem_of_getElem? (i := 0) rfl)))

theorem hv_X12_remember_82 : Cond.fieldLink RX12 82 "FlowExporterModel" (TX12 42).2.1 (TX12 42).2.2.1 ∈ wsX12_remember := List.mem_cons_of_mem _ (List.mem_append_left _ (List.mem_append_left _ (List.mem_of_getElem? (i := 1) rfl)))

theorem hv_X12_remember_85 : Cond.fieldLink RX12 85 "FlowExporterModel" (TX12 43).2.1 (TX12 43).2.2.1 ∈ wsX12_remember := List.mem_cons_of_mem _ (List.mem_append_left _ (List.mem_append_left _ (List.mem_of_getElem? (i := 2) rfl)))

set_option maxHeartbeats 4000000 in
set_option maxRecDepth 100000 in
theorem r_remember (G : EnvG) (l : Launch) (Φ : Hm) (sz x : Nat) (rd : (Nat → Int32) → Prop) (nw : (Nat → Int32) → Prop) (fl : Nat) (pe : Nat) (le : Nat) (nx : Nat) (il : Nat) (qu : Nat) (kn : Int32) (ec : Int32) (nu : Int32) (va : Int64) (st : Nat) (ep : Int32) (ti : Int32) (ad : Int32) (ob : Int64) (a : Int32) (b : Int32) (d : Int32) (f : Int32) (g : Int32) (hx : G.2.2.2 ≤ x) (hI : Im G x (rd, nw, fl, pe, le, nx, il, qu, kn, ec, nu, va, st, ep, ti, ad, ob) Φ) (hnw : ∀ f9 : Nat → Int32, nw f9 → NN f9) : Ct G l yX12_remember wsX12_remember ({ frames := 2, cells := 0, slots := 0, locals := 54 }) 0 0 [.ref x, .int a, .int b, .int d, .int f, .int g] Φ sz (fun v Φ1 sz1 => (v = none) ∧ sz1 = sz ∧ (Im G x (rd, nw, fl, pe, le, nx, il, qu, kn, ec, nu, va, st, ep, ti, ad, ob) Φ1) ∧ Fr x (fun j9 => j9 = 0 ∨ j9 = 23 ∨ j9 = 24) Φ Φ1) := by
  refine Ct.of (cc := cX12_remember) (maxL := 7) (ret := none) (by decide) rfl (Nat.le_of_ble_eq_true rfl) ?_
  intro p9 e9 s9 m9 w9 t9 k9 B
  show Z p9 l e9 _ s9 m9 _ w9 t9 k9 _ G 7 0 [(0, .ref x), (1, .int a), (2, .int b), (3, .int d), (4, .int f), (5, .int g)] [] Φ sz 0 0
  refine z_aload_n B dX12_remember_0 rfl 0 rfl ?_
  refine z_iload_n B dX12_remember_1 rfl 1 rfl ?_
  refine z_iload_n B dX12_remember_2 rfl 2 rfl ?_
  refine z_iload_n B dX12_remember_3 rfl 3 rfl ?_
  refine z_iload B dX12_remember_4 4 rfl ?_
  obtain ⟨v_1, v_2, n_1, v_3, v_4, v_5, v_6, v_7, v_8, v_9, n_2, v_10, n_3, n_4, h_1, b_13, b_1, b_2, b_3, b_4, b_5, b_6, b_7, b_8, b_9, b_10, b_11, b_12⟩ := im0 hI
  replace b_1 : 1 ≤ n_1 := b_1
  replace b_2 : n_1 ≤ 1024 := b_2
  replace b_3 : fl ≤ 12 := b_3
  replace b_4 : pe ≤ 24 := b_4
  replace b_5 : le ≤ 700 := b_5
  replace b_6 : qu ≤ 12 := b_6
  replace b_7 : n_2 ≤ 8 := b_7
  replace b_8 : n_3 ≤ 24 := b_8
  replace b_9 : n_4 ≤ 24 := b_9
  replace b_10 : il ≤ 700 := b_10
  replace b_11 : nx ≤ 701 := b_11
  replace b_12 : st ≤ 701 := b_12
  have h_2 : Φ x = some (o_ 14 [.int v_1, .ref (x + 1), .ref (x + 2), .int ti, .int v_2, .int (nI n_1), .int v_3, .int ad, .ref (x + 3), .ref (x + 4), .int v_4, .long v_5, .ref (x + 5), .int (nI fl), .int v_6, .long ob, .long v_7, .long v_8, .long v_9, .ref (x + 6), .ref (x + 7), .int (nI pe), .ref (x + 8), .int (nI le), .ref (x + 9), .ref (x + 10), .int (nI qu), .ref (x + 11), .ref (x + 12), .ref (x + 13), .ref (x + 14), .ref (x + 15), .ref (x + 16), .int (nI n_2), .long v_10, .ref (x + 17), .ref (x + 18), .ref (x + 19), .ref (x + 20), .ref (x + 21), .ref (x + 22), .int (nI n_3), .ref (x + 23), .ref (x + 24), .int (nI n_4), .ref (x + 25), .int (nI il), .int (nI nx), .int ec, .int ep, .int kn, .int (nI st), .int nu, .long va]) := h_1
  refine z_callV (As := [.int a, .int b, .int d, .int f]) (rest := []) B (r_trueKeyOf G l Φ sz x rd nw fl pe le nx il qu kn ec nu va st ep ti ad ob a b d f hx hI hnw) (cwV 4 B.1.2.2.2.2 gX12_remember_X12_trueKeyOf rfl rfl rfl (by decide +kernel) ⟨Nat.le_of_ble_eq_true rfl, Nat.le_of_ble_eq_true rfl⟩) h_2 rfl rfl rfl rfl (Nat.le_of_ble_eq_true rfl) dX12_remember_6 ⟨Nat.le_of_ble_eq_true rfl, Nat.le_of_ble_eq_true rfl⟩ (fun r_1 Φ1 sz1 st1 hp1 hs1 => ?_)
  obtain ⟨ha1, hq1, hI1, hF1⟩ := hp1
  subst sz1
  replace hI1 : Im G x (rd, nw, fl, pe, le, nx, il, qu, kn, ec, nu, va, st, ep, ti, ad, ob) Φ1 := hI1
  rcases ha1 with rfl | ⟨n_5, b_14, rfl⟩
  · replace hs1 : st1 = [.int (-1)] := hs1
    subst st1
    refine z_istore (lv' := [(6, .int (-1)), (0, .ref x), (1, .int a), (2, .int b), (3, .int d), (4, .int f), (5, .int g)]) B dX12_remember_9 (Nat.le_of_ble_eq_true rfl) rfl ?_
    refine z_iload B dX12_remember_11 0 rfl ?_
    refine z_iconst (v := (-1)) B dX12_remember_13 rfl ?_
    refine z_icmp_ne (tgt := 27) B dX12_remember_14 rfl (fun h9 => absurd (by decide) h9) (fun c_1 => ?_)
    refine z_aload_n B dX12_remember_17 rfl 1 rfl ?_
    have h_3 : Φ1 x = some (o_ 14 [.int v_1, .ref (x + 1), .ref (x + 2), .int ti, .int v_2, .int (nI n_1), .int v_3, .int ad, .ref (x + 3), .ref (x + 4), .int v_4, .long v_5, .ref (x + 5), .int (nI fl), .int v_6, .long ob, .long v_7, .long v_8, .long v_9, .ref (x + 6), .ref (x + 7), .int (nI pe), .ref (x + 8), .int (nI le), .ref (x + 9), .ref (x + 10), .int (nI qu), .ref (x + 11), .ref (x + 12), .ref (x + 13), .ref (x + 14), .ref (x + 15), .ref (x + 16), .int (nI n_2), .long v_10, .ref (x + 17), .ref (x + 18), .ref (x + 19), .ref (x + 20), .ref (x + 21), .ref (x + 22), .int (nI n_3), .ref (x + 23), .ref (x + 24), .int (nI n_4), .ref (x + 25), .int (nI il), .int (nI nx), .int ec, .int ep, .int kn, .int (nI st), .int nu, .long va]) := ((hF1 x (fun j9 h8 h7 => (show False from h7).elim)).trans h_2)
    refine z_get (ref := "FlowExporterModel") (C := RX12) (T := TX12) (N := 54) (ci := 14) (v := .int (nI n_4)) B hu_X12_remember_X12 rfl 44 (Nat.le_of_ble_eq_true rfl) hv_X12_remember_145 rfl h_3 rfl dX12_remember_18 ?_
    refine z_bipush (v := 24) B dX12_remember_21 rfl ?_
    refine z_icmp_ne (tgt := 27) B dX12_remember_23 rfl (fun c_2 => ?_) (fun c_2 => ?_)
    · have e_1 : ¬ (n_4 = 24) := fun h9 => c_2 ((nI_eq (a := n_4) (b := 24) (by omega) (by omega)).mpr h9)
      refine z_iload B dX12_remember_27 0 rfl ?_
      refine z_iconst (v := (-1)) B dX12_remember_29 rfl ?_
      refine z_icmp_ne (tgt := 118) B dX12_remember_30 rfl (fun h9 => absurd (by decide) h9) (fun c_3 => ?_)
      refine z_aload_n B dX12_remember_33 rfl 1 rfl ?_
      refine z_get (ref := "FlowExporterModel") (C := RX12) (T := TX12) (N := 54) (ci := 14) (v := .int (nI n_4)) B hu_X12_remember_X12 rfl 44 (Nat.le_of_ble_eq_true rfl) hv_X12_remember_145 rfl h_3 rfl dX12_remember_34 ?_
      refine z_istore (lv' := [(6, .int (nI n_4)), (0, .ref x), (1, .int a), (2, .int b), (3, .int d), (4, .int f), (5, .int g)]) B dX12_remember_37 (Nat.le_of_ble_eq_true rfl) rfl ?_
      refine z_aload_n B dX12_remember_39 rfl 1 rfl ?_
      refine z_dup B dX12_remember_40 rfl ?_
      refine z_get (ref := "FlowExporterModel") (C := RX12) (T := TX12) (N := 54) (ci := 14) (v := .int (nI n_4)) B hu_X12_remember_X12 rfl 44 (Nat.le_of_ble_eq_true rfl) hv_X12_remember_145 rfl h_3 rfl dX12_remember_41 ?_
      refine z_iconst (v := 1) B dX12_remember_44 rfl ?_
      refine z_iadd B dX12_remember_45 ?_
      refine z_top (st1 := [.int (nI (n_4 + 1)), .ref x]) (congrArg (fun w9 : Int32 => ([.int w9, .ref x] : List Value)) (nI_add n_4 1)) ?_
      refine z_put (ref := "FlowExporterModel") (C := RX12) (T := TX12) (N := 54) (ci := 14) (v := .int (nI (n_4 + 1))) B hu_X12_remember_X12 tyX12 tyX12_ok nmX12 rfl 44 (Nat.le_of_ble_eq_true rfl) hv_X12_remember_145 rfl (Or.inl rfl) h_3 hx rfl rfl (Nat.le_of_ble_eq_true rfl) dX12_remember_46 (fun Φ2 hΦ1 => ?_)
      have h_4 : Φ2 x = some (o_ 14 [.int v_1, .ref (x + 1), .ref (x + 2), .int ti, .int v_2, .int (nI n_1), .int v_3, .int ad, .ref (x + 3), .ref (x + 4), .int v_4, .long v_5, .ref (x + 5), .int (nI fl), .int v_6, .long ob, .long v_7, .long v_8, .long v_9, .ref (x + 6), .ref (x + 7), .int (nI pe), .ref (x + 8), .int (nI le), .ref (x + 9), .ref (x + 10), .int (nI qu), .ref (x + 11), .ref (x + 12), .ref (x + 13), .ref (x + 14), .ref (x + 15), .ref (x + 16), .int (nI n_2), .long v_10, .ref (x + 17), .ref (x + 18), .ref (x + 19), .ref (x + 20), .ref (x + 21), .ref (x + 22), .int (nI n_3), .ref (x + 23), .ref (x + 24), .int (nI (n_4 + 1)), .ref (x + 25), .int (nI il), .int (nI nx), .int ec, .int ep, .int kn, .int (nI st), .int nu, .long va]) := fset_at hΦ1
      have hI2 : Im G x (rd, nw, fl, pe, le, nx, il, qu, kn, ec, nu, va, st, ep, ti, ad, ob) Φ2 := Im.put0 hI1 hΦ1 ⟨v_1, v_2, n_1, v_3, v_4, v_5, v_6, v_7, v_8, v_9, n_2, v_10, n_3, n_4 + 1, rfl, b_13, b_1, b_2, b_3, b_4, b_5, b_6, b_7, b_8, (show (n_4 + 1) ≤ 24 by omega), b_10, b_11, b_12⟩
      refine z_aload_n B dX12_remember_49 rfl 1 rfl ?_
      refine z_get (ref := "FlowExporterModel") (C := RX12) (T := TX12) (N := 54) (ci := 14) (v := .ref (x + 23)) B hu_X12_remember_X12 rfl 42 (Nat.le_of_ble_eq_true rfl) hv_X12_remember_82 rfl h_4 rfl dX12_remember_50 ?_
      refine z_iconst (v := 4) B dX12_remember_53 rfl ?_
      refine z_iload B dX12_remember_54 0 rfl ?_
      refine z_imul B dX12_remember_56 ?_
      refine z_top (st1 := [.int (nI (4 * n_4)), .ref (x + 23)]) (congrArg (fun w9 : Int32 => ([.int w9, .ref (x + 23)] : List Value)) (nI_mul 4 n_4)) ?_
      refine z_iload_n B dX12_remember_57 rfl 2 rfl ?_
      obtain ⟨f_1, h_5⟩ := imk (k := 23) hI2
      have h_6 : Φ2 (x + 23) = some (ai_ G 96 f_1) := h_5
      refine z_iast B h_6 (Nat.le_trans hx (Nat.le_add_right x 23)) (vp_in_nI (by omega) (by omega)) dX12_remember_58 (fun Φ3 hΦ2 => ?_)
      have h_7 : Φ3 (x + 23) = some (ai_ G 96 (upd f_1 (nI (4 * n_4)).toNatClampNeg a)) := fset_at hΦ2
      have hI3 : Im G x (rd, nw, fl, pe, le, nx, il, qu, kn, ec, nu, va, st, ep, ti, ad, ob) Φ3 := Im.put (k := 23) hI2 hΦ2 ⟨_, rfl⟩
      refine z_aload_n B dX12_remember_59 rfl 1 rfl ?_
      have h_8 : Φ3 x = some (o_ 14 [.int v_1, .ref (x + 1), .ref (x + 2), .int ti, .int v_2, .int (nI n_1), .int v_3, .int ad, .ref (x + 3), .ref (x + 4), .int v_4, .long v_5, .ref (x + 5), .int (nI fl), .int v_6, .long ob, .long v_7, .long v_8, .long v_9, .ref (x + 6), .ref (x + 7), .int (nI pe), .ref (x + 8), .int (nI le), .ref (x + 9), .ref (x + 10), .int (nI qu), .ref (x + 11), .ref (x + 12), .ref (x + 13), .ref (x + 14), .ref (x + 15), .ref (x + 16), .int (nI n_2), .long v_10, .ref (x + 17), .ref (x + 18), .ref (x + 19), .ref (x + 20), .ref (x + 21), .ref (x + 22), .int (nI n_3), .ref (x + 23), .ref (x + 24), .int (nI (n_4 + 1)), .ref (x + 25), .int (nI il), .int (nI nx), .int ec, .int ep, .int kn, .int (nI st), .int nu, .long va]) := ((fset_fr hΦ2 (ne_off (x := x) (i := 0) (j := 23) rfl)).trans h_4)
      refine z_get (ref := "FlowExporterModel") (C := RX12) (T := TX12) (N := 54) (ci := 14) (v := .ref (x + 23)) B hu_X12_remember_X12 rfl 42 (Nat.le_of_ble_eq_true rfl) hv_X12_remember_82 rfl h_8 rfl dX12_remember_60 ?_
      refine z_iconst (v := 4) B dX12_remember_63 rfl ?_
      refine z_iload B dX12_remember_64 0 rfl ?_
      refine z_imul B dX12_remember_66 ?_
      refine z_top (st1 := [.int (nI (4 * n_4)), .ref (x + 23)]) (congrArg (fun w9 : Int32 => ([.int w9, .ref (x + 23)] : List Value)) (nI_mul 4 n_4)) ?_
      refine z_iconst (v := 1) B dX12_remember_67 rfl ?_
      refine z_iadd B dX12_remember_68 ?_
      refine z_top (st1 := [.int (nI (4 * n_4 + 1)), .ref (x + 23)]) (congrArg (fun w9 : Int32 => ([.int w9, .ref (x + 23)] : List Value)) (nI_add (4 * n_4) 1)) ?_
      refine z_iload_n B dX12_remember_69 rfl 3 rfl ?_
      obtain ⟨f_2, h_9⟩ := imk (k := 23) hI3
      have h_10 : Φ3 (x + 23) = some (ai_ G 96 f_2) := h_9
      refine z_iast B h_10 (Nat.le_trans hx (Nat.le_add_right x 23)) (vp_in_nI (by omega) (by omega)) dX12_remember_70 (fun Φ4 hΦ3 => ?_)
      have h_11 : Φ4 (x + 23) = some (ai_ G 96 (upd f_2 (nI (4 * n_4 + 1)).toNatClampNeg b)) := fset_at hΦ3
      have hI4 : Im G x (rd, nw, fl, pe, le, nx, il, qu, kn, ec, nu, va, st, ep, ti, ad, ob) Φ4 := Im.put (k := 23) hI3 hΦ3 ⟨_, rfl⟩
      refine z_aload_n B dX12_remember_71 rfl 1 rfl ?_
      have h_12 : Φ4 x = some (o_ 14 [.int v_1, .ref (x + 1), .ref (x + 2), .int ti, .int v_2, .int (nI n_1), .int v_3, .int ad, .ref (x + 3), .ref (x + 4), .int v_4, .long v_5, .ref (x + 5), .int (nI fl), .int v_6, .long ob, .long v_7, .long v_8, .long v_9, .ref (x + 6), .ref (x + 7), .int (nI pe), .ref (x + 8), .int (nI le), .ref (x + 9), .ref (x + 10), .int (nI qu), .ref (x + 11), .ref (x + 12), .ref (x + 13), .ref (x + 14), .ref (x + 15), .ref (x + 16), .int (nI n_2), .long v_10, .ref (x + 17), .ref (x + 18), .ref (x + 19), .ref (x + 20), .ref (x + 21), .ref (x + 22), .int (nI n_3), .ref (x + 23), .ref (x + 24), .int (nI (n_4 + 1)), .ref (x + 25), .int (nI il), .int (nI nx), .int ec, .int ep, .int kn, .int (nI st), .int nu, .long va]) := ((fset_fr hΦ3 (ne_off (x := x) (i := 0) (j := 23) rfl)).trans h_8)
      refine z_get (ref := "FlowExporterModel") (C := RX12) (T := TX12) (N := 54) (ci := 14) (v := .ref (x + 23)) B hu_X12_remember_X12 rfl 42 (Nat.le_of_ble_eq_true rfl) hv_X12_remember_82 rfl h_12 rfl dX12_remember_72 ?_
      refine z_iconst (v := 4) B dX12_remember_75 rfl ?_
      refine z_iload B dX12_remember_76 0 rfl ?_
      refine z_imul B dX12_remember_78 ?_
      refine z_top (st1 := [.int (nI (4 * n_4)), .ref (x + 23)]) (congrArg (fun w9 : Int32 => ([.int w9, .ref (x + 23)] : List Value)) (nI_mul 4 n_4)) ?_
      refine z_iconst (v := 2) B dX12_remember_79 rfl ?_
      refine z_iadd B dX12_remember_80 ?_
      refine z_top (st1 := [.int (nI (4 * n_4 + 2)), .ref (x + 23)]) (congrArg (fun w9 : Int32 => ([.int w9, .ref (x + 23)] : List Value)) (nI_add (4 * n_4) 2)) ?_
      refine z_iload_n B dX12_remember_81 rfl 4 rfl ?_
      obtain ⟨f_3, h_13⟩ := imk (k := 23) hI4
      have h_14 : Φ4 (x + 23) = some (ai_ G 96 f_3) := h_13
      refine z_iast B h_14 (Nat.le_trans hx (Nat.le_add_right x 23)) (vp_in_nI (by omega) (by omega)) dX12_remember_82 (fun Φ5 hΦ4 => ?_)
      have h_15 : Φ5 (x + 23) = some (ai_ G 96 (upd f_3 (nI (4 * n_4 + 2)).toNatClampNeg d)) := fset_at hΦ4
      have hI5 : Im G x (rd, nw, fl, pe, le, nx, il, qu, kn, ec, nu, va, st, ep, ti, ad, ob) Φ5 := Im.put (k := 23) hI4 hΦ4 ⟨_, rfl⟩
      refine z_aload_n B dX12_remember_83 rfl 1 rfl ?_
      have h_16 : Φ5 x = some (o_ 14 [.int v_1, .ref (x + 1), .ref (x + 2), .int ti, .int v_2, .int (nI n_1), .int v_3, .int ad, .ref (x + 3), .ref (x + 4), .int v_4, .long v_5, .ref (x + 5), .int (nI fl), .int v_6, .long ob, .long v_7, .long v_8, .long v_9, .ref (x + 6), .ref (x + 7), .int (nI pe), .ref (x + 8), .int (nI le), .ref (x + 9), .ref (x + 10), .int (nI qu), .ref (x + 11), .ref (x + 12), .ref (x + 13), .ref (x + 14), .ref (x + 15), .ref (x + 16), .int (nI n_2), .long v_10, .ref (x + 17), .ref (x + 18), .ref (x + 19), .ref (x + 20), .ref (x + 21), .ref (x + 22), .int (nI n_3), .ref (x + 23), .ref (x + 24), .int (nI (n_4 + 1)), .ref (x + 25), .int (nI il), .int (nI nx), .int ec, .int ep, .int kn, .int (nI st), .int nu, .long va]) := ((fset_fr hΦ4 (ne_off (x := x) (i := 0) (j := 23) rfl)).trans h_12)
      refine z_get (ref := "FlowExporterModel") (C := RX12) (T := TX12) (N := 54) (ci := 14) (v := .ref (x + 23)) B hu_X12_remember_X12 rfl 42 (Nat.le_of_ble_eq_true rfl) hv_X12_remember_82 rfl h_16 rfl dX12_remember_84 ?_
      refine z_iconst (v := 4) B dX12_remember_87 rfl ?_
      refine z_iload B dX12_remember_88 0 rfl ?_
      refine z_imul B dX12_remember_90 ?_
      refine z_top (st1 := [.int (nI (4 * n_4)), .ref (x + 23)]) (congrArg (fun w9 : Int32 => ([.int w9, .ref (x + 23)] : List Value)) (nI_mul 4 n_4)) ?_
      refine z_iconst (v := 3) B dX12_remember_91 rfl ?_
      refine z_iadd B dX12_remember_92 ?_
      refine z_top (st1 := [.int (nI (4 * n_4 + 3)), .ref (x + 23)]) (congrArg (fun w9 : Int32 => ([.int w9, .ref (x + 23)] : List Value)) (nI_add (4 * n_4) 3)) ?_
      refine z_iload B dX12_remember_93 5 rfl ?_
      obtain ⟨f_4, h_17⟩ := imk (k := 23) hI5
      have h_18 : Φ5 (x + 23) = some (ai_ G 96 f_4) := h_17
      refine z_iast B h_18 (Nat.le_trans hx (Nat.le_add_right x 23)) (vp_in_nI (by omega) (by omega)) dX12_remember_95 (fun Φ6 hΦ5 => ?_)
      have h_19 : Φ6 (x + 23) = some (ai_ G 96 (upd f_4 (nI (4 * n_4 + 3)).toNatClampNeg f)) := fset_at hΦ5
      have hI6 : Im G x (rd, nw, fl, pe, le, nx, il, qu, kn, ec, nu, va, st, ep, ti, ad, ob) Φ6 := Im.put (k := 23) hI5 hΦ5 ⟨_, rfl⟩
      refine z_aload_n B dX12_remember_96 rfl 1 rfl ?_
      have h_20 : Φ6 x = some (o_ 14 [.int v_1, .ref (x + 1), .ref (x + 2), .int ti, .int v_2, .int (nI n_1), .int v_3, .int ad, .ref (x + 3), .ref (x + 4), .int v_4, .long v_5, .ref (x + 5), .int (nI fl), .int v_6, .long ob, .long v_7, .long v_8, .long v_9, .ref (x + 6), .ref (x + 7), .int (nI pe), .ref (x + 8), .int (nI le), .ref (x + 9), .ref (x + 10), .int (nI qu), .ref (x + 11), .ref (x + 12), .ref (x + 13), .ref (x + 14), .ref (x + 15), .ref (x + 16), .int (nI n_2), .long v_10, .ref (x + 17), .ref (x + 18), .ref (x + 19), .ref (x + 20), .ref (x + 21), .ref (x + 22), .int (nI n_3), .ref (x + 23), .ref (x + 24), .int (nI (n_4 + 1)), .ref (x + 25), .int (nI il), .int (nI nx), .int ec, .int ep, .int kn, .int (nI st), .int nu, .long va]) := ((fset_fr hΦ5 (ne_off (x := x) (i := 0) (j := 23) rfl)).trans h_16)
      refine z_get (ref := "FlowExporterModel") (C := RX12) (T := TX12) (N := 54) (ci := 14) (v := .ref (x + 24)) B hu_X12_remember_X12 rfl 43 (Nat.le_of_ble_eq_true rfl) hv_X12_remember_85 rfl h_20 rfl dX12_remember_97 ?_
      refine z_iconst (v := 2) B dX12_remember_100 rfl ?_
      refine z_iload B dX12_remember_101 0 rfl ?_
      refine z_imul B dX12_remember_103 ?_
      refine z_top (st1 := [.int (nI (2 * n_4)), .ref (x + 24)]) (congrArg (fun w9 : Int32 => ([.int w9, .ref (x + 24)] : List Value)) (nI_mul 2 n_4)) ?_
      refine z_lconst (v := 0) B dX12_remember_104 rfl ?_
      obtain ⟨f_5, h_21⟩ := imk (k := 24) hI6
      have h_22 : Φ6 (x + 24) = some (al_ G 48 f_5) := h_21
      refine z_last B h_22 (Nat.le_trans hx (Nat.le_add_right x 24)) (vp_in_nI (by omega) (by omega)) dX12_remember_105 (fun Φ7 hΦ6 => ?_)
      have h_23 : Φ7 (x + 24) = some (al_ G 48 (vp_updL f_5 (nI (2 * n_4)).toNatClampNeg 0)) := fset_at hΦ6
      have hI7 : Im G x (rd, nw, fl, pe, le, nx, il, qu, kn, ec, nu, va, st, ep, ti, ad, ob) Φ7 := Im.put (k := 24) hI6 hΦ6 ⟨_, rfl⟩
      refine z_aload_n B dX12_remember_106 rfl 1 rfl ?_
      have h_24 : Φ7 x = some (o_ 14 [.int v_1, .ref (x + 1), .ref (x + 2), .int ti, .int v_2, .int (nI n_1), .int v_3, .int ad, .ref (x + 3), .ref (x + 4), .int v_4, .long v_5, .ref (x + 5), .int (nI fl), .int v_6, .long ob, .long v_7, .long v_8, .long v_9, .ref (x + 6), .ref (x + 7), .int (nI pe), .ref (x + 8), .int (nI le), .ref (x + 9), .ref (x + 10), .int (nI qu), .ref (x + 11), .ref (x + 12), .ref (x + 13), .ref (x + 14), .ref (x + 15), .ref (x + 16), .int (nI n_2), .long v_10, .ref (x + 17), .ref (x + 18), .ref (x + 19), .ref (x + 20), .ref (x + 21), .ref (x + 22), .int (nI n_3), .ref (x + 23), .ref (x + 24), .int (nI (n_4 + 1)), .ref (x + 25), .int (nI il), .int (nI nx), .int ec, .int ep, .int kn, .int (nI st), .int nu, .long va]) := ((fset_fr hΦ6 (ne_off (x := x) (i := 0) (j := 24) rfl)).trans h_20)
      refine z_get (ref := "FlowExporterModel") (C := RX12) (T := TX12) (N := 54) (ci := 14) (v := .ref (x + 24)) B hu_X12_remember_X12 rfl 43 (Nat.le_of_ble_eq_true rfl) hv_X12_remember_85 rfl h_24 rfl dX12_remember_107 ?_
      refine z_iconst (v := 2) B dX12_remember_110 rfl ?_
      refine z_iload B dX12_remember_111 0 rfl ?_
      refine z_imul B dX12_remember_113 ?_
      refine z_top (st1 := [.int (nI (2 * n_4)), .ref (x + 24)]) (congrArg (fun w9 : Int32 => ([.int w9, .ref (x + 24)] : List Value)) (nI_mul 2 n_4)) ?_
      refine z_iconst (v := 1) B dX12_remember_114 rfl ?_
      refine z_iadd B dX12_remember_115 ?_
      refine z_top (st1 := [.int (nI (2 * n_4 + 1)), .ref (x + 24)]) (congrArg (fun w9 : Int32 => ([.int w9, .ref (x + 24)] : List Value)) (nI_add (2 * n_4) 1)) ?_
      refine z_lconst (v := 0) B dX12_remember_116 rfl ?_
      obtain ⟨f_6, h_25⟩ := imk (k := 24) hI7
      have h_26 : Φ7 (x + 24) = some (al_ G 48 f_6) := h_25
      refine z_last B h_26 (Nat.le_trans hx (Nat.le_add_right x 24)) (vp_in_nI (by omega) (by omega)) dX12_remember_117 (fun Φ8 hΦ7 => ?_)
      have h_27 : Φ8 (x + 24) = some (al_ G 48 (vp_updL f_6 (nI (2 * n_4 + 1)).toNatClampNeg 0)) := fset_at hΦ7
      have hI8 : Im G x (rd, nw, fl, pe, le, nx, il, qu, kn, ec, nu, va, st, ep, ti, ad, ob) Φ8 := Im.put (k := 24) hI7 hΦ7 ⟨_, rfl⟩
      refine z_aload_n B dX12_remember_118 rfl 1 rfl ?_
      have h_28 : Φ8 x = some (o_ 14 [.int v_1, .ref (x + 1), .ref (x + 2), .int ti, .int v_2, .int (nI n_1), .int v_3, .int ad, .ref (x + 3), .ref (x + 4), .int v_4, .long v_5, .ref (x + 5), .int (nI fl), .int v_6, .long ob, .long v_7, .long v_8, .long v_9, .ref (x + 6), .ref (x + 7), .int (nI pe), .ref (x + 8), .int (nI le), .ref (x + 9), .ref (x + 10), .int (nI qu), .ref (x + 11), .ref (x + 12), .ref (x + 13), .ref (x + 14), .ref (x + 15), .ref (x + 16), .int (nI n_2), .long v_10, .ref (x + 17), .ref (x + 18), .ref (x + 19), .ref (x + 20), .ref (x + 21), .ref (x + 22), .int (nI n_3), .ref (x + 23), .ref (x + 24), .int (nI (n_4 + 1)), .ref (x + 25), .int (nI il), .int (nI nx), .int ec, .int ep, .int kn, .int (nI st), .int nu, .long va]) := ((fset_fr hΦ7 (ne_off (x := x) (i := 0) (j := 24) rfl)).trans h_24)
      refine z_get (ref := "FlowExporterModel") (C := RX12) (T := TX12) (N := 54) (ci := 14) (v := .ref (x + 24)) B hu_X12_remember_X12 rfl 43 (Nat.le_of_ble_eq_true rfl) hv_X12_remember_85 rfl h_28 rfl dX12_remember_119 ?_
      refine z_iconst (v := 2) B dX12_remember_122 rfl ?_
      refine z_iload B dX12_remember_123 0 rfl ?_
      refine z_imul B dX12_remember_125 ?_
      refine z_top (st1 := [.int (nI (2 * n_4)), .ref (x + 24)]) (congrArg (fun w9 : Int32 => ([.int w9, .ref (x + 24)] : List Value)) (nI_mul 2 n_4)) ?_
      refine z_dup2_11 B dX12_remember_126 rfl rfl ?_
      obtain ⟨f_7, h_29⟩ := imk (k := 24) hI8
      have h_30 : Φ8 (x + 24) = some (al_ G 48 f_7) := h_29
      refine z_lald B h_30 (vp_in_nI (by omega) (by omega)) dX12_remember_127 ?_
      refine z_fl (fun v_11 => ?_)
      refine z_lconst (v := 1) B dX12_remember_128 rfl ?_
      refine z_ladd B dX12_remember_129 ?_
      refine z_fl (fun v_12 => ?_)
      refine z_last B h_30 (Nat.le_trans hx (Nat.le_add_right x 24)) (vp_in_nI (by omega) (by omega)) dX12_remember_130 (fun Φ9 hΦ8 => ?_)
      have h_31 : Φ9 (x + 24) = some (al_ G 48 (vp_updL f_7 (nI (2 * n_4)).toNatClampNeg v_12)) := fset_at hΦ8
      have hI9 : Im G x (rd, nw, fl, pe, le, nx, il, qu, kn, ec, nu, va, st, ep, ti, ad, ob) Φ9 := Im.put (k := 24) hI8 hΦ8 ⟨_, rfl⟩
      refine z_aload_n B dX12_remember_131 rfl 1 rfl ?_
      have h_32 : Φ9 x = some (o_ 14 [.int v_1, .ref (x + 1), .ref (x + 2), .int ti, .int v_2, .int (nI n_1), .int v_3, .int ad, .ref (x + 3), .ref (x + 4), .int v_4, .long v_5, .ref (x + 5), .int (nI fl), .int v_6, .long ob, .long v_7, .long v_8, .long v_9, .ref (x + 6), .ref (x + 7), .int (nI pe), .ref (x + 8), .int (nI le), .ref (x + 9), .ref (x + 10), .int (nI qu), .ref (x + 11), .ref (x + 12), .ref (x + 13), .ref (x + 14), .ref (x + 15), .ref (x + 16), .int (nI n_2), .long v_10, .ref (x + 17), .ref (x + 18), .ref (x + 19), .ref (x + 20), .ref (x + 21), .ref (x + 22), .int (nI n_3), .ref (x + 23), .ref (x + 24), .int (nI (n_4 + 1)), .ref (x + 25), .int (nI il), .int (nI nx), .int ec, .int ep, .int kn, .int (nI st), .int nu, .long va]) := ((fset_fr hΦ8 (ne_off (x := x) (i := 0) (j := 24) rfl)).trans h_28)
      refine z_get (ref := "FlowExporterModel") (C := RX12) (T := TX12) (N := 54) (ci := 14) (v := .ref (x + 24)) B hu_X12_remember_X12 rfl 43 (Nat.le_of_ble_eq_true rfl) hv_X12_remember_85 rfl h_32 rfl dX12_remember_132 ?_
      refine z_iconst (v := 2) B dX12_remember_135 rfl ?_
      refine z_iload B dX12_remember_136 0 rfl ?_
      refine z_imul B dX12_remember_138 ?_
      refine z_top (st1 := [.int (nI (2 * n_4)), .ref (x + 24)]) (congrArg (fun w9 : Int32 => ([.int w9, .ref (x + 24)] : List Value)) (nI_mul 2 n_4)) ?_
      refine z_iconst (v := 1) B dX12_remember_139 rfl ?_
      refine z_iadd B dX12_remember_140 ?_
      refine z_top (st1 := [.int (nI (2 * n_4 + 1)), .ref (x + 24)]) (congrArg (fun w9 : Int32 => ([.int w9, .ref (x + 24)] : List Value)) (nI_add (2 * n_4) 1)) ?_
      refine z_dup2_11 B dX12_remember_141 rfl rfl ?_
      obtain ⟨f_8, h_33⟩ := imk (k := 24) hI9
      have h_34 : Φ9 (x + 24) = some (al_ G 48 f_8) := h_33
      refine z_lald B h_34 (vp_in_nI (by omega) (by omega)) dX12_remember_142 ?_
      refine z_fl (fun v_13 => ?_)
      refine z_iload B dX12_remember_143 6 rfl ?_
      refine z_i2l (v := g.toInt64) B dX12_remember_145 rfl ?_
      refine z_ladd B dX12_remember_146 ?_
      refine z_fl (fun v_14 => ?_)
      refine z_last B h_34 (Nat.le_trans hx (Nat.le_add_right x 24)) (vp_in_nI (by omega) (by omega)) dX12_remember_147 (fun Φ10 hΦ9 => ?_)
      have h_35 : Φ10 (x + 24) = some (al_ G 48 (vp_updL f_8 (nI (2 * n_4 + 1)).toNatClampNeg v_14)) := fset_at hΦ9
      have hI10 : Im G x (rd, nw, fl, pe, le, nx, il, qu, kn, ec, nu, va, st, ep, ti, ad, ob) Φ10 := Im.put (k := 24) hI9 hΦ9 ⟨_, rfl⟩
      exact z_ret_v B dX12_remember_148 ⟨rfl, rfl, hI10, (fun b9 h9 => ((fset_fr hΦ9 (fun h8 => h9 (24) h8 (show 24 = 0 ∨ 24 = 23 ∨ 24 = 24 by decide))).trans ((fset_fr hΦ8 (fun h8 => h9 (24) h8 (show 24 = 0 ∨ 24 = 23 ∨ 24 = 24 by decide))).trans ((fset_fr hΦ7 (fun h8 => h9 (24) h8 (show 24 = 0 ∨ 24 = 23 ∨ 24 = 24 by decide))).trans ((fset_fr hΦ6 (fun h8 => h9 (24) h8 (show 24 = 0 ∨ 24 = 23 ∨ 24 = 24 by decide))).trans ((fset_fr hΦ5 (fun h8 => h9 (23) h8 (show 23 = 0 ∨ 23 = 23 ∨ 23 = 24 by decide))).trans ((fset_fr hΦ4 (fun h8 => h9 (23) h8 (show 23 = 0 ∨ 23 = 23 ∨ 23 = 24 by decide))).trans ((fset_fr hΦ3 (fun h8 => h9 (23) h8 (show 23 = 0 ∨ 23 = 23 ∨ 23 = 24 by decide))).trans ((fset_fr hΦ2 (fun h8 => h9 (23) h8 (show 23 = 0 ∨ 23 = 23 ∨ 23 = 24 by decide))).trans ((fset_fr hΦ1 (fun h8 => h9 (0) h8 (show 0 = 0 ∨ 0 = 23 ∨ 0 = 24 by decide))).trans ((hF1 b9 (fun j9 h8 h7 => (show False from h7).elim)).trans rfl)))))))))))⟩
    · have e_2 : n_4 = 24 := (nI_eq (a := n_4) (b := 24) (by omega) (by omega)).mp c_2
      exact z_ret_v B dX12_remember_26 ⟨rfl, rfl, hI1, (fun b9 h9 => ((hF1 b9 (fun j9 h8 h7 => (show False from h7).elim)).trans rfl))⟩
  · replace hs1 : st1 = [.int (nI n_5)] := hs1
    subst st1
    replace b_14 : n_5 < 24 := b_14
    refine z_istore (lv' := [(6, .int (nI n_5)), (0, .ref x), (1, .int a), (2, .int b), (3, .int d), (4, .int f), (5, .int g)]) B dX12_remember_9 (Nat.le_of_ble_eq_true rfl) rfl ?_
    refine z_iload B dX12_remember_11 0 rfl ?_
    refine z_iconst (v := (-1)) B dX12_remember_13 rfl ?_
    refine z_icmp_ne (tgt := 27) B dX12_remember_14 rfl (fun c_4 => ?_) (fun h9 => absurd h9 (nI_nm1 (n := n_5) (by omega)))
    refine z_iload B dX12_remember_27 0 rfl ?_
    refine z_iconst (v := (-1)) B dX12_remember_29 rfl ?_
    refine z_icmp_ne (tgt := 118) B dX12_remember_30 rfl (fun c_5 => ?_) (fun h9 => absurd h9 (nI_nm1 (n := n_5) (by omega)))
    refine z_aload_n B dX12_remember_118 rfl 1 rfl ?_
    have h_36 : Φ1 x = some (o_ 14 [.int v_1, .ref (x + 1), .ref (x + 2), .int ti, .int v_2, .int (nI n_1), .int v_3, .int ad, .ref (x + 3), .ref (x + 4), .int v_4, .long v_5, .ref (x + 5), .int (nI fl), .int v_6, .long ob, .long v_7, .long v_8, .long v_9, .ref (x + 6), .ref (x + 7), .int (nI pe), .ref (x + 8), .int (nI le), .ref (x + 9), .ref (x + 10), .int (nI qu), .ref (x + 11), .ref (x + 12), .ref (x + 13), .ref (x + 14), .ref (x + 15), .ref (x + 16), .int (nI n_2), .long v_10, .ref (x + 17), .ref (x + 18), .ref (x + 19), .ref (x + 20), .ref (x + 21), .ref (x + 22), .int (nI n_3), .ref (x + 23), .ref (x + 24), .int (nI n_4), .ref (x + 25), .int (nI il), .int (nI nx), .int ec, .int ep, .int kn, .int (nI st), .int nu, .long va]) := ((hF1 x (fun j9 h8 h7 => (show False from h7).elim)).trans h_2)
    refine z_get (ref := "FlowExporterModel") (C := RX12) (T := TX12) (N := 54) (ci := 14) (v := .ref (x + 24)) B hu_X12_remember_X12 rfl 43 (Nat.le_of_ble_eq_true rfl) hv_X12_remember_85 rfl h_36 rfl dX12_remember_119 ?_
    refine z_iconst (v := 2) B dX12_remember_122 rfl ?_
    refine z_iload B dX12_remember_123 0 rfl ?_
    refine z_imul B dX12_remember_125 ?_
    refine z_top (st1 := [.int (nI (2 * n_5)), .ref (x + 24)]) (congrArg (fun w9 : Int32 => ([.int w9, .ref (x + 24)] : List Value)) (nI_mul 2 n_5)) ?_
    refine z_dup2_11 B dX12_remember_126 rfl rfl ?_
    obtain ⟨f_9, h_37⟩ := imk (k := 24) hI1
    have h_38 : Φ1 (x + 24) = some (al_ G 48 f_9) := h_37
    refine z_lald B h_38 (vp_in_nI (by omega) (by omega)) dX12_remember_127 ?_
    refine z_fl (fun v_15 => ?_)
    refine z_lconst (v := 1) B dX12_remember_128 rfl ?_
    refine z_ladd B dX12_remember_129 ?_
    refine z_fl (fun v_16 => ?_)
    refine z_last B h_38 (Nat.le_trans hx (Nat.le_add_right x 24)) (vp_in_nI (by omega) (by omega)) dX12_remember_130 (fun Φ11 hΦ10 => ?_)
    have h_39 : Φ11 (x + 24) = some (al_ G 48 (vp_updL f_9 (nI (2 * n_5)).toNatClampNeg v_16)) := fset_at hΦ10
    have hI11 : Im G x (rd, nw, fl, pe, le, nx, il, qu, kn, ec, nu, va, st, ep, ti, ad, ob) Φ11 := Im.put (k := 24) hI1 hΦ10 ⟨_, rfl⟩
    refine z_aload_n B dX12_remember_131 rfl 1 rfl ?_
    have h_40 : Φ11 x = some (o_ 14 [.int v_1, .ref (x + 1), .ref (x + 2), .int ti, .int v_2, .int (nI n_1), .int v_3, .int ad, .ref (x + 3), .ref (x + 4), .int v_4, .long v_5, .ref (x + 5), .int (nI fl), .int v_6, .long ob, .long v_7, .long v_8, .long v_9, .ref (x + 6), .ref (x + 7), .int (nI pe), .ref (x + 8), .int (nI le), .ref (x + 9), .ref (x + 10), .int (nI qu), .ref (x + 11), .ref (x + 12), .ref (x + 13), .ref (x + 14), .ref (x + 15), .ref (x + 16), .int (nI n_2), .long v_10, .ref (x + 17), .ref (x + 18), .ref (x + 19), .ref (x + 20), .ref (x + 21), .ref (x + 22), .int (nI n_3), .ref (x + 23), .ref (x + 24), .int (nI n_4), .ref (x + 25), .int (nI il), .int (nI nx), .int ec, .int ep, .int kn, .int (nI st), .int nu, .long va]) := ((fset_fr hΦ10 (ne_off (x := x) (i := 0) (j := 24) rfl)).trans h_36)
    refine z_get (ref := "FlowExporterModel") (C := RX12) (T := TX12) (N := 54) (ci := 14) (v := .ref (x + 24)) B hu_X12_remember_X12 rfl 43 (Nat.le_of_ble_eq_true rfl) hv_X12_remember_85 rfl h_40 rfl dX12_remember_132 ?_
    refine z_iconst (v := 2) B dX12_remember_135 rfl ?_
    refine z_iload B dX12_remember_136 0 rfl ?_
    refine z_imul B dX12_remember_138 ?_
    refine z_top (st1 := [.int (nI (2 * n_5)), .ref (x + 24)]) (congrArg (fun w9 : Int32 => ([.int w9, .ref (x + 24)] : List Value)) (nI_mul 2 n_5)) ?_
    refine z_iconst (v := 1) B dX12_remember_139 rfl ?_
    refine z_iadd B dX12_remember_140 ?_
    refine z_top (st1 := [.int (nI (2 * n_5 + 1)), .ref (x + 24)]) (congrArg (fun w9 : Int32 => ([.int w9, .ref (x + 24)] : List Value)) (nI_add (2 * n_5) 1)) ?_
    refine z_dup2_11 B dX12_remember_141 rfl rfl ?_
    obtain ⟨f_10, h_41⟩ := imk (k := 24) hI11
    have h_42 : Φ11 (x + 24) = some (al_ G 48 f_10) := h_41
    refine z_lald B h_42 (vp_in_nI (by omega) (by omega)) dX12_remember_142 ?_
    refine z_fl (fun v_17 => ?_)
    refine z_iload B dX12_remember_143 6 rfl ?_
    refine z_i2l (v := g.toInt64) B dX12_remember_145 rfl ?_
    refine z_ladd B dX12_remember_146 ?_
    refine z_fl (fun v_18 => ?_)
    refine z_last B h_42 (Nat.le_trans hx (Nat.le_add_right x 24)) (vp_in_nI (by omega) (by omega)) dX12_remember_147 (fun Φ12 hΦ11 => ?_)
    have h_43 : Φ12 (x + 24) = some (al_ G 48 (vp_updL f_10 (nI (2 * n_5 + 1)).toNatClampNeg v_18)) := fset_at hΦ11
    have hI12 : Im G x (rd, nw, fl, pe, le, nx, il, qu, kn, ec, nu, va, st, ep, ti, ad, ob) Φ12 := Im.put (k := 24) hI11 hΦ11 ⟨_, rfl⟩
    exact z_ret_v B dX12_remember_148 ⟨rfl, rfl, hI12, (fun b9 h9 => ((fset_fr hΦ11 (fun h8 => h9 (24) h8 (show 24 = 0 ∨ 24 = 23 ∨ 24 = 24 by decide))).trans ((fset_fr hΦ10 (fun h8 => h9 (24) h8 (show 24 = 0 ∨ 24 = 23 ∨ 24 = 24 by decide))).trans ((hF1 b9 (fun j9 h8 h7 => (show False from h7).elim)).trans rfl))))⟩

theorem hu_X12_flowOf_X12 : ∀ w ∈ u_ws RX12 TX12 54, w ∈ wsX12_flowOf := fun _ h => List.mem_cons_of_mem _ (List.mem_append_left _ (List.mem_append_right _ (h)))

theorem hv_X12_flowOf_133 : Cond.fieldLink RX12 133 "FlowExporterModel" (TX12 13).2.1 (TX12 13).2.2.1 ∈ wsX12_flowOf := List.mem_cons_of_mem _ (List.mem_append_left _ (List.mem_append_left _ (List.mem_of_getElem? (i := 0) rfl)))

theorem hv_X12_flowOf_26 : Cond.fieldLink RX12 26 "FlowExporterModel" (TX12 12).2.1 (TX12 12).2.2.1 ∈ wsX12_flowOf := List.mem_cons_of_mem _ (List.mem_append_left _ (List.mem_append_left _ (List.mem_of_getElem? (i := 1) rfl)))

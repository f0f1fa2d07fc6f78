set_option maxHeartbeats 4000000 in
set_option maxRecDepth 100000 in
theorem r_root (G : EnvG) (l : Launch) (Φ : Hm) (sz x : Nat) (rd : (Nat → Int32) → Prop) (fl : Nat) (pe : Nat) (le : Nat) (nx : Nat) (il : Nat) (qu : Nat) (kn : Int32) (ec : Int32) (nu : Int32) (va : Int64) (a : UInt64) (hx : G.2.2.2 ≤ x) (hI : Im G x (rd, NN, fl, pe, le, nx, il, qu, kn, ec, nu, va) Φ) (ha : pd64 a) : Ct G l yX12_root wsX12_root ({ frames := 2, cells := 0, slots := 0, locals := 42 }) 0 0 [.double a] Φ sz (fun v Φ1 sz1 => (∃ r9 : UInt64, v = some (.double r9) ∧ nn64 r9) ∧ sz1 = sz ∧ (Im G x (rd, NN, fl, pe, le, nx, il, qu, kn, ec, nu, va) Φ1) ∧ Fr x (fun j9 => False) Φ Φ1) := by
  refine Ct.of (cc := cX12_root) (maxL := 12) (ret := (some .double)) (by decide) rfl (Nat.le_of_ble_eq_true rfl) ?_
  intro p9 e9 s9 m9 w9 t9 k9 B
  show Z p9 l e9 _ s9 m9 _ w9 t9 k9 _ G 12 0 [(0, .double a)] [] Φ sz 0 0
  refine z_dload_n B dX12_root_0 rfl 0 rfl ?_
  refine z_dconst0 B dX12_root_1 ?_
  refine z_dcmp B dX12_root_2 ?_
  refine z_if_ne (tgt := 8) B dX12_root_3 rfl (fun c_1 => ?_) (fun c_1 => ?_)
  · refine z_dload_n B dX12_root_8 rfl 0 rfl ?_
    refine z_callS (As := [.double a]) (rest := []) B (c_J_d2l G l Φ sz a (pd_nn ha) (fun v8 Φ8 sz8 => v8 = some (.long (a).toInt64) ∧ sz8 = sz ∧ Im G x (rd, NN, fl, pe, le, nx, il, qu, kn, ec, nu, va) Φ8 ∧ Fr x (fun j9 => False) Φ Φ8) ⟨rfl, rfl, hI, fun _ _ => rfl⟩) (va_cwS 1 B.1.2.2.2.2 gX12_root_Jxe99ae_doubleToLongBits_ccdee rfl rfl rfl (by decide +kernel) ⟨Nat.le_of_ble_eq_true rfl, Nat.le_of_ble_eq_true rfl⟩) rfl rfl (Nat.le_of_ble_eq_true rfl) dX12_root_9 ⟨Nat.le_of_ble_eq_true rfl, Nat.le_of_ble_eq_true rfl⟩ (fun r_1 Φ1 sz1 st1 hp1 hs1 => ?_)
    obtain ⟨rfl, hq1, hI1, hF1⟩ := hp1
    subst sz1
    replace hs1 : st1 = [.long a.toInt64] := hs1
    subst st1
    refine z_lstore_n (lv' := [(2, .long a.toInt64), (0, .double a)]) B dX12_root_12 rfl (Nat.le_of_ble_eq_true rfl) rfl ?_
    refine z_lload_n B dX12_root_13 rfl 0 rfl ?_
    refine z_bipush (v := 52) B dX12_root_14 rfl ?_
    refine z_lshr (v := a.toInt64 >>> ((52 : Int32).toInt64 &&& 63)) B dX12_root_16 rfl ?_
    refine z_l2i (v := (a.toInt64 >>> ((52 : Int32).toInt64 &&& 63)).toInt32) B dX12_root_17 rfl ?_
    obtain ⟨n_1, b_1, e_1⟩ := root_e (root_k ha c_1)
    refine z_top (st1 := [.int (nI n_1)]) (congrArg (fun w9 : Int32 => ([.int w9] : List Value)) (e_1)) ?_
    refine z_sipush (v := 1075) B dX12_root_18 rfl ?_
    refine z_isub B dX12_root_21 ?_
    refine z_istore (lv' := [(4, .int ((nI n_1) - 1075)), (2, .long a.toInt64), (0, .double a)]) B dX12_root_22 (Nat.le_of_ble_eq_true rfl) rfl ?_
    refine z_lload_n B dX12_root_24 rfl 1 rfl ?_
    refine z_ldc2 (v := 4503599627370495) B (by decide +kernel) dX12_root_25 ?_
    refine z_land B dX12_root_28 ?_
    refine z_fl (fun v_1 => ?_)
    refine z_ldc2 (v := 4503599627370496) B (by decide +kernel) dX12_root_29 ?_
    refine z_lor B dX12_root_32 ?_
    refine z_fl (fun v_2 => ?_)
    refine z_lstore (lv' := [(5, .long v_2), (4, .int ((nI n_1) - 1075)), (2, .long a.toInt64), (0, .double a)]) B dX12_root_33 (Nat.le_of_ble_eq_true rfl) rfl ?_
    refine z_iload B dX12_root_35 1 rfl ?_
    refine z_iconst (v := 1) B dX12_root_37 rfl ?_
    refine z_iand B dX12_root_38 ?_
    refine z_iconst (v := 1) B dX12_root_39 rfl ?_
    refine z_icmp_ne (tgt := 54) B dX12_root_40 rfl (fun c_2 => ?_) (fun c_2 => ?_)
    · have q_1 := rt_even b_1 c_2
      refine z_lconst (v := 0) B dX12_root_54 rfl ?_
      refine z_lstore (lv' := [(7, .long 0), (5, .long v_2), (4, .int ((nI n_1) - 1075)), (2, .long a.toInt64), (0, .double a)]) B dX12_root_55 (Nat.le_of_ble_eq_true rfl) rfl ?_
      refine z_lconst (v := 0) B dX12_root_57 rfl ?_
      refine z_lstore (lv' := [(9, .long 0), (7, .long 0), (5, .long v_2), (4, .int ((nI n_1) - 1075)), (2, .long a.toInt64), (0, .double a)]) B dX12_root_58 (Nat.le_of_ble_eq_true rfl) rfl ?_
      refine z_bipush (v := 26) B dX12_root_60 rfl ?_
      refine z_istore (lv' := [(11, .int 26), (9, .long 0), (7, .long 0), (5, .long v_2), (4, .int ((nI n_1) - 1075)), (2, .long a.toInt64), (0, .double a)]) B dX12_root_62 (Nat.le_of_ble_eq_true rfl) rfl ?_
      refine z_lv [0, 1, 2, 3, 4, 5, 6] rfl ?_
      refine z_loop (α := Int32 × Int64 × Int64) (fun (a9 : Int32 × Int64 × Int64) Φi => Im G x (rd, NN, fl, pe, le, nx, il, qu, kn, ec, nu, va) Φi ∧ Fr x (fun j9 => False) Φ1 Φi ∧ True) (fun a9 => [(11, .int a9.1), (9, .long a9.2.1), (7, .long a9.2.2), (5, .long v_2), (4, .int ((nI n_1) - 1075)), (2, .long a.toInt64), (0, .double a)]) (fun a9 => ((a9.1).toInt + 28).toNat) ?_ (26, 0, 0) ⟨hI1, fun _ _ => rfl, trivial⟩
      rintro ⟨i_1, i_2, i_3⟩ Φl1 ⟨hI2, hF2, -⟩ ih1
      replace hI2 : Im G x (rd, NN, fl, pe, le, nx, il, qu, kn, ec, nu, va) Φl1 := hI2
      show Z p9 l e9 _ s9 m9 _ w9 t9 k9 _ G 12 64 [(11, .int i_1), (9, .long i_2), (7, .long i_3), (5, .long v_2), (4, .int ((nI n_1) - 1075)), (2, .long a.toInt64), (0, .double a)] [] Φl1 _ _ _
      refine z_iload B dX12_root_64 0 rfl ?_
      refine z_bipush (v := (-27)) B dX12_root_66 rfl ?_
      refine z_icmp_lt (tgt := 150) B dX12_root_68 rfl (fun c_3 => ?_) (fun c_3 => ?_)
      · refine z_lload B dX12_root_150 2 rfl ?_
        refine z_lconst (v := 1) B dX12_root_152 rfl ?_
        refine z_ladd B dX12_root_153 ?_
        refine z_fl (fun v_3 => ?_)
        refine z_iconst (v := 1) B dX12_root_154 rfl ?_
        refine z_lshr (v := v_3 >>> ((1 : Int32).toInt64 &&& 63)) B dX12_root_155 rfl ?_
        refine z_fl (fun v_4 => ?_)
        refine z_l2d B dX12_root_156 ?_
        refine z_fdq (P := fun u9 : UInt64 => sm64 12 u9) (l2d_sm v_4) (fun v_5 q_3 => ?_)
        replace q_3 : sm64 12 v_5 := q_3
        refine z_iload B dX12_root_157 4 rfl ?_
        refine z_iconst (v := 2) B dX12_root_159 rfl ?_
        refine z_idiv B dX12_root_160 (by decide) ?_
        refine z_bipush (v := 26) B dX12_root_161 rfl ?_
        refine z_isub B dX12_root_163 ?_
        refine z_sipush (v := 1023) B dX12_root_164 rfl ?_
        refine z_iadd B dX12_root_167 ?_
        refine z_i2l (v := (((((nI n_1) - 1075) / 2) - 26) + 1023).toInt64) B dX12_root_168 rfl ?_
        refine z_bipush (v := 52) B dX12_root_169 rfl ?_
        refine z_lshl (v := ((((((nI n_1) - 1075) / 2) - 26) + 1023).toInt64) <<< ((52 : Int32).toInt64 &&& 63)) B dX12_root_171 rfl ?_
        refine z_bitsd B (show vn_snl2d (((((((nI n_1) - 1075) / 2) - 26) + 1023).toInt64) <<< ((52 : Int32).toInt64 &&& 63)) = false from q_1.1) (by decide +kernel) (by decide +kernel) (by decide +kernel) (by decide +kernel) ⟨Nat.le_of_ble_eq_true rfl, Nat.le_of_ble_eq_true rfl⟩ dX12_root_172 ?_
        refine z_fdq (P := fun u9 : UInt64 => wD (Jvm.FP.Core.val64 u9)) (show wD (Jvm.FP.Core.val64 ((((((((nI n_1) - 1075) / 2) - 26) + 1023).toInt64) <<< ((52 : Int32).toInt64 &&& 63)).toUInt64)) from q_1.2) (fun v_6 q_4 => ?_)
        replace q_4 : wD (Jvm.FP.Core.val64 v_6) := q_4
        have q_6 : nn64 (FP.dmul v_5 v_6) := (mul_nnw (sm_nn q_3) q_4)
        refine z_dmul B dX12_root_175 (vf_of q_6) ?_
        refine z_fdq (P := fun u9 : UInt64 => nn64 u9) q_6 (fun v_7 q_8 => ?_)
        replace q_8 : nn64 v_7 := q_8
        exact z_ret_d B dX12_root_176 ⟨⟨_, rfl, q_8⟩, rfl, hI2, (fun b9 h9 => ((hF2 b9 (fun j9 h8 h7 => (show False from h7).elim)).trans ((hF1 b9 (fun j9 h8 h7 => (show False from h7).elim)).trans rfl)))⟩
      · refine z_ldc2 (v := 4) B (by decide +kernel) dX12_root_71 ?_
        refine z_lload B dX12_root_74 1 rfl ?_
        refine z_lmul B dX12_root_76 ?_
        refine z_fl (fun v_8 => ?_)
        refine z_iload B dX12_root_77 0 rfl ?_
        refine z_if_ge (tgt := 86) B dX12_root_79 rfl (fun c_4 => ?_) (fun c_4 => ?_)
        · refine z_lload B dX12_root_86 3 rfl ?_
          refine z_iconst (v := 2) B dX12_root_88 rfl ?_
          refine z_iload B dX12_root_89 0 rfl ?_
          refine z_imul B dX12_root_91 ?_
          refine z_fi (fun v_9 => ?_)
          refine z_lshr (v := v_2 >>> ((v_9 : Int32).toInt64 &&& 63)) B dX12_root_92 rfl ?_
          refine z_fl (fun v_10 => ?_)
          refine z_ldc2 (v := 3) B (by decide +kernel) dX12_root_93 ?_
          refine z_land B dX12_root_96 ?_
          refine z_fl (fun v_11 => ?_)
          refine z_ladd B dX12_root_97 ?_
          refine z_fl (fun v_12 => ?_)
          refine z_lstore (lv' := [(9, .long v_12), (11, .int i_1), (7, .long i_3), (5, .long v_2), (4, .int ((nI n_1) - 1075)), (2, .long a.toInt64), (0, .double a)]) B dX12_root_98 (Nat.le_of_ble_eq_true rfl) rfl ?_
          refine z_lload B dX12_root_100 2 rfl ?_
          refine z_ldc2 (v := 2) B (by decide +kernel) dX12_root_102 ?_
          refine z_lmul B dX12_root_105 ?_
          refine z_fl (fun v_13 => ?_)
          refine z_lstore (lv' := [(7, .long v_13), (9, .long v_12), (11, .int i_1), (5, .long v_2), (4, .int ((nI n_1) - 1075)), (2, .long a.toInt64), (0, .double a)]) B dX12_root_106 (Nat.le_of_ble_eq_true rfl) rfl ?_
          refine z_lload B dX12_root_108 1 rfl ?_
          refine z_ldc2 (v := 2) B (by decide +kernel) dX12_root_110 ?_
          refine z_lload B dX12_root_113 0 rfl ?_
          refine z_lmul B dX12_root_115 ?_
          refine z_fl (fun v_14 => ?_)
          refine z_lconst (v := 1) B dX12_root_116 rfl ?_
          refine z_ladd B dX12_root_117 ?_
          refine z_fl (fun v_15 => ?_)
          refine z_lcmp B dX12_root_118 ?_
          refine z_fi (fun v_16 => ?_)
          refine z_if_ge (tgt := 125) B dX12_root_119 rfl (fun c_5 => ?_) (fun c_5 => ?_)
          · obtain ⟨n_2, e_2, rfl⟩ := nI_of (Int32.not_lt.mpr c_5)
            refine z_lload B dX12_root_125 1 rfl ?_
            refine z_ldc2 (v := 2) B (by decide +kernel) dX12_root_127 ?_
            refine z_lload B dX12_root_130 0 rfl ?_
            refine z_lmul B dX12_root_132 ?_
            refine z_fl (fun v_17 => ?_)
            refine z_lconst (v := 1) B dX12_root_133 rfl ?_
            refine z_ladd B dX12_root_134 ?_
            refine z_fl (fun v_18 => ?_)
            refine z_lsub B dX12_root_135 ?_
            refine z_fl (fun v_19 => ?_)
            refine z_lstore (lv' := [(9, .long v_19), (7, .long v_13), (11, .int i_1), (5, .long v_2), (4, .int ((nI n_1) - 1075)), (2, .long a.toInt64), (0, .double a)]) B dX12_root_136 (Nat.le_of_ble_eq_true rfl) rfl ?_
            refine z_lload B dX12_root_138 1 rfl ?_
            refine z_lconst (v := 1) B dX12_root_140 rfl ?_
            refine z_ladd B dX12_root_141 ?_
            refine z_fl (fun v_20 => ?_)
            refine z_lstore (lv' := [(7, .long v_20), (9, .long v_19), (11, .int i_1), (5, .long v_2), (4, .int ((nI n_1) - 1075)), (2, .long a.toInt64), (0, .double a)]) B dX12_root_142 (Nat.le_of_ble_eq_true rfl) rfl ?_
            refine z_iinc (k := 2) (v := i_1 + (-1)) (lv' := [(11, .int (i_1 + (-1))), (7, .long v_20), (9, .long v_19), (5, .long v_2), (4, .int ((nI n_1) - 1075)), (2, .long a.toInt64), (0, .double a)]) B dX12_root_144 rfl rfl (Nat.le_of_ble_eq_true rfl) rfl ?_
            refine z_goto (tgt := 64) B dX12_root_147 rfl ?_
            refine z_lv [0, 2, 1, 3, 4, 5, 6] rfl ?_
            exact ih1 (i_1 + (-1), v_19, v_20) Φl1 (down28 c_3) ⟨hI2, (fun b9 h9 => ((hF2 b9 (fun j9 h8 h7 => (show False from h7).elim)).trans rfl)), trivial⟩
          · refine z_goto (tgt := 144) B dX12_root_122 rfl ?_
            refine z_iinc (k := 2) (v := i_1 + (-1)) (lv' := [(11, .int (i_1 + (-1))), (7, .long v_13), (9, .long v_12), (5, .long v_2), (4, .int ((nI n_1) - 1075)), (2, .long a.toInt64), (0, .double a)]) B dX12_root_144 rfl rfl (Nat.le_of_ble_eq_true rfl) rfl ?_
            refine z_goto (tgt := 64) B dX12_root_147 rfl ?_
            refine z_lv [0, 2, 1, 3, 4, 5, 6] rfl ?_
            exact ih1 (i_1 + (-1), v_12, v_13) Φl1 (down28 c_3) ⟨hI2, (fun b9 h9 => ((hF2 b9 (fun j9 h8 h7 => (show False from h7).elim)).trans rfl)), trivial⟩
        · refine z_lconst (v := 0) B dX12_root_82 rfl ?_
          refine z_goto (tgt := 97) B dX12_root_83 rfl ?_
          refine z_ladd B dX12_root_97 ?_
          refine z_fl (fun v_21 => ?_)
          refine z_lstore (lv' := [(9, .long v_21), (11, .int i_1), (7, .long i_3), (5, .long v_2), (4, .int ((nI n_1) - 1075)), (2, .long a.toInt64), (0, .double a)]) B dX12_root_98 (Nat.le_of_ble_eq_true rfl) rfl ?_
          refine z_lload B dX12_root_100 2 rfl ?_
          refine z_ldc2 (v := 2) B (by decide +kernel) dX12_root_102 ?_
          refine z_lmul B dX12_root_105 ?_
          refine z_fl (fun v_22 => ?_)
          refine z_lstore (lv' := [(7, .long v_22), (9, .long v_21), (11, .int i_1), (5, .long v_2), (4, .int ((nI n_1) - 1075)), (2, .long a.toInt64), (0, .double a)]) B dX12_root_106 (Nat.le_of_ble_eq_true rfl) rfl ?_
          refine z_lload B dX12_root_108 1 rfl ?_
          refine z_ldc2 (v := 2) B (by decide +kernel) dX12_root_110 ?_
          refine z_lload B dX12_root_113 0 rfl ?_
          refine z_lmul B dX12_root_115 ?_
          refine z_fl (fun v_23 => ?_)
          refine z_lconst (v := 1) B dX12_root_116 rfl ?_
          refine z_ladd B dX12_root_117 ?_
          refine z_fl (fun v_24 => ?_)
          refine z_lcmp B dX12_root_118 ?_
          refine z_fi (fun v_25 => ?_)
          refine z_if_ge (tgt := 125) B dX12_root_119 rfl (fun c_6 => ?_) (fun c_6 => ?_)
          · obtain ⟨n_3, e_3, rfl⟩ := nI_of (Int32.not_lt.mpr c_6)
            refine z_lload B dX12_root_125 1 rfl ?_
            refine z_ldc2 (v := 2) B (by decide +kernel) dX12_root_127 ?_
            refine z_lload B dX12_root_130 0 rfl ?_
            refine z_lmul B dX12_root_132 ?_
            refine z_fl (fun v_26 => ?_)
            refine z_lconst (v := 1) B dX12_root_133 rfl ?_
            refine z_ladd B dX12_root_134 ?_
            refine z_fl (fun v_27 => ?_)
            refine z_lsub B dX12_root_135 ?_
            refine z_fl (fun v_28 => ?_)
            refine z_lstore (lv' := [(9, .long v_28), (7, .long v_22), (11, .int i_1), (5, .long v_2), (4, .int ((nI n_1) - 1075)), (2, .long a.toInt64), (0, .double a)]) B dX12_root_136 (Nat.le_of_ble_eq_true rfl) rfl ?_
            refine z_lload B dX12_root_138 1 rfl ?_
            refine z_lconst (v := 1) B dX12_root_140 rfl ?_
            refine z_ladd B dX12_root_141 ?_
            refine z_fl (fun v_29 => ?_)
            refine z_lstore (lv' := [(7, .long v_29), (9, .long v_28), (11, .int i_1), (5, .long v_2), (4, .int ((nI n_1) - 1075)), (2, .long a.toInt64), (0, .double a)]) B dX12_root_142 (Nat.le_of_ble_eq_true rfl) rfl ?_
            refine z_iinc (k := 2) (v := i_1 + (-1)) (lv' := [(11, .int (i_1 + (-1))), (7, .long v_29), (9, .long v_28), (5, .long v_2), (4, .int ((nI n_1) - 1075)), (2, .long a.toInt64), (0, .double a)]) B dX12_root_144 rfl rfl (Nat.le_of_ble_eq_true rfl) rfl ?_
            refine z_goto (tgt := 64) B dX12_root_147 rfl ?_
            refine z_lv [0, 2, 1, 3, 4, 5, 6] rfl ?_
            exact ih1 (i_1 + (-1), v_28, v_29) Φl1 (down28 c_3) ⟨hI2, (fun b9 h9 => ((hF2 b9 (fun j9 h8 h7 => (show False from h7).elim)).trans rfl)), trivial⟩
          · refine z_goto (tgt := 144) B dX12_root_122 rfl ?_
            refine z_iinc (k := 2) (v := i_1 + (-1)) (lv' := [(11, .int (i_1 + (-1))), (7, .long v_22), (9, .long v_21), (5, .long v_2), (4, .int ((nI n_1) - 1075)), (2, .long a.toInt64), (0, .double a)]) B dX12_root_144 rfl rfl (Nat.le_of_ble_eq_true rfl) rfl ?_
            refine z_goto (tgt := 64) B dX12_root_147 rfl ?_
            refine z_lv [0, 2, 1, 3, 4, 5, 6] rfl ?_
            exact ih1 (i_1 + (-1), v_21, v_22) Φl1 (down28 c_3) ⟨hI2, (fun b9 h9 => ((hF2 b9 (fun j9 h8 h7 => (show False from h7).elim)).trans rfl)), trivial⟩
    · have q_9 := rt_odd b_1 c_2
      refine z_lload B dX12_root_43 0 rfl ?_
      refine z_ldc2 (v := 2) B (by decide +kernel) dX12_root_45 ?_
      refine z_lmul B dX12_root_48 ?_
      refine z_fl (fun v_30 => ?_)
      refine z_lstore (lv' := [(5, .long v_30), (4, .int ((nI n_1) - 1075)), (2, .long a.toInt64), (0, .double a)]) B dX12_root_49 (Nat.le_of_ble_eq_true rfl) rfl ?_
      refine z_iinc (k := 1) (v := ((nI n_1) - 1075) + (-1)) (lv' := [(4, .int (((nI n_1) - 1075) + (-1))), (5, .long v_30), (2, .long a.toInt64), (0, .double a)]) B dX12_root_51 rfl rfl (Nat.le_of_ble_eq_true rfl) rfl ?_
      refine z_lconst (v := 0) B dX12_root_54 rfl ?_
      refine z_lstore (lv' := [(7, .long 0), (4, .int (((nI n_1) - 1075) + (-1))), (5, .long v_30), (2, .long a.toInt64), (0, .double a)]) B dX12_root_55 (Nat.le_of_ble_eq_true rfl) rfl ?_
      refine z_lconst (v := 0) B dX12_root_57 rfl ?_
      refine z_lstore (lv' := [(9, .long 0), (7, .long 0), (4, .int (((nI n_1) - 1075) + (-1))), (5, .long v_30), (2, .long a.toInt64), (0, .double a)]) B dX12_root_58 (Nat.le_of_ble_eq_true rfl) rfl ?_
      refine z_bipush (v := 26) B dX12_root_60 rfl ?_
      refine z_istore (lv' := [(11, .int 26), (9, .long 0), (7, .long 0), (4, .int (((nI n_1) - 1075) + (-1))), (5, .long v_30), (2, .long a.toInt64), (0, .double a)]) B dX12_root_62 (Nat.le_of_ble_eq_true rfl) rfl ?_
      refine z_lv [0, 1, 2, 3, 4, 5, 6] rfl ?_
      refine z_loop (α := Int32 × Int64 × Int64) (fun (a9 : Int32 × Int64 × Int64) Φi => Im G x (rd, NN, fl, pe, le, nx, il, qu, kn, ec, nu, va) Φi ∧ Fr x (fun j9 => False) Φ1 Φi ∧ True) (fun a9 => [(11, .int a9.1), (9, .long a9.2.1), (7, .long a9.2.2), (4, .int (((nI n_1) - 1075) + (-1))), (5, .long v_30), (2, .long a.toInt64), (0, .double a)]) (fun a9 => ((a9.1).toInt + 28).toNat) ?_ (26, 0, 0) ⟨hI1, fun _ _ => rfl, trivial⟩
      rintro ⟨i_4, i_5, i_6⟩ Φl2 ⟨hI3, hF3, -⟩ ih2
      replace hI3 : Im G x (rd, NN, fl, pe, le, nx, il, qu, kn, ec, nu, va) Φl2 := hI3
      show Z p9 l e9 _ s9 m9 _ w9 t9 k9 _ G 12 64 [(11, .int i_4), (9, .long i_5), (7, .long i_6), (4, .int (((nI n_1) - 1075) + (-1))), (5, .long v_30), (2, .long a.toInt64), (0, .double a)] [] Φl2 _ _ _
      refine z_iload B dX12_root_64 0 rfl ?_
      refine z_bipush (v := (-27)) B dX12_root_66 rfl ?_
      refine z_icmp_lt (tgt := 150) B dX12_root_68 rfl (fun c_7 => ?_) (fun c_7 => ?_)
      · refine z_lload B dX12_root_150 2 rfl ?_
        refine z_lconst (v := 1) B dX12_root_152 rfl ?_
        refine z_ladd B dX12_root_153 ?_
        refine z_fl (fun v_31 => ?_)
        refine z_iconst (v := 1) B dX12_root_154 rfl ?_
        refine z_lshr (v := v_31 >>> ((1 : Int32).toInt64 &&& 63)) B dX12_root_155 rfl ?_
        refine z_fl (fun v_32 => ?_)
        refine z_l2d B dX12_root_156 ?_
        refine z_fdq (P := fun u9 : UInt64 => sm64 12 u9) (l2d_sm v_32) (fun v_33 q_11 => ?_)
        replace q_11 : sm64 12 v_33 := q_11
        refine z_iload B dX12_root_157 3 rfl ?_
        refine z_iconst (v := 2) B dX12_root_159 rfl ?_
        refine z_idiv B dX12_root_160 (by decide) ?_
        refine z_bipush (v := 26) B dX12_root_161 rfl ?_
        refine z_isub B dX12_root_163 ?_
        refine z_sipush (v := 1023) B dX12_root_164 rfl ?_
        refine z_iadd B dX12_root_167 ?_
        refine z_i2l (v := ((((((nI n_1) - 1075) + (-1)) / 2) - 26) + 1023).toInt64) B dX12_root_168 rfl ?_
        refine z_bipush (v := 52) B dX12_root_169 rfl ?_
        refine z_lshl (v := (((((((nI n_1) - 1075) + (-1)) / 2) - 26) + 1023).toInt64) <<< ((52 : Int32).toInt64 &&& 63)) B dX12_root_171 rfl ?_
        refine z_bitsd B (show vn_snl2d ((((((((nI n_1) - 1075) + (-1)) / 2) - 26) + 1023).toInt64) <<< ((52 : Int32).toInt64 &&& 63)) = false from q_9.1) (by decide +kernel) (by decide +kernel) (by decide +kernel) (by decide +kernel) ⟨Nat.le_of_ble_eq_true rfl, Nat.le_of_ble_eq_true rfl⟩ dX12_root_172 ?_
        refine z_fdq (P := fun u9 : UInt64 => wD (Jvm.FP.Core.val64 u9)) (show wD (Jvm.FP.Core.val64 (((((((((nI n_1) - 1075) + (-1)) / 2) - 26) + 1023).toInt64) <<< ((52 : Int32).toInt64 &&& 63)).toUInt64)) from q_9.2) (fun v_34 q_12 => ?_)
        replace q_12 : wD (Jvm.FP.Core.val64 v_34) := q_12
        have q_14 : nn64 (FP.dmul v_33 v_34) := (mul_nnw (sm_nn q_11) q_12)
        refine z_dmul B dX12_root_175 (vf_of q_14) ?_
        refine z_fdq (P := fun u9 : UInt64 => nn64 u9) q_14 (fun v_35 q_16 => ?_)
        replace q_16 : nn64 v_35 := q_16
        exact z_ret_d B dX12_root_176 ⟨⟨_, rfl, q_16⟩, rfl, hI3, (fun b9 h9 => ((hF3 b9 (fun j9 h8 h7 => (show False from h7).elim)).trans ((hF1 b9 (fun j9 h8 h7 => (show False from h7).elim)).trans rfl)))⟩
      · refine z_ldc2 (v := 4) B (by decide +kernel) dX12_root_71 ?_
        refine z_lload B dX12_root_74 1 rfl ?_
        refine z_lmul B dX12_root_76 ?_
        refine z_fl (fun v_36 => ?_)
        refine z_iload B dX12_root_77 0 rfl ?_
        refine z_if_ge (tgt := 86) B dX12_root_79 rfl (fun c_8 => ?_) (fun c_8 => ?_)
        · refine z_lload B dX12_root_86 4 rfl ?_
          refine z_iconst (v := 2) B dX12_root_88 rfl ?_
          refine z_iload B dX12_root_89 0 rfl ?_
          refine z_imul B dX12_root_91 ?_
          refine z_fi (fun v_37 => ?_)
          refine z_lshr (v := v_30 >>> ((v_37 : Int32).toInt64 &&& 63)) B dX12_root_92 rfl ?_
          refine z_fl (fun v_38 => ?_)
          refine z_ldc2 (v := 3) B (by decide +kernel) dX12_root_93 ?_
          refine z_land B dX12_root_96 ?_
          refine z_fl (fun v_39 => ?_)
          refine z_ladd B dX12_root_97 ?_
          refine z_fl (fun v_40 => ?_)
          refine z_lstore (lv' := [(9, .long v_40), (11, .int i_4), (7, .long i_6), (4, .int (((nI n_1) - 1075) + (-1))), (5, .long v_30), (2, .long a.toInt64), (0, .double a)]) B dX12_root_98 (Nat.le_of_ble_eq_true rfl) rfl ?_
          refine z_lload B dX12_root_100 2 rfl ?_
          refine z_ldc2 (v := 2) B (by decide +kernel) dX12_root_102 ?_
          refine z_lmul B dX12_root_105 ?_
          refine z_fl (fun v_41 => ?_)
          refine z_lstore (lv' := [(7, .long v_41), (9, .long v_40), (11, .int i_4), (4, .int (((nI n_1) - 1075) + (-1))), (5, .long v_30), (2, .long a.toInt64), (0, .double a)]) B dX12_root_106 (Nat.le_of_ble_eq_true rfl) rfl ?_
          refine z_lload B dX12_root_108 1 rfl ?_
          refine z_ldc2 (v := 2) B (by decide +kernel) dX12_root_110 ?_
          refine z_lload B dX12_root_113 0 rfl ?_
          refine z_lmul B dX12_root_115 ?_
          refine z_fl (fun v_42 => ?_)
          refine z_lconst (v := 1) B dX12_root_116 rfl ?_
          refine z_ladd B dX12_root_117 ?_
          refine z_fl (fun v_43 => ?_)
          refine z_lcmp B dX12_root_118 ?_
          refine z_fi (fun v_44 => ?_)
          refine z_if_ge (tgt := 125) B dX12_root_119 rfl (fun c_9 => ?_) (fun c_9 => ?_)
          · obtain ⟨n_4, e_4, rfl⟩ := nI_of (Int32.not_lt.mpr c_9)
            refine z_lload B dX12_root_125 1 rfl ?_
            refine z_ldc2 (v := 2) B (by decide +kernel) dX12_root_127 ?_
            refine z_lload B dX12_root_130 0 rfl ?_
            refine z_lmul B dX12_root_132 ?_
            refine z_fl (fun v_45 => ?_)
            refine z_lconst (v := 1) B dX12_root_133 rfl ?_
            refine z_ladd B dX12_root_134 ?_
            refine z_fl (fun v_46 => ?_)
            refine z_lsub B dX12_root_135 ?_
            refine z_fl (fun v_47 => ?_)
            refine z_lstore (lv' := [(9, .long v_47), (7, .long v_41), (11, .int i_4), (4, .int (((nI n_1) - 1075) + (-1))), (5, .long v_30), (2, .long a.toInt64), (0, .double a)]) B dX12_root_136 (Nat.le_of_ble_eq_true rfl) rfl ?_
            refine z_lload B dX12_root_138 1 rfl ?_
            refine z_lconst (v := 1) B dX12_root_140 rfl ?_
            refine z_ladd B dX12_root_141 ?_
            refine z_fl (fun v_48 => ?_)
            refine z_lstore (lv' := [(7, .long v_48), (9, .long v_47), (11, .int i_4), (4, .int (((nI n_1) - 1075) + (-1))), (5, .long v_30), (2, .long a.toInt64), (0, .double a)]) B dX12_root_142 (Nat.le_of_ble_eq_true rfl) rfl ?_
            refine z_iinc (k := 2) (v := i_4 + (-1)) (lv' := [(11, .int (i_4 + (-1))), (7, .long v_48), (9, .long v_47), (4, .int (((nI n_1) - 1075) + (-1))), (5, .long v_30), (2, .long a.toInt64), (0, .double a)]) B dX12_root_144 rfl rfl (Nat.le_of_ble_eq_true rfl) rfl ?_
            refine z_goto (tgt := 64) B dX12_root_147 rfl ?_
            refine z_lv [0, 2, 1, 3, 4, 5, 6] rfl ?_
            exact ih2 (i_4 + (-1), v_47, v_48) Φl2 (down28 c_7) ⟨hI3, (fun b9 h9 => ((hF3 b9 (fun j9 h8 h7 => (show False from h7).elim)).trans rfl)), trivial⟩
          · refine z_goto (tgt := 144) B dX12_root_122 rfl ?_
            refine z_iinc (k := 2) (v := i_4 + (-1)) (lv' := [(11, .int (i_4 + (-1))), (7, .long v_41), (9, .long v_40), (4, .int (((nI n_1) - 1075) + (-1))), (5, .long v_30), (2, .long a.toInt64), (0, .double a)]) B dX12_root_144 rfl rfl (Nat.le_of_ble_eq_true rfl) rfl ?_
            refine z_goto (tgt := 64) B dX12_root_147 rfl ?_
            refine z_lv [0, 2, 1, 3, 4, 5, 6] rfl ?_
            exact ih2 (i_4 + (-1), v_40, v_41) Φl2 (down28 c_7) ⟨hI3, (fun b9 h9 => ((hF3 b9 (fun j9 h8 h7 => (show False from h7).elim)).trans rfl)), trivial⟩
        · refine z_lconst (v := 0) B dX12_root_82 rfl ?_
          refine z_goto (tgt := 97) B dX12_root_83 rfl ?_
          refine z_ladd B dX12_root_97 ?_
          refine z_fl (fun v_49 => ?_)
          refine z_lstore (lv' := [(9, .long v_49), (11, .int i_4), (7, .long i_6), (4, .int (((nI n_1) - 1075) + (-1))), (5, .long v_30), (2, .long a.toInt64), (0, .double a)]) B dX12_root_98 (Nat.le_of_ble_eq_true rfl) rfl ?_
          refine z_lload B dX12_root_100 2 rfl ?_
          refine z_ldc2 (v := 2) B (by decide +kernel) dX12_root_102 ?_
          refine z_lmul B dX12_root_105 ?_
          refine z_fl (fun v_50 => ?_)
          refine z_lstore (lv' := [(7, .long v_50), (9, .long v_49), (11, .int i_4), (4, .int (((nI n_1) - 1075) + (-1))), (5, .long v_30), (2, .long a.toInt64), (0, .double a)]) B dX12_root_106 (Nat.le_of_ble_eq_true rfl) rfl ?_
          refine z_lload B dX12_root_108 1 rfl ?_
          refine z_ldc2 (v := 2) B (by decide +kernel) dX12_root_110 ?_
          refine z_lload B dX12_root_113 0 rfl ?_
          refine z_lmul B dX12_root_115 ?_
          refine z_fl (fun v_51 => ?_)
          refine z_lconst (v := 1) B dX12_root_116 rfl ?_
          refine z_ladd B dX12_root_117 ?_
          refine z_fl (fun v_52 => ?_)
          refine z_lcmp B dX12_root_118 ?_
          refine z_fi (fun v_53 => ?_)
          refine z_if_ge (tgt := 125) B dX12_root_119 rfl (fun c_10 => ?_) (fun c_10 => ?_)
          · obtain ⟨n_5, e_5, rfl⟩ := nI_of (Int32.not_lt.mpr c_10)
            refine z_lload B dX12_root_125 1 rfl ?_
            refine z_ldc2 (v := 2) B (by decide +kernel) dX12_root_127 ?_
            refine z_lload B dX12_root_130 0 rfl ?_
            refine z_lmul B dX12_root_132 ?_
            refine z_fl (fun v_54 => ?_)
            refine z_lconst (v := 1) B dX12_root_133 rfl ?_
            refine z_ladd B dX12_root_134 ?_
            refine z_fl (fun v_55 => ?_)
            refine z_lsub B dX12_root_135 ?_
            refine z_fl (fun v_56 => ?_)
            refine z_lstore (lv' := [(9, .long v_56), (7, .long v_50), (11, .int i_4), (4, .int (((nI n_1) - 1075) + (-1))), (5, .long v_30), (2, .long a.toInt64), (0, .double a)]) B dX12_root_136 (Nat.le_of_ble_eq_true rfl) rfl ?_
            refine z_lload B dX12_root_138 1 rfl ?_
            refine z_lconst (v := 1) B dX12_root_140 rfl ?_
            refine z_ladd B dX12_root_141 ?_
            refine z_fl (fun v_57 => ?_)
            refine z_lstore (lv' := [(7, .long v_57), (9, .long v_56), (11, .int i_4), (4, .int (((nI n_1) - 1075) + (-1))), (5, .long v_30), (2, .long a.toInt64), (0, .double a)]) B dX12_root_142 (Nat.le_of_ble_eq_true rfl) rfl ?_
            refine z_iinc (k := 2) (v := i_4 + (-1)) (lv' := [(11, .int (i_4 + (-1))), (7, .long v_57), (9, .long v_56), (4, .int (((nI n_1) - 1075) + (-1))), (5, .long v_30), (2, .long a.toInt64), (0, .double a)]) B dX12_root_144 rfl rfl (Nat.le_of_ble_eq_true rfl) rfl ?_
            refine z_goto (tgt := 64) B dX12_root_147 rfl ?_
            refine z_lv [0, 2, 1, 3, 4, 5, 6] rfl ?_
            exact ih2 (i_4 + (-1), v_56, v_57) Φl2 (down28 c_7) ⟨hI3, (fun b9 h9 => ((hF3 b9 (fun j9 h8 h7 => (show False from h7).elim)).trans rfl)), trivial⟩
          · refine z_goto (tgt := 144) B dX12_root_122 rfl ?_
            refine z_iinc (k := 2) (v := i_4 + (-1)) (lv' := [(11, .int (i_4 + (-1))), (7, .long v_50), (9, .long v_49), (4, .int (((nI n_1) - 1075) + (-1))), (5, .long v_30), (2, .long a.toInt64), (0, .double a)]) B dX12_root_144 rfl rfl (Nat.le_of_ble_eq_true rfl) rfl ?_
            refine z_goto (tgt := 64) B dX12_root_147 rfl ?_
            refine z_lv [0, 2, 1, 3, 4, 5, 6] rfl ?_
            exact ih2 (i_4 + (-1), v_49, v_50) Φl2 (down28 c_7) ⟨hI3, (fun b9 h9 => ((hF3 b9 (fun j9 h8 h7 => (show False from h7).elim)).trans rfl)), trivial⟩
  · refine z_dconst0 B dX12_root_6 ?_
    exact z_ret_d B dX12_root_7 ⟨⟨_, rfl, (sm_nn sm_zero)⟩, rfl, hI, (fun b9 h9 => rfl)⟩

set_option maxHeartbeats 4000000 in
set_option maxRecDepth 100000 in
theorem r_marginOf (G : EnvG) (l : Launch) (Φ : Hm) (sz x : Nat) (rd : (Nat → Int32) → Prop) (fl : Nat) (pe : Nat) (le : Nat) (nx : Nat) (il : Nat) (qu : Nat) (kn : Int32) (ec : Int32) (nu : Int32) (va : Int64) (a : UInt64) (hx : G.2.2.2 ≤ x) (hI : Im G x (rd, NN, fl, pe, le, nx, il, qu, kn, ec, nu, va) Φ) (ha : pd64 a) : Ct G l yX12_marginOf wsX12_marginOf ({ frames := 3, cells := 0, slots := 0, locals := 73 }) 0 0 [.double a] Φ sz (fun v Φ1 sz1 => (∃ r9 : UInt64, v = some (.double r9) ∧ nn64 r9) ∧ sz1 = sz ∧ (Im G x (rd, NN, fl, pe, le, nx, il, qu, kn, ec, nu, va) Φ1) ∧ Fr x (fun j9 => False) Φ Φ1) := by
  refine Ct.of (cc := cX12_marginOf) (maxL := 2) (ret := (some .double)) (by decide) rfl (Nat.le_of_ble_eq_true rfl) ?_
  intro p9 e9 s9 m9 w9 t9 k9 B
  show Z p9 l e9 _ s9 m9 _ w9 t9 k9 _ G 2 0 [(0, .double a)] [] Φ sz 0 0
  refine z_ldc2d (v := 4611505874442293084) B (by decide +kernel) dX12_marginOf_0 ?_
  refine z_dload_n B dX12_marginOf_3 rfl 0 rfl ?_
  refine z_callS (As := [.double a]) (rest := [.double 4611505874442293084]) B (r_root G l Φ sz x rd fl pe le nx il qu kn ec nu va a hx hI ha) (va_cwS 1 B.1.2.2.2.2 gX12_marginOf_X12_root rfl rfl rfl (by decide +kernel) ⟨Nat.le_of_ble_eq_true rfl, Nat.le_of_ble_eq_true rfl⟩) rfl rfl (Nat.le_of_ble_eq_true rfl) dX12_marginOf_4 ⟨Nat.le_of_ble_eq_true rfl, Nat.le_of_ble_eq_true rfl⟩ (fun r_1 Φ1 sz1 st1 hp1 hs1 => ?_)
  obtain ⟨⟨v_1, rfl, q_1⟩, hq1, hI1, hF1⟩ := hp1
  subst sz1
  replace hs1 : st1 = [.double v_1, .double 4611505874442293084] := hs1
  subst st1
  replace hI1 : Im G x (rd, NN, fl, pe, le, nx, il, qu, kn, ec, nu, va) Φ1 := hI1
  have q_3 : nn64 (FP.dmul 4611505874442293084 v_1) := (mul_wnn (w_of (u := 4611505874442293084) (s := false) (c := 8827055269646172) (q := -52) (by decide +kernel) (by decide)) q_1)
  refine z_dmul B dX12_marginOf_7 (vf_of q_3) ?_
  refine z_fdq (P := fun u9 : UInt64 => nn64 u9) q_3 (fun v_2 q_5 => ?_)
  replace q_5 : nn64 v_2 := q_5
  exact z_ret_d B dX12_marginOf_8 ⟨⟨_, rfl, q_5⟩, rfl, hI1, (fun b9 h9 => ((hF1 b9 (fun j9 h8 h7 => (show False from h7).elim)).trans rfl))⟩

set_option maxHeartbeats 4000000 in
set_option maxRecDepth 100000 in
theorem r_lowerOf (G : EnvG) (l : Launch) (Φ : Hm) (sz x : Nat) (rd : (Nat → Int32) → Prop) (fl : Nat) (pe : Nat) (le : Nat) (nx : Nat) (il : Nat) (qu : Nat) (kn : Int32) (ec : Int32) (nu : Int32) (va : Int64) (k : Nat) (w : Nat) (hx : G.2.2.2 ≤ x) (hI : Im G x (rd, NN, fl, pe, le, nx, il, qu, kn, ec, nu, va) Φ) (hk : k < 24) (hw : w < 2) : Ct G l yX12_lowerOf wsX12_lowerOf ({ frames := 4, cells := 0, slots := 0, locals := 94 }) 0 0 [.ref x, .int (nI k), .int (nI w)] Φ sz (fun v Φ1 sz1 => (∃ r9 : UInt64, v = some (.double r9) ∧ nn64 r9) ∧ sz1 = sz ∧ (Im G x (rd, NN, fl, pe, le, nx, il, qu, kn, ec, nu, va) Φ1) ∧ Fr x (fun j9 => False) Φ Φ1) := by
  refine Ct.of (cc := cX12_lowerOf) (maxL := 7) (ret := (some .double)) (by decide) rfl (Nat.le_of_ble_eq_true rfl) ?_
  intro p9 e9 s9 m9 w9 t9 k9 B
  show Z p9 l e9 _ s9 m9 _ w9 t9 k9 _ G 7 0 [(0, .ref x), (1, .int (nI k)), (2, .int (nI w))] [] Φ sz 0 0
  refine z_aload_n B dX12_lowerOf_0 rfl 0 rfl ?_
  obtain ⟨v_1, v_2, v_3, n_1, v_4, v_5, v_6, v_7, v_8, v_9, v_10, v_11, v_12, n_2, v_13, n_3, n_4, v_14, v_15, h_1, b_12, b_1, b_2, b_3, b_4, b_5, b_6, b_7, b_8, b_9, b_10, b_11⟩ := im0 hI
  replace b_1 : 1 ≤ n_1 := b_1
  replace b_2 : n_1 ≤ 1024 := b_2
  replace b_3 : fl ≤ 12 := b_3
  replace b_4 : pe ≤ 24 := b_4
  replace b_5 : le ≤ 700 := b_5
  replace b_6 : qu ≤ 12 := b_6
  replace b_7 : n_2 ≤ 8 := b_7
  replace b_8 : n_3 ≤ 24 := b_8
  replace b_9 : n_4 ≤ 24 := b_9
  replace b_10 : il ≤ 700 := b_10
  replace b_11 : nx ≤ 701 := b_11
  have h_2 : Φ x = some (o_ 14 [.int v_1, .ref (x + 1), .ref (x + 2), .int v_2, .int v_3, .int (nI n_1), .int v_4, .int v_5, .ref (x + 3), .ref (x + 4), .int v_6, .long v_7, .ref (x + 5), .int (nI fl), .int v_8, .long v_9, .long v_10, .long v_11, .long v_12, .ref (x + 6), .ref (x + 7), .int (nI pe), .ref (x + 8), .int (nI le), .ref (x + 9), .ref (x + 10), .int (nI qu), .ref (x + 11), .ref (x + 12), .ref (x + 13), .ref (x + 14), .ref (x + 15), .ref (x + 16), .int (nI n_2), .long v_13, .ref (x + 17), .ref (x + 18), .ref (x + 19), .ref (x + 20), .ref (x + 21), .ref (x + 22), .int (nI n_3), .ref (x + 23), .ref (x + 24), .int (nI n_4), .ref (x + 25), .int (nI il), .int (nI nx), .int ec, .int v_14, .int kn, .int v_15, .int nu, .long va]) := h_1
  refine z_get (ref := "FlowExporterModel") (C := RX12) (T := TX12) (N := 54) (ci := 14) (v := .ref (x + 21)) B (by decide +kernel) rfl 39 (by decide) (by decide +kernel) rfl h_2 rfl dX12_lowerOf_1 ?_
  refine z_iconst (v := 2) B dX12_lowerOf_4 rfl ?_
  refine z_iload_n B dX12_lowerOf_5 rfl 1 rfl ?_
  refine z_imul B dX12_lowerOf_6 ?_
  refine z_top (st1 := [.int (nI (2 * k)), .ref (x + 21)]) (congrArg (fun w9 : Int32 => ([.int w9, .ref (x + 21)] : List Value)) (nI_mul 2 k)) ?_
  refine z_iload_n B dX12_lowerOf_7 rfl 2 rfl ?_
  refine z_iadd B dX12_lowerOf_8 ?_
  refine z_top (st1 := [.int (nI (2 * k + w)), .ref (x + 21)]) (congrArg (fun w9 : Int32 => ([.int w9, .ref (x + 21)] : List Value)) (nI_add (2 * k) w)) ?_
  obtain ⟨f_1, h_3⟩ := imk (k := 21) hI
  have h_4 : Φ (x + 21) = some (al_ G 48 f_1) := h_3
  refine z_lald B h_4 (vp_in_nI (by omega) (by omega)) dX12_lowerOf_9 ?_
  refine z_fl (fun v_16 => ?_)
  refine z_l2d B dX12_lowerOf_10 ?_
  refine z_fdq (P := fun u9 : UInt64 => sm64 12 u9) (l2d_sm v_16) (fun v_17 q_2 => ?_)
  replace q_2 : sm64 12 v_17 := q_2
  refine z_aload_n B dX12_lowerOf_11 rfl 0 rfl ?_
  refine z_get (ref := "FlowExporterModel") (C := RX12) (T := TX12) (N := 54) (ci := 14) (v := .ref (x + 22)) B (by decide +kernel) rfl 40 (by decide) (by decide +kernel) rfl h_2 rfl dX12_lowerOf_12 ?_
  refine z_iconst (v := 2) B dX12_lowerOf_15 rfl ?_
  refine z_iload_n B dX12_lowerOf_16 rfl 1 rfl ?_
  refine z_imul B dX12_lowerOf_17 ?_
  refine z_top (st1 := [.int (nI (2 * k)), .ref (x + 22), .double v_17]) (congrArg (fun w9 : Int32 => ([.int w9, .ref (x + 22), .double v_17] : List Value)) (nI_mul 2 k)) ?_
  refine z_iload_n B dX12_lowerOf_18 rfl 2 rfl ?_
  refine z_iadd B dX12_lowerOf_19 ?_
  refine z_top (st1 := [.int (nI (2 * k + w)), .ref (x + 22), .double v_17]) (congrArg (fun w9 : Int32 => ([.int w9, .ref (x + 22), .double v_17] : List Value)) (nI_add (2 * k) w)) ?_
  obtain ⟨f_2, h_5, r_2⟩ := imk (k := 22) hI
  have h_6 : Φ (x + 22) = some (ad_ G 48 f_2) := h_5
  refine z_dald B h_6 (vp_in_nI (by omega) (by omega)) dX12_lowerOf_20 ?_
  refine z_fdq (P := fun u9 : UInt64 => pd64 u9) (r_2 _) (fun v_19 q_4 => ?_)
  replace q_4 : pd64 v_19 := q_4
  refine z_callS (As := [.double v_19]) (rest := [.double v_17]) B (r_marginOf G l Φ sz x rd fl pe le nx il qu kn ec nu va v_19 hx hI q_4) (va_cwS 1 B.1.2.2.2.2 gX12_lowerOf_X12_marginOf rfl rfl rfl (by decide +kernel) ⟨Nat.le_of_ble_eq_true rfl, Nat.le_of_ble_eq_true rfl⟩) rfl rfl (Nat.le_of_ble_eq_true rfl) dX12_lowerOf_21 ⟨Nat.le_of_ble_eq_true rfl, Nat.le_of_ble_eq_true rfl⟩ (fun r_3 Φ1 sz1 st1 hp1 hs1 => ?_)
  obtain ⟨⟨v_20, rfl, q_5⟩, hq1, hI1, hF1⟩ := hp1
  subst sz1
  replace hs1 : st1 = [.double v_20, .double v_17] := hs1
  subst st1
  replace hI1 : Im G x (rd, NN, fl, pe, le, nx, il, qu, kn, ec, nu, va) Φ1 := hI1
  have q_7 : nn64 (FP.dsub v_17 v_20) := (sub_nn q_2 q_5)
  refine z_dsub B dX12_lowerOf_24 (vf_of q_7) ?_
  refine z_fdq (P := fun u9 : UInt64 => nn64 u9) q_7 (fun v_21 q_9 => ?_)
  replace q_9 : nn64 v_21 := q_9
  refine z_dstore_n (lv' := [(3, .double v_21), (0, .ref x), (1, .int (nI k)), (2, .int (nI w))]) B dX12_lowerOf_25 rfl (Nat.le_of_ble_eq_true rfl) rfl ?_
  refine z_aload_n B dX12_lowerOf_26 rfl 1 rfl ?_
  have h_7 : Φ1 x = some (o_ 14 [.int v_1, .ref (x + 1), .ref (x + 2), .int v_2, .int v_3, .int (nI n_1), .int v_4, .int v_5, .ref (x + 3), .ref (x + 4), .int v_6, .long v_7, .ref (x + 5), .int (nI fl), .int v_8, .long v_9, .long v_10, .long v_11, .long v_12, .ref (x + 6), .ref (x + 7), .int (nI pe), .ref (x + 8), .int (nI le), .ref (x + 9), .ref (x + 10), .int (nI qu), .ref (x + 11), .ref (x + 12), .ref (x + 13), .ref (x + 14), .ref (x + 15), .ref (x + 16), .int (nI n_2), .long v_13, .ref (x + 17), .ref (x + 18), .ref (x + 19), .ref (x + 20), .ref (x + 21), .ref (x + 22), .int (nI n_3), .ref (x + 23), .ref (x + 24), .int (nI n_4), .ref (x + 25), .int (nI il), .int (nI nx), .int ec, .int v_14, .int kn, .int v_15, .int nu, .long va]) := ((hF1 x (fun j9 h8 h7 => (show False from h7).elim)).trans h_2)
  refine z_get (ref := "FlowExporterModel") (C := RX12) (T := TX12) (N := 54) (ci := 14) (v := .ref (x + 20)) B (by decide +kernel) rfl 38 (by decide) (by decide +kernel) rfl h_7 rfl dX12_lowerOf_27 ?_
  refine z_iconst (v := 2) B dX12_lowerOf_30 rfl ?_
  refine z_iload_n B dX12_lowerOf_31 rfl 2 rfl ?_
  refine z_imul B dX12_lowerOf_32 ?_
  refine z_top (st1 := [.int (nI (2 * k)), .ref (x + 20)]) (congrArg (fun w9 : Int32 => ([.int w9, .ref (x + 20)] : List Value)) (nI_mul 2 k)) ?_
  refine z_iload_n B dX12_lowerOf_33 rfl 3 rfl ?_
  refine z_iadd B dX12_lowerOf_34 ?_
  refine z_top (st1 := [.int (nI (2 * k + w)), .ref (x + 20)]) (congrArg (fun w9 : Int32 => ([.int w9, .ref (x + 20)] : List Value)) (nI_add (2 * k) w)) ?_
  obtain ⟨f_3, h_8⟩ := imk (k := 20) hI1
  have h_9 : Φ1 (x + 20) = some (al_ G 48 f_3) := h_8
  refine z_lald B h_9 (vp_in_nI (by omega) (by omega)) dX12_lowerOf_35 ?_
  refine z_fl (fun v_22 => ?_)
  refine z_l2d B dX12_lowerOf_36 ?_
  refine z_fdq (P := fun u9 : UInt64 => sm64 12 u9) (l2d_sm v_22) (fun v_23 q_11 => ?_)
  replace q_11 : sm64 12 v_23 := q_11
  refine z_dstore (lv' := [(5, .double v_23), (3, .double v_21), (0, .ref x), (1, .int (nI k)), (2, .int (nI w))]) B dX12_lowerOf_37 (Nat.le_of_ble_eq_true rfl) rfl ?_
  refine z_dload_n B dX12_lowerOf_39 rfl 1 rfl ?_
  refine z_dload B dX12_lowerOf_40 0 rfl ?_
  refine z_dcmp B dX12_lowerOf_42 ?_
  refine z_fi (fun v_24 => ?_)
  refine z_if_le (tgt := 50) B dX12_lowerOf_43 rfl (fun c_1 => ?_) (fun c_1 => ?_)
  · refine z_dload B dX12_lowerOf_50 0 rfl ?_
    exact z_ret_d B dX12_lowerOf_52 ⟨⟨_, rfl, (sm_nn q_11)⟩, rfl, hI1, (fun b9 h9 => ((hF1 b9 (fun j9 h8 h7 => (show False from h7).elim)).trans rfl))⟩
  · obtain ⟨n_5, e_2, e_1, rfl⟩ := nI_ofp c_1
    refine z_dload_n B dX12_lowerOf_46 rfl 1 rfl ?_
    refine z_goto (tgt := 52) B dX12_lowerOf_47 rfl ?_
    exact z_ret_d B dX12_lowerOf_52 ⟨⟨_, rfl, q_9⟩, rfl, hI1, (fun b9 h9 => ((hF1 b9 (fun j9 h8 h7 => (show False from h7).elim)).trans rfl))⟩

set_option maxHeartbeats 4000000 in
set_option maxRecDepth 100000 in
theorem r_upperOf (G : EnvG) (l : Launch) (Φ : Hm) (sz x : Nat) (rd : (Nat → Int32) → Prop) (fl : Nat) (pe : Nat) (le : Nat) (nx : Nat) (il : Nat) (qu : Nat) (kn : Int32) (ec : Int32) (nu : Int32) (va : Int64) (k : Nat) (w : Nat) (hx : G.2.2.2 ≤ x) (hI : Im G x (rd, NN, fl, pe, le, nx, il, qu, kn, ec, nu, va) Φ) (hk : k < 24) (hw : w < 2) : Ct G l yX12_upperOf wsX12_upperOf ({ frames := 4, cells := 0, slots := 0, locals := 94 }) 0 0 [.ref x, .int (nI k), .int (nI w)] Φ sz (fun v Φ1 sz1 => (∃ r9 : UInt64, v = some (.double r9) ∧ nn64 r9) ∧ sz1 = sz ∧ (Im G x (rd, NN, fl, pe, le, nx, il, qu, kn, ec, nu, va) Φ1) ∧ Fr x (fun j9 => False) Φ Φ1) := by
  refine Ct.of (cc := cX12_upperOf) (maxL := 3) (ret := (some .double)) (by decide) rfl (Nat.le_of_ble_eq_true rfl) ?_
  intro p9 e9 s9 m9 w9 t9 k9 B
  show Z p9 l e9 _ s9 m9 _ w9 t9 k9 _ G 3 0 [(0, .ref x), (1, .int (nI k)), (2, .int (nI w))] [] Φ sz 0 0
  refine z_aload_n B dX12_upperOf_0 rfl 0 rfl ?_
  obtain ⟨v_1, v_2, v_3, n_1, v_4, v_5, v_6, v_7, v_8, v_9, v_10, v_11, v_12, n_2, v_13, n_3, n_4, v_14, v_15, h_1, b_12, b_1, b_2, b_3, b_4, b_5, b_6, b_7, b_8, b_9, b_10, b_11⟩ := im0 hI
  replace b_1 : 1 ≤ n_1 := b_1
  replace b_2 : n_1 ≤ 1024 := b_2
  replace b_3 : fl ≤ 12 := b_3
  replace b_4 : pe ≤ 24 := b_4
  replace b_5 : le ≤ 700 := b_5
  replace b_6 : qu ≤ 12 := b_6
  replace b_7 : n_2 ≤ 8 := b_7
  replace b_8 : n_3 ≤ 24 := b_8
  replace b_9 : n_4 ≤ 24 := b_9
  replace b_10 : il ≤ 700 := b_10
  replace b_11 : nx ≤ 701 := b_11
  have h_2 : Φ x = some (o_ 14 [.int v_1, .ref (x + 1), .ref (x + 2), .int v_2, .int v_3, .int (nI n_1), .int v_4, .int v_5, .ref (x + 3), .ref (x + 4), .int v_6, .long v_7, .ref (x + 5), .int (nI fl), .int v_8, .long v_9, .long v_10, .long v_11, .long v_12, .ref (x + 6), .ref (x + 7), .int (nI pe), .ref (x + 8), .int (nI le), .ref (x + 9), .ref (x + 10), .int (nI qu), .ref (x + 11), .ref (x + 12), .ref (x + 13), .ref (x + 14), .ref (x + 15), .ref (x + 16), .int (nI n_2), .long v_13, .ref (x + 17), .ref (x + 18), .ref (x + 19), .ref (x + 20), .ref (x + 21), .ref (x + 22), .int (nI n_3), .ref (x + 23), .ref (x + 24), .int (nI n_4), .ref (x + 25), .int (nI il), .int (nI nx), .int ec, .int v_14, .int kn, .int v_15, .int nu, .long va]) := h_1
  refine z_get (ref := "FlowExporterModel") (C := RX12) (T := TX12) (N := 54) (ci := 14) (v := .ref (x + 21)) B (by decide +kernel) rfl 39 (by decide) (by decide +kernel) rfl h_2 rfl dX12_upperOf_1 ?_
  refine z_iconst (v := 2) B dX12_upperOf_4 rfl ?_
  refine z_iload_n B dX12_upperOf_5 rfl 1 rfl ?_
  refine z_imul B dX12_upperOf_6 ?_
  refine z_top (st1 := [.int (nI (2 * k)), .ref (x + 21)]) (congrArg (fun w9 : Int32 => ([.int w9, .ref (x + 21)] : List Value)) (nI_mul 2 k)) ?_
  refine z_iload_n B dX12_upperOf_7 rfl 2 rfl ?_
  refine z_iadd B dX12_upperOf_8 ?_
  refine z_top (st1 := [.int (nI (2 * k + w)), .ref (x + 21)]) (congrArg (fun w9 : Int32 => ([.int w9, .ref (x + 21)] : List Value)) (nI_add (2 * k) w)) ?_
  obtain ⟨f_1, h_3⟩ := imk (k := 21) hI
  have h_4 : Φ (x + 21) = some (al_ G 48 f_1) := h_3
  refine z_lald B h_4 (vp_in_nI (by omega) (by omega)) dX12_upperOf_9 ?_
  refine z_fl (fun v_16 => ?_)
  refine z_l2d B dX12_upperOf_10 ?_
  refine z_fdq (P := fun u9 : UInt64 => sm64 12 u9) (l2d_sm v_16) (fun v_17 q_2 => ?_)
  replace q_2 : sm64 12 v_17 := q_2
  refine z_aload_n B dX12_upperOf_11 rfl 0 rfl ?_
  refine z_get (ref := "FlowExporterModel") (C := RX12) (T := TX12) (N := 54) (ci := 14) (v := .ref (x + 22)) B (by decide +kernel) rfl 40 (by decide) (by decide +kernel) rfl h_2 rfl dX12_upperOf_12 ?_
  refine z_iconst (v := 2) B dX12_upperOf_15 rfl ?_
  refine z_iload_n B dX12_upperOf_16 rfl 1 rfl ?_
  refine z_imul B dX12_upperOf_17 ?_
  refine z_top (st1 := [.int (nI (2 * k)), .ref (x + 22), .double v_17]) (congrArg (fun w9 : Int32 => ([.int w9, .ref (x + 22), .double v_17] : List Value)) (nI_mul 2 k)) ?_
  refine z_iload_n B dX12_upperOf_18 rfl 2 rfl ?_
  refine z_iadd B dX12_upperOf_19 ?_
  refine z_top (st1 := [.int (nI (2 * k + w)), .ref (x + 22), .double v_17]) (congrArg (fun w9 : Int32 => ([.int w9, .ref (x + 22), .double v_17] : List Value)) (nI_add (2 * k) w)) ?_
  obtain ⟨f_2, h_5, r_2⟩ := imk (k := 22) hI
  have h_6 : Φ (x + 22) = some (ad_ G 48 f_2) := h_5
  refine z_dald B h_6 (vp_in_nI (by omega) (by omega)) dX12_upperOf_20 ?_
  refine z_fdq (P := fun u9 : UInt64 => pd64 u9) (r_2 _) (fun v_19 q_4 => ?_)
  replace q_4 : pd64 v_19 := q_4
  refine z_callS (As := [.double v_19]) (rest := [.double v_17]) B (r_marginOf G l Φ sz x rd fl pe le nx il qu kn ec nu va v_19 hx hI q_4) (va_cwS 1 B.1.2.2.2.2 gX12_upperOf_X12_marginOf rfl rfl rfl (by decide +kernel) ⟨Nat.le_of_ble_eq_true rfl, Nat.le_of_ble_eq_true rfl⟩) rfl rfl (Nat.le_of_ble_eq_true rfl) dX12_upperOf_21 ⟨Nat.le_of_ble_eq_true rfl, Nat.le_of_ble_eq_true rfl⟩ (fun r_3 Φ1 sz1 st1 hp1 hs1 => ?_)
  obtain ⟨⟨v_20, rfl, q_5⟩, hq1, hI1, hF1⟩ := hp1
  subst sz1
  replace hs1 : st1 = [.double v_20, .double v_17] := hs1
  subst st1
  replace hI1 : Im G x (rd, NN, fl, pe, le, nx, il, qu, kn, ec, nu, va) Φ1 := hI1
  have q_7 : nn64 (FP.dadd v_17 v_20) := (add_nn q_2 q_5)
  refine z_dadd B dX12_upperOf_24 (vf_of q_7) ?_
  refine z_fdq (P := fun u9 : UInt64 => nn64 u9) q_7 (fun v_21 q_9 => ?_)
  replace q_9 : nn64 v_21 := q_9
  exact z_ret_d B dX12_upperOf_25 ⟨⟨_, rfl, q_9⟩, rfl, hI1, (fun b9 h9 => ((hF1 b9 (fun j9 h8 h7 => (show False from h7).elim)).trans rfl))⟩

set_option maxHeartbeats 4000000 in
set_option maxRecDepth 100000 in
theorem r_lower (G : EnvG) (l : Launch) (Φ : Hm) (sz x : Nat) (rd : (Nat → Int32) → Prop) (fl : Nat) (pe : Nat) (le : Nat) (nx : Nat) (il : Nat) (qu : Nat) (kn : Int32) (ec : Int32) (nu : Int32) (va : Int64) (a : Int32) (b : Int32) (hx : G.2.2.2 ≤ x) (hI : Im G x (rd, NN, fl, pe, le, nx, il, qu, kn, ec, nu, va) Φ)  : Ct G l yX12_lower wsX12_lower ({ frames := 5, cells := 0, slots := 0, locals := 120 }) 0 0 [.ref x, .int a, .int b] Φ sz (fun v Φ1 sz1 => (∃ r9 : UInt64, v = some (.double r9) ∧ nn64 r9) ∧ sz1 = sz ∧ (Im G x (rd, NN, fl, pe, le, nx, il, qu, kn, ec, nu, va) Φ1) ∧ Fr x (fun j9 => j9 = 0) Φ Φ1) := by
  refine Ct.of (cc := cX12_lower) (maxL := 3) (ret := (some .double)) (by decide) rfl (Nat.le_of_ble_eq_true rfl) ?_
  intro p9 e9 s9 m9 w9 t9 k9 B
  show Z p9 l e9 _ s9 m9 _ w9 t9 k9 _ G 3 0 [(0, .ref x), (1, .int a), (2, .int b)] [] Φ sz 0 0
  refine z_aload_n B dX12_lower_0 rfl 0 rfl ?_
  refine z_iconst (v := 0) B dX12_lower_1 rfl ?_
  obtain ⟨v_1, v_2, v_3, n_1, v_4, v_5, v_6, v_7, v_8, v_9, v_10, v_11, v_12, n_2, v_13, n_3, n_4, v_14, v_15, h_1, b_12, b_1, b_2, b_3, b_4, b_5, b_6, b_7, b_8, b_9, b_10, b_11⟩ := im0 hI
  replace b_1 : 1 ≤ n_1 := b_1
  replace b_2 : n_1 ≤ 1024 := b_2
  replace b_3 : fl ≤ 12 := b_3
  replace b_4 : pe ≤ 24 := b_4
  replace b_5 : le ≤ 700 := b_5
  replace b_6 : qu ≤ 12 := b_6
  replace b_7 : n_2 ≤ 8 := b_7
  replace b_8 : n_3 ≤ 24 := b_8
  replace b_9 : n_4 ≤ 24 := b_9
  replace b_10 : il ≤ 700 := b_10
  replace b_11 : nx ≤ 701 := b_11
  have h_2 : Φ x = some (o_ 14 [.int v_1, .ref (x + 1), .ref (x + 2), .int v_2, .int v_3, .int (nI n_1), .int v_4, .int v_5, .ref (x + 3), .ref (x + 4), .int v_6, .long v_7, .ref (x + 5), .int (nI fl), .int v_8, .long v_9, .long v_10, .long v_11, .long v_12, .ref (x + 6), .ref (x + 7), .int (nI pe), .ref (x + 8), .int (nI le), .ref (x + 9), .ref (x + 10), .int (nI qu), .ref (x + 11), .ref (x + 12), .ref (x + 13), .ref (x + 14), .ref (x + 15), .ref (x + 16), .int (nI n_2), .long v_13, .ref (x + 17), .ref (x + 18), .ref (x + 19), .ref (x + 20), .ref (x + 21), .ref (x + 22), .int (nI n_3), .ref (x + 23), .ref (x + 24), .int (nI n_4), .ref (x + 25), .int (nI il), .int (nI nx), .int ec, .int v_14, .int kn, .int v_15, .int nu, .long va]) := h_1
  refine z_put (ref := "FlowExporterModel") (C := RX12) (T := TX12) (N := 54) (ci := 14) (v := .int 0) B (by decide +kernel) tyX12 tyX12_ok nmX12 rfl 0 (by decide) (by decide +kernel) rfl (Or.inl rfl) h_2 hx rfl rfl (Nat.le_of_ble_eq_true rfl) dX12_lower_2 (fun Φ1 hΦ1 => ?_)
  have h_3 : Φ1 x = some (o_ 14 [.int 0, .ref (x + 1), .ref (x + 2), .int v_2, .int v_3, .int (nI n_1), .int v_4, .int v_5, .ref (x + 3), .ref (x + 4), .int v_6, .long v_7, .ref (x + 5), .int (nI fl), .int v_8, .long v_9, .long v_10, .long v_11, .long v_12, .ref (x + 6), .ref (x + 7), .int (nI pe), .ref (x + 8), .int (nI le), .ref (x + 9), .ref (x + 10), .int (nI qu), .ref (x + 11), .ref (x + 12), .ref (x + 13), .ref (x + 14), .ref (x + 15), .ref (x + 16), .int (nI n_2), .long v_13, .ref (x + 17), .ref (x + 18), .ref (x + 19), .ref (x + 20), .ref (x + 21), .ref (x + 22), .int (nI n_3), .ref (x + 23), .ref (x + 24), .int (nI n_4), .ref (x + 25), .int (nI il), .int (nI nx), .int ec, .int v_14, .int kn, .int v_15, .int nu, .long va]) := fset_at hΦ1
  have hI1 : Im G x (rd, NN, fl, pe, le, nx, il, qu, kn, ec, nu, va) Φ1 := Im.put0 hI hΦ1 ⟨0, v_2, v_3, n_1, v_4, v_5, v_6, v_7, v_8, v_9, v_10, v_11, v_12, n_2, v_13, n_3, n_4, v_14, v_15, rfl, b_12, (show 1 ≤ n_1 by omega), (show n_1 ≤ 1024 by omega), (show fl ≤ 12 by omega), (show pe ≤ 24 by omega), (show le ≤ 700 by omega), (show qu ≤ 12 by omega), (show n_2 ≤ 8 by omega), (show n_3 ≤ 24 by omega), (show n_4 ≤ 24 by omega), (show il ≤ 700 by omega), (show nx ≤ 701 by omega)⟩
  refine z_aload_n B dX12_lower_5 rfl 0 rfl ?_
  refine z_aload_n B dX12_lower_6 rfl 0 rfl ?_
  refine z_iload_n B dX12_lower_7 rfl 1 rfl ?_
  refine z_callV (As := [.int a]) (rest := [.ref x]) B (r_isKey G l Φ1 sz x rd fl pe le nx il qu kn ec nu va a hx hI1 ) (cwV 1 B.1.2.2.2.2 gX12_lower_X12_isKey rfl rfl rfl (by decide +kernel) ⟨Nat.le_of_ble_eq_true rfl, Nat.le_of_ble_eq_true rfl⟩) h_3 rfl rfl rfl rfl (Nat.le_of_ble_eq_true rfl) dX12_lower_8 ⟨Nat.le_of_ble_eq_true rfl, Nat.le_of_ble_eq_true rfl⟩ (fun r_1 Φ2 sz1 st1 hp1 hs1 => ?_)
  obtain ⟨ha1, hq1, hI2, hF1⟩ := hp1
  subst sz1
  replace hI2 : Im G x (rd, NN, fl, pe, le, nx, il, qu, kn, ec, nu, va) Φ2 := hI2
  rcases ha1 with rfl | ⟨rfl, n_5, b_13, rfl⟩
  · replace hs1 : st1 = [.int 0, .ref x] := hs1
    subst st1
    refine z_if_ne (tgt := 18) B dX12_lower_11 rfl (fun h9 => absurd (by decide) h9) (fun c_1 => ?_)
    refine z_iconst (v := 1) B dX12_lower_14 rfl ?_
    refine z_goto (tgt := 19) B dX12_lower_15 rfl ?_
    refine z_iconst (v := 1) B dX12_lower_19 rfl ?_
    have h_4 : Φ2 x = some (o_ 14 [.int 0, .ref (x + 1), .ref (x + 2), .int v_2, .int v_3, .int (nI n_1), .int v_4, .int v_5, .ref (x + 3), .ref (x + 4), .int v_6, .long v_7, .ref (x + 5), .int (nI fl), .int v_8, .long v_9, .long v_10, .long v_11, .long v_12, .ref (x + 6), .ref (x + 7), .int (nI pe), .ref (x + 8), .int (nI le), .ref (x + 9), .ref (x + 10), .int (nI qu), .ref (x + 11), .ref (x + 12), .ref (x + 13), .ref (x + 14), .ref (x + 15), .ref (x + 16), .int (nI n_2), .long v_13, .ref (x + 17), .ref (x + 18), .ref (x + 19), .ref (x + 20), .ref (x + 21), .ref (x + 22), .int (nI n_3), .ref (x + 23), .ref (x + 24), .int (nI n_4), .ref (x + 25), .int (nI il), .int (nI nx), .int ec, .int v_14, .int kn, .int v_15, .int nu, .long va]) := ((hF1 x (fun j9 h8 h7 => (show False from h7).elim)).trans h_3)
    refine z_callV (As := [.int 1, .int 1]) (rest := []) B (r_throwsIf G l Φ2 sz x rd fl pe le nx il qu kn ec nu va 1 1 hx hI2 (by decide)) (cwV 2 B.1.2.2.2.2 gX12_lower_X12_throwsIf rfl rfl rfl (by decide +kernel) ⟨Nat.le_of_ble_eq_true rfl, Nat.le_of_ble_eq_true rfl⟩) h_4 rfl rfl rfl rfl (Nat.le_of_ble_eq_true rfl) dX12_lower_20 ⟨Nat.le_of_ble_eq_true rfl, Nat.le_of_ble_eq_true rfl⟩ (fun r_2 Φ3 sz2 st2 hp2 hs2 => ?_)
    obtain ⟨rfl, hq2, hI3, hF2⟩ := hp2
    subst sz2
    replace hs2 : st2 = [.int 1] := hs2
    subst st2
    replace hI3 : Im G x (rd, NN, fl, pe, le, nx, il, qu, kn, ec, nu, va) Φ3 := hI3
    refine z_if_ne (tgt := 46) B dX12_lower_23 rfl (fun c_2 => ?_) (fun h9 => absurd h9 (by decide))
    refine z_dconst0 B dX12_lower_46 ?_
    refine z_goto (tgt := 56) B dX12_lower_47 rfl ?_
    exact z_ret_d B dX12_lower_56 ⟨⟨_, rfl, (sm_nn sm_zero)⟩, rfl, hI3, (fun b9 h9 => ((hF2 b9 (fun j9 h8 h7 => h9 j9 h8 (show j9 = 0 by have h6 : j9 = 0 := h7; omega))).trans ((hF1 b9 (fun j9 h8 h7 => (show False from h7).elim)).trans ((fset_fr hΦ1 (fun h8 => h9 (0) h8 (show 0 = 0 by omega))).trans rfl))))⟩
  · replace hs1 : st1 = [.int 1, .ref x] := hs1
    subst st1
    replace b_13 : n_5 < 24 := b_13
    refine z_if_ne (tgt := 18) B dX12_lower_11 rfl (fun c_3 => ?_) (fun h9 => absurd h9 (by decide))
    refine z_iconst (v := 0) B dX12_lower_18 rfl ?_
    refine z_iconst (v := 1) B dX12_lower_19 rfl ?_
    have h_5 : Φ2 x = some (o_ 14 [.int 0, .ref (x + 1), .ref (x + 2), .int v_2, .int v_3, .int (nI n_1), .int v_4, .int v_5, .ref (x + 3), .ref (x + 4), .int v_6, .long v_7, .ref (x + 5), .int (nI fl), .int v_8, .long v_9, .long v_10, .long v_11, .long v_12, .ref (x + 6), .ref (x + 7), .int (nI pe), .ref (x + 8), .int (nI le), .ref (x + 9), .ref (x + 10), .int (nI qu), .ref (x + 11), .ref (x + 12), .ref (x + 13), .ref (x + 14), .ref (x + 15), .ref (x + 16), .int (nI n_2), .long v_13, .ref (x + 17), .ref (x + 18), .ref (x + 19), .ref (x + 20), .ref (x + 21), .ref (x + 22), .int (nI n_3), .ref (x + 23), .ref (x + 24), .int (nI n_4), .ref (x + 25), .int (nI il), .int (nI nx), .int ec, .int v_14, .int kn, .int v_15, .int nu, .long va]) := ((hF1 x (fun j9 h8 h7 => (show False from h7).elim)).trans h_3)
    refine z_callV (As := [.int 0, .int 1]) (rest := []) B (r_throwsIf G l Φ2 sz x rd fl pe le nx il qu kn ec nu va 0 1 hx hI2 (by decide)) (cwV 2 B.1.2.2.2.2 gX12_lower_X12_throwsIf rfl rfl rfl (by decide +kernel) ⟨Nat.le_of_ble_eq_true rfl, Nat.le_of_ble_eq_true rfl⟩) h_5 rfl rfl rfl rfl (Nat.le_of_ble_eq_true rfl) dX12_lower_20 ⟨Nat.le_of_ble_eq_true rfl, Nat.le_of_ble_eq_true rfl⟩ (fun r_3 Φ4 sz3 st3 hp3 hs3 => ?_)
    obtain ⟨rfl, hq3, hI4, hF3⟩ := hp3
    subst sz3
    replace hs3 : st3 = [.int 0] := hs3
    subst st3
    replace hI4 : Im G x (rd, NN, fl, pe, le, nx, il, qu, kn, ec, nu, va) Φ4 := hI4
    refine z_if_ne (tgt := 46) B dX12_lower_23 rfl (fun h9 => absurd (by decide) h9) (fun c_4 => ?_)
    refine z_aload_n B dX12_lower_26 rfl 0 rfl ?_
    refine z_iload_n B dX12_lower_27 rfl 2 rfl ?_
    refine z_callS (As := [.int b]) (rest := [.ref x]) B (r_isWhat G l Φ4 sz x rd fl pe le nx il qu kn ec nu va b hx hI4 ) (va_cwS 1 B.1.2.2.2.2 gX12_lower_X12_isWhat rfl rfl rfl (by decide +kernel) ⟨Nat.le_of_ble_eq_true rfl, Nat.le_of_ble_eq_true rfl⟩) rfl rfl (Nat.le_of_ble_eq_true rfl) dX12_lower_28 ⟨Nat.le_of_ble_eq_true rfl, Nat.le_of_ble_eq_true rfl⟩ (fun r_4 Φ5 sz4 st4 hp4 hs4 => ?_)
    obtain ⟨ha2, hq4, hI5, hF4⟩ := hp4
    subst sz4
    replace hI5 : Im G x (rd, NN, fl, pe, le, nx, il, qu, kn, ec, nu, va) Φ5 := hI5
    rcases ha2 with rfl | ⟨rfl, n_6, b_14, rfl⟩
    · replace hs4 : st4 = [.int 0, .ref x] := hs4
      subst st4
      refine z_if_ne (tgt := 38) B dX12_lower_31 rfl (fun h9 => absurd (by decide) h9) (fun c_5 => ?_)
      refine z_iconst (v := 1) B dX12_lower_34 rfl ?_
      refine z_goto (tgt := 39) B dX12_lower_35 rfl ?_
      refine z_iconst (v := 2) B dX12_lower_39 rfl ?_
      obtain ⟨v_16, v_17, v_18, n_7, v_19, v_20, v_21, v_22, v_23, v_24, v_25, v_26, v_27, n_8, v_28, n_9, n_10, v_29, v_30, h_6, b_26, b_15, b_16, b_17, b_18, b_19, b_20, b_21, b_22, b_23, b_24, b_25⟩ := im0 hI5
      replace b_15 : 1 ≤ n_7 := b_15
      replace b_16 : n_7 ≤ 1024 := b_16
      replace b_17 : fl ≤ 12 := b_17
      replace b_18 : pe ≤ 24 := b_18
      replace b_19 : le ≤ 700 := b_19
      replace b_20 : qu ≤ 12 := b_20
      replace b_21 : n_8 ≤ 8 := b_21
      replace b_22 : n_9 ≤ 24 := b_22
      replace b_23 : n_10 ≤ 24 := b_23
      replace b_24 : il ≤ 700 := b_24
      replace b_25 : nx ≤ 701 := b_25
      have h_7 : Φ5 x = some (o_ 14 [.int v_16, .ref (x + 1), .ref (x + 2), .int v_17, .int v_18, .int (nI n_7), .int v_19, .int v_20, .ref (x + 3), .ref (x + 4), .int v_21, .long v_22, .ref (x + 5), .int (nI fl), .int v_23, .long v_24, .long v_25, .long v_26, .long v_27, .ref (x + 6), .ref (x + 7), .int (nI pe), .ref (x + 8), .int (nI le), .ref (x + 9), .ref (x + 10), .int (nI qu), .ref (x + 11), .ref (x + 12), .ref (x + 13), .ref (x + 14), .ref (x + 15), .ref (x + 16), .int (nI n_8), .long v_28, .ref (x + 17), .ref (x + 18), .ref (x + 19), .ref (x + 20), .ref (x + 21), .ref (x + 22), .int (nI n_9), .ref (x + 23), .ref (x + 24), .int (nI n_10), .ref (x + 25), .int (nI il), .int (nI nx), .int ec, .int v_29, .int kn, .int v_30, .int nu, .long va]) := h_6
      refine z_callV (As := [.int 1, .int 2]) (rest := []) B (r_throwsIf G l Φ5 sz x rd fl pe le nx il qu kn ec nu va 1 2 hx hI5 (by decide)) (cwV 2 B.1.2.2.2.2 gX12_lower_X12_throwsIf rfl rfl rfl (by decide +kernel) ⟨Nat.le_of_ble_eq_true rfl, Nat.le_of_ble_eq_true rfl⟩) h_7 rfl rfl rfl rfl (Nat.le_of_ble_eq_true rfl) dX12_lower_40 ⟨Nat.le_of_ble_eq_true rfl, Nat.le_of_ble_eq_true rfl⟩ (fun r_5 Φ6 sz5 st5 hp5 hs5 => ?_)
      obtain ⟨rfl, hq5, hI6, hF5⟩ := hp5
      subst sz5
      replace hs5 : st5 = [.int 1] := hs5
      subst st5
      replace hI6 : Im G x (rd, NN, fl, pe, le, nx, il, qu, kn, ec, nu, va) Φ6 := hI6
      refine z_if_eq (tgt := 50) B dX12_lower_43 rfl (fun h9 => absurd h9 (by decide)) (fun c_6 => ?_)
      refine z_dconst0 B dX12_lower_46 ?_
      refine z_goto (tgt := 56) B dX12_lower_47 rfl ?_
      exact z_ret_d B dX12_lower_56 ⟨⟨_, rfl, (sm_nn sm_zero)⟩, rfl, hI6, (fun b9 h9 => ((hF5 b9 (fun j9 h8 h7 => h9 j9 h8 (show j9 = 0 by have h6 : j9 = 0 := h7; omega))).trans ((hF4 b9 (fun j9 h8 h7 => (show False from h7).elim)).trans ((hF3 b9 (fun j9 h8 h7 => h9 j9 h8 (show j9 = 0 by have h6 : j9 = 0 := h7; omega))).trans ((hF1 b9 (fun j9 h8 h7 => (show False from h7).elim)).trans ((fset_fr hΦ1 (fun h8 => h9 (0) h8 (show 0 = 0 by omega))).trans rfl))))))⟩
    · replace hs4 : st4 = [.int 1, .ref x] := hs4
      subst st4
      replace b_14 : n_6 < 2 := b_14
      refine z_if_ne (tgt := 38) B dX12_lower_31 rfl (fun c_7 => ?_) (fun h9 => absurd h9 (by decide))
      refine z_iconst (v := 0) B dX12_lower_38 rfl ?_
      refine z_iconst (v := 2) B dX12_lower_39 rfl ?_
      obtain ⟨v_31, v_32, v_33, n_11, v_34, v_35, v_36, v_37, v_38, v_39, v_40, v_41, v_42, n_12, v_43, n_13, n_14, v_44, v_45, h_8, b_38, b_27, b_28, b_29, b_30, b_31, b_32, b_33, b_34, b_35, b_36, b_37⟩ := im0 hI5
      replace b_27 : 1 ≤ n_11 := b_27
      replace b_28 : n_11 ≤ 1024 := b_28
      replace b_29 : fl ≤ 12 := b_29
      replace b_30 : pe ≤ 24 := b_30
      replace b_31 : le ≤ 700 := b_31
      replace b_32 : qu ≤ 12 := b_32
      replace b_33 : n_12 ≤ 8 := b_33
      replace b_34 : n_13 ≤ 24 := b_34
      replace b_35 : n_14 ≤ 24 := b_35
      replace b_36 : il ≤ 700 := b_36
      replace b_37 : nx ≤ 701 := b_37
      have h_9 : Φ5 x = some (o_ 14 [.int v_31, .ref (x + 1), .ref (x + 2), .int v_32, .int v_33, .int (nI n_11), .int v_34, .int v_35, .ref (x + 3), .ref (x + 4), .int v_36, .long v_37, .ref (x + 5), .int (nI fl), .int v_38, .long v_39, .long v_40, .long v_41, .long v_42, .ref (x + 6), .ref (x + 7), .int (nI pe), .ref (x + 8), .int (nI le), .ref (x + 9), .ref (x + 10), .int (nI qu), .ref (x + 11), .ref (x + 12), .ref (x + 13), .ref (x + 14), .ref (x + 15), .ref (x + 16), .int (nI n_12), .long v_43, .ref (x + 17), .ref (x + 18), .ref (x + 19), .ref (x + 20), .ref (x + 21), .ref (x + 22), .int (nI n_13), .ref (x + 23), .ref (x + 24), .int (nI n_14), .ref (x + 25), .int (nI il), .int (nI nx), .int ec, .int v_44, .int kn, .int v_45, .int nu, .long va]) := h_8
      refine z_callV (As := [.int 0, .int 2]) (rest := []) B (r_throwsIf G l Φ5 sz x rd fl pe le nx il qu kn ec nu va 0 2 hx hI5 (by decide)) (cwV 2 B.1.2.2.2.2 gX12_lower_X12_throwsIf rfl rfl rfl (by decide +kernel) ⟨Nat.le_of_ble_eq_true rfl, Nat.le_of_ble_eq_true rfl⟩) h_9 rfl rfl rfl rfl (Nat.le_of_ble_eq_true rfl) dX12_lower_40 ⟨Nat.le_of_ble_eq_true rfl, Nat.le_of_ble_eq_true rfl⟩ (fun r_6 Φ7 sz6 st6 hp6 hs6 => ?_)
      obtain ⟨rfl, hq6, hI7, hF6⟩ := hp6
      subst sz6
      replace hs6 : st6 = [.int 0] := hs6
      subst st6
      replace hI7 : Im G x (rd, NN, fl, pe, le, nx, il, qu, kn, ec, nu, va) Φ7 := hI7
      refine z_if_eq (tgt := 50) B dX12_lower_43 rfl (fun c_8 => ?_) (fun h9 => absurd (by decide) h9)
      refine z_aload_n B dX12_lower_50 rfl 0 rfl ?_
      refine z_iload_n B dX12_lower_51 rfl 1 rfl ?_
      refine z_iload_n B dX12_lower_52 rfl 2 rfl ?_
      obtain ⟨v_46, v_47, v_48, n_15, v_49, v_50, v_51, v_52, v_53, v_54, v_55, v_56, v_57, n_16, v_58, n_17, n_18, v_59, v_60, h_10, b_50, b_39, b_40, b_41, b_42, b_43, b_44, b_45, b_46, b_47, b_48, b_49⟩ := im0 hI7
      replace b_39 : 1 ≤ n_15 := b_39
      replace b_40 : n_15 ≤ 1024 := b_40
      replace b_41 : fl ≤ 12 := b_41
      replace b_42 : pe ≤ 24 := b_42
      replace b_43 : le ≤ 700 := b_43
      replace b_44 : qu ≤ 12 := b_44
      replace b_45 : n_16 ≤ 8 := b_45
      replace b_46 : n_17 ≤ 24 := b_46
      replace b_47 : n_18 ≤ 24 := b_47
      replace b_48 : il ≤ 700 := b_48
      replace b_49 : nx ≤ 701 := b_49
      have h_11 : Φ7 x = some (o_ 14 [.int v_46, .ref (x + 1), .ref (x + 2), .int v_47, .int v_48, .int (nI n_15), .int v_49, .int v_50, .ref (x + 3), .ref (x + 4), .int v_51, .long v_52, .ref (x + 5), .int (nI fl), .int v_53, .long v_54, .long v_55, .long v_56, .long v_57, .ref (x + 6), .ref (x + 7), .int (nI pe), .ref (x + 8), .int (nI le), .ref (x + 9), .ref (x + 10), .int (nI qu), .ref (x + 11), .ref (x + 12), .ref (x + 13), .ref (x + 14), .ref (x + 15), .ref (x + 16), .int (nI n_16), .long v_58, .ref (x + 17), .ref (x + 18), .ref (x + 19), .ref (x + 20), .ref (x + 21), .ref (x + 22), .int (nI n_17), .ref (x + 23), .ref (x + 24), .int (nI n_18), .ref (x + 25), .int (nI il), .int (nI nx), .int ec, .int v_59, .int kn, .int v_60, .int nu, .long va]) := h_10
      refine z_callV (As := [.int (nI n_5), .int (nI n_6)]) (rest := []) B (r_lowerOf G l Φ7 sz x rd fl pe le nx il qu kn ec nu va n_5 n_6 hx hI7 (show n_5 < 24 by omega) (show n_6 < 2 by omega)) (cwV 2 B.1.2.2.2.2 gX12_lower_X12_lowerOf rfl rfl rfl (by decide +kernel) ⟨Nat.le_of_ble_eq_true rfl, Nat.le_of_ble_eq_true rfl⟩) h_11 rfl rfl rfl rfl (Nat.le_of_ble_eq_true rfl) dX12_lower_53 ⟨Nat.le_of_ble_eq_true rfl, Nat.le_of_ble_eq_true rfl⟩ (fun r_7 Φ8 sz7 st7 hp7 hs7 => ?_)
      obtain ⟨⟨v_61, rfl, q_1⟩, hq7, hI8, hF7⟩ := hp7
      subst sz7
      replace hs7 : st7 = [.double v_61] := hs7
      subst st7
      replace hI8 : Im G x (rd, NN, fl, pe, le, nx, il, qu, kn, ec, nu, va) Φ8 := hI8
      exact z_ret_d B dX12_lower_56 ⟨⟨_, rfl, q_1⟩, rfl, hI8, (fun b9 h9 => ((hF7 b9 (fun j9 h8 h7 => (show False from h7).elim)).trans ((hF6 b9 (fun j9 h8 h7 => h9 j9 h8 (show j9 = 0 by have h6 : j9 = 0 := h7; omega))).trans ((hF4 b9 (fun j9 h8 h7 => (show False from h7).elim)).trans ((hF3 b9 (fun j9 h8 h7 => h9 j9 h8 (show j9 = 0 by have h6 : j9 = 0 := h7; omega))).trans ((hF1 b9 (fun j9 h8 h7 => (show False from h7).elim)).trans ((fset_fr hΦ1 (fun h8 => h9 (0) h8 (show 0 = 0 by omega))).trans rfl)))))))⟩

set_option maxHeartbeats 4000000 in
set_option maxRecDepth 100000 in
theorem r_upper (G : EnvG) (l : Launch) (Φ : Hm) (sz x : Nat) (rd : (Nat → Int32) → Prop) (fl : Nat) (pe : Nat) (le : Nat) (nx : Nat) (il : Nat) (qu : Nat) (kn : Int32) (ec : Int32) (nu : Int32) (va : Int64) (a : Int32) (b : Int32) (hx : G.2.2.2 ≤ x) (hI : Im G x (rd, NN, fl, pe, le, nx, il, qu, kn, ec, nu, va) Φ)  : Ct G l yX12_upper wsX12_upper ({ frames := 5, cells := 0, slots := 0, locals := 116 }) 0 0 [.ref x, .int a, .int b] Φ sz (fun v Φ1 sz1 => (∃ r9 : UInt64, v = some (.double r9) ∧ nn64 r9) ∧ sz1 = sz ∧ (Im G x (rd, NN, fl, pe, le, nx, il, qu, kn, ec, nu, va) Φ1) ∧ Fr x (fun j9 => j9 = 0) Φ Φ1) := by
  refine Ct.of (cc := cX12_upper) (maxL := 3) (ret := (some .double)) (by decide) rfl (Nat.le_of_ble_eq_true rfl) ?_
  intro p9 e9 s9 m9 w9 t9 k9 B
  show Z p9 l e9 _ s9 m9 _ w9 t9 k9 _ G 3 0 [(0, .ref x), (1, .int a), (2, .int b)] [] Φ sz 0 0
  refine z_aload_n B dX12_upper_0 rfl 0 rfl ?_
  refine z_iconst (v := 0) B dX12_upper_1 rfl ?_
  obtain ⟨v_1, v_2, v_3, n_1, v_4, v_5, v_6, v_7, v_8, v_9, v_10, v_11, v_12, n_2, v_13, n_3, n_4, v_14, v_15, h_1, b_12, b_1, b_2, b_3, b_4, b_5, b_6, b_7, b_8, b_9, b_10, b_11⟩ := im0 hI
  replace b_1 : 1 ≤ n_1 := b_1
  replace b_2 : n_1 ≤ 1024 := b_2
  replace b_3 : fl ≤ 12 := b_3
  replace b_4 : pe ≤ 24 := b_4
  replace b_5 : le ≤ 700 := b_5
  replace b_6 : qu ≤ 12 := b_6
  replace b_7 : n_2 ≤ 8 := b_7
  replace b_8 : n_3 ≤ 24 := b_8
  replace b_9 : n_4 ≤ 24 := b_9
  replace b_10 : il ≤ 700 := b_10
  replace b_11 : nx ≤ 701 := b_11
  have h_2 : Φ x = some (o_ 14 [.int v_1, .ref (x + 1), .ref (x + 2), .int v_2, .int v_3, .int (nI n_1), .int v_4, .int v_5, .ref (x + 3), .ref (x + 4), .int v_6, .long v_7, .ref (x + 5), .int (nI fl), .int v_8, .long v_9, .long v_10, .long v_11, .long v_12, .ref (x + 6), .ref (x + 7), .int (nI pe), .ref (x + 8), .int (nI le), .ref (x + 9), .ref (x + 10), .int (nI qu), .ref (x + 11), .ref (x + 12), .ref (x + 13), .ref (x + 14), .ref (x + 15), .ref (x + 16), .int (nI n_2), .long v_13, .ref (x + 17), .ref (x + 18), .ref (x + 19), .ref (x + 20), .ref (x + 21), .ref (x + 22), .int (nI n_3), .ref (x + 23), .ref (x + 24), .int (nI n_4), .ref (x + 25), .int (nI il), .int (nI nx), .int ec, .int v_14, .int kn, .int v_15, .int nu, .long va]) := h_1
  refine z_put (ref := "FlowExporterModel") (C := RX12) (T := TX12) (N := 54) (ci := 14) (v := .int 0) B (by decide +kernel) tyX12 tyX12_ok nmX12 rfl 0 (by decide) (by decide +kernel) rfl (Or.inl rfl) h_2 hx rfl rfl (Nat.le_of_ble_eq_true rfl) dX12_upper_2 (fun Φ1 hΦ1 => ?_)
  have h_3 : Φ1 x = some (o_ 14 [.int 0, .ref (x + 1), .ref (x + 2), .int v_2, .int v_3, .int (nI n_1), .int v_4, .int v_5, .ref (x + 3), .ref (x + 4), .int v_6, .long v_7, .ref (x + 5), .int (nI fl), .int v_8, .long v_9, .long v_10, .long v_11, .long v_12, .ref (x + 6), .ref (x + 7), .int (nI pe), .ref (x + 8), .int (nI le), .ref (x + 9), .ref (x + 10), .int (nI qu), .ref (x + 11), .ref (x + 12), .ref (x + 13), .ref (x + 14), .ref (x + 15), .ref (x + 16), .int (nI n_2), .long v_13, .ref (x + 17), .ref (x + 18), .ref (x + 19), .ref (x + 20), .ref (x + 21), .ref (x + 22), .int (nI n_3), .ref (x + 23), .ref (x + 24), .int (nI n_4), .ref (x + 25), .int (nI il), .int (nI nx), .int ec, .int v_14, .int kn, .int v_15, .int nu, .long va]) := fset_at hΦ1
  have hI1 : Im G x (rd, NN, fl, pe, le, nx, il, qu, kn, ec, nu, va) Φ1 := Im.put0 hI hΦ1 ⟨0, v_2, v_3, n_1, v_4, v_5, v_6, v_7, v_8, v_9, v_10, v_11, v_12, n_2, v_13, n_3, n_4, v_14, v_15, rfl, b_12, (show 1 ≤ n_1 by omega), (show n_1 ≤ 1024 by omega), (show fl ≤ 12 by omega), (show pe ≤ 24 by omega), (show le ≤ 700 by omega), (show qu ≤ 12 by omega), (show n_2 ≤ 8 by omega), (show n_3 ≤ 24 by omega), (show n_4 ≤ 24 by omega), (show il ≤ 700 by omega), (show nx ≤ 701 by omega)⟩
  refine z_aload_n B dX12_upper_5 rfl 0 rfl ?_
  refine z_aload_n B dX12_upper_6 rfl 0 rfl ?_
  refine z_iload_n B dX12_upper_7 rfl 1 rfl ?_
  refine z_callV (As := [.int a]) (rest := [.ref x]) B (r_isKey G l Φ1 sz x rd fl pe le nx il qu kn ec nu va a hx hI1 ) (cwV 1 B.1.2.2.2.2 gX12_upper_X12_isKey rfl rfl rfl (by decide +kernel) ⟨Nat.le_of_ble_eq_true rfl, Nat.le_of_ble_eq_true rfl⟩) h_3 rfl rfl rfl rfl (Nat.le_of_ble_eq_true rfl) dX12_upper_8 ⟨Nat.le_of_ble_eq_true rfl, Nat.le_of_ble_eq_true rfl⟩ (fun r_1 Φ2 sz1 st1 hp1 hs1 => ?_)
  obtain ⟨ha1, hq1, hI2, hF1⟩ := hp1
  subst sz1
  replace hI2 : Im G x (rd, NN, fl, pe, le, nx, il, qu, kn, ec, nu, va) Φ2 := hI2
  rcases ha1 with rfl | ⟨rfl, n_5, b_13, rfl⟩
  · replace hs1 : st1 = [.int 0, .ref x] := hs1
    subst st1
    refine z_if_ne (tgt := 18) B dX12_upper_11 rfl (fun h9 => absurd (by decide) h9) (fun c_1 => ?_)
    refine z_iconst (v := 1) B dX12_upper_14 rfl ?_
    refine z_goto (tgt := 19) B dX12_upper_15 rfl ?_
    refine z_iconst (v := 1) B dX12_upper_19 rfl ?_
    have h_4 : Φ2 x = some (o_ 14 [.int 0, .ref (x + 1), .ref (x + 2), .int v_2, .int v_3, .int (nI n_1), .int v_4, .int v_5, .ref (x + 3), .ref (x + 4), .int v_6, .long v_7, .ref (x + 5), .int (nI fl), .int v_8, .long v_9, .long v_10, .long v_11, .long v_12, .ref (x + 6), .ref (x + 7), .int (nI pe), .ref (x + 8), .int (nI le), .ref (x + 9), .ref (x + 10), .int (nI qu), .ref (x + 11), .ref (x + 12), .ref (x + 13), .ref (x + 14), .ref (x + 15), .ref (x + 16), .int (nI n_2), .long v_13, .ref (x + 17), .ref (x + 18), .ref (x + 19), .ref (x + 20), .ref (x + 21), .ref (x + 22), .int (nI n_3), .ref (x + 23), .ref (x + 24), .int (nI n_4), .ref (x + 25), .int (nI il), .int (nI nx), .int ec, .int v_14, .int kn, .int v_15, .int nu, .long va]) := ((hF1 x (fun j9 h8 h7 => (show False from h7).elim)).trans h_3)
    refine z_callV (As := [.int 1, .int 1]) (rest := []) B (r_throwsIf G l Φ2 sz x rd fl pe le nx il qu kn ec nu va 1 1 hx hI2 (by decide)) (cwV 2 B.1.2.2.2.2 gX12_upper_X12_throwsIf rfl rfl rfl (by decide +kernel) ⟨Nat.le_of_ble_eq_true rfl, Nat.le_of_ble_eq_true rfl⟩) h_4 rfl rfl rfl rfl (Nat.le_of_ble_eq_true rfl) dX12_upper_20 ⟨Nat.le_of_ble_eq_true rfl, Nat.le_of_ble_eq_true rfl⟩ (fun r_2 Φ3 sz2 st2 hp2 hs2 => ?_)
    obtain ⟨rfl, hq2, hI3, hF2⟩ := hp2
    subst sz2
    replace hs2 : st2 = [.int 1] := hs2
    subst st2
    replace hI3 : Im G x (rd, NN, fl, pe, le, nx, il, qu, kn, ec, nu, va) Φ3 := hI3
    refine z_if_ne (tgt := 46) B dX12_upper_23 rfl (fun c_2 => ?_) (fun h9 => absurd h9 (by decide))
    refine z_dconst0 B dX12_upper_46 ?_
    refine z_goto (tgt := 56) B dX12_upper_47 rfl ?_
    exact z_ret_d B dX12_upper_56 ⟨⟨_, rfl, (sm_nn sm_zero)⟩, rfl, hI3, (fun b9 h9 => ((hF2 b9 (fun j9 h8 h7 => h9 j9 h8 (show j9 = 0 by have h6 : j9 = 0 := h7; omega))).trans ((hF1 b9 (fun j9 h8 h7 => (show False from h7).elim)).trans ((fset_fr hΦ1 (fun h8 => h9 (0) h8 (show 0 = 0 by omega))).trans rfl))))⟩
  · replace hs1 : st1 = [.int 1, .ref x] := hs1
    subst st1
    replace b_13 : n_5 < 24 := b_13
    refine z_if_ne (tgt := 18) B dX12_upper_11 rfl (fun c_3 => ?_) (fun h9 => absurd h9 (by decide))
    refine z_iconst (v := 0) B dX12_upper_18 rfl ?_
    refine z_iconst (v := 1) B dX12_upper_19 rfl ?_
    have h_5 : Φ2 x = some (o_ 14 [.int 0, .ref (x + 1), .ref (x + 2), .int v_2, .int v_3, .int (nI n_1), .int v_4, .int v_5, .ref (x + 3), .ref (x + 4), .int v_6, .long v_7, .ref (x + 5), .int (nI fl), .int v_8, .long v_9, .long v_10, .long v_11, .long v_12, .ref (x + 6), .ref (x + 7), .int (nI pe), .ref (x + 8), .int (nI le), .ref (x + 9), .ref (x + 10), .int (nI qu), .ref (x + 11), .ref (x + 12), .ref (x + 13), .ref (x + 14), .ref (x + 15), .ref (x + 16), .int (nI n_2), .long v_13, .ref (x + 17), .ref (x + 18), .ref (x + 19), .ref (x + 20), .ref (x + 21), .ref (x + 22), .int (nI n_3), .ref (x + 23), .ref (x + 24), .int (nI n_4), .ref (x + 25), .int (nI il), .int (nI nx), .int ec, .int v_14, .int kn, .int v_15, .int nu, .long va]) := ((hF1 x (fun j9 h8 h7 => (show False from h7).elim)).trans h_3)
    refine z_callV (As := [.int 0, .int 1]) (rest := []) B (r_throwsIf G l Φ2 sz x rd fl pe le nx il qu kn ec nu va 0 1 hx hI2 (by decide)) (cwV 2 B.1.2.2.2.2 gX12_upper_X12_throwsIf rfl rfl rfl (by decide +kernel) ⟨Nat.le_of_ble_eq_true rfl, Nat.le_of_ble_eq_true rfl⟩) h_5 rfl rfl rfl rfl (Nat.le_of_ble_eq_true rfl) dX12_upper_20 ⟨Nat.le_of_ble_eq_true rfl, Nat.le_of_ble_eq_true rfl⟩ (fun r_3 Φ4 sz3 st3 hp3 hs3 => ?_)
    obtain ⟨rfl, hq3, hI4, hF3⟩ := hp3
    subst sz3
    replace hs3 : st3 = [.int 0] := hs3
    subst st3
    replace hI4 : Im G x (rd, NN, fl, pe, le, nx, il, qu, kn, ec, nu, va) Φ4 := hI4
    refine z_if_ne (tgt := 46) B dX12_upper_23 rfl (fun h9 => absurd (by decide) h9) (fun c_4 => ?_)
    refine z_aload_n B dX12_upper_26 rfl 0 rfl ?_
    refine z_iload_n B dX12_upper_27 rfl 2 rfl ?_
    refine z_callS (As := [.int b]) (rest := [.ref x]) B (r_isWhat G l Φ4 sz x rd fl pe le nx il qu kn ec nu va b hx hI4 ) (va_cwS 1 B.1.2.2.2.2 gX12_upper_X12_isWhat rfl rfl rfl (by decide +kernel) ⟨Nat.le_of_ble_eq_true rfl, Nat.le_of_ble_eq_true rfl⟩) rfl rfl (Nat.le_of_ble_eq_true rfl) dX12_upper_28 ⟨Nat.le_of_ble_eq_true rfl, Nat.le_of_ble_eq_true rfl⟩ (fun r_4 Φ5 sz4 st4 hp4 hs4 => ?_)
    obtain ⟨ha2, hq4, hI5, hF4⟩ := hp4
    subst sz4
    replace hI5 : Im G x (rd, NN, fl, pe, le, nx, il, qu, kn, ec, nu, va) Φ5 := hI5
    rcases ha2 with rfl | ⟨rfl, n_6, b_14, rfl⟩
    · replace hs4 : st4 = [.int 0, .ref x] := hs4
      subst st4
      refine z_if_ne (tgt := 38) B dX12_upper_31 rfl (fun h9 => absurd (by decide) h9) (fun c_5 => ?_)
      refine z_iconst (v := 1) B dX12_upper_34 rfl ?_
      refine z_goto (tgt := 39) B dX12_upper_35 rfl ?_
      refine z_iconst (v := 2) B dX12_upper_39 rfl ?_
      obtain ⟨v_16, v_17, v_18, n_7, v_19, v_20, v_21, v_22, v_23, v_24, v_25, v_26, v_27, n_8, v_28, n_9, n_10, v_29, v_30, h_6, b_26, b_15, b_16, b_17, b_18, b_19, b_20, b_21, b_22, b_23, b_24, b_25⟩ := im0 hI5
      replace b_15 : 1 ≤ n_7 := b_15
      replace b_16 : n_7 ≤ 1024 := b_16
      replace b_17 : fl ≤ 12 := b_17
      replace b_18 : pe ≤ 24 := b_18
      replace b_19 : le ≤ 700 := b_19
      replace b_20 : qu ≤ 12 := b_20
      replace b_21 : n_8 ≤ 8 := b_21
      replace b_22 : n_9 ≤ 24 := b_22
      replace b_23 : n_10 ≤ 24 := b_23
      replace b_24 : il ≤ 700 := b_24
      replace b_25 : nx ≤ 701 := b_25
      have h_7 : Φ5 x = some (o_ 14 [.int v_16, .ref (x + 1), .ref (x + 2), .int v_17, .int v_18, .int (nI n_7), .int v_19, .int v_20, .ref (x + 3), .ref (x + 4), .int v_21, .long v_22, .ref (x + 5), .int (nI fl), .int v_23, .long v_24, .long v_25, .long v_26, .long v_27, .ref (x + 6), .ref (x + 7), .int (nI pe), .ref (x + 8), .int (nI le), .ref (x + 9), .ref (x + 10), .int (nI qu), .ref (x + 11), .ref (x + 12), .ref (x + 13), .ref (x + 14), .ref (x + 15), .ref (x + 16), .int (nI n_8), .long v_28, .ref (x + 17), .ref (x + 18), .ref (x + 19), .ref (x + 20), .ref (x + 21), .ref (x + 22), .int (nI n_9), .ref (x + 23), .ref (x + 24), .int (nI n_10), .ref (x + 25), .int (nI il), .int (nI nx), .int ec, .int v_29, .int kn, .int v_30, .int nu, .long va]) := h_6
      refine z_callV (As := [.int 1, .int 2]) (rest := []) B (r_throwsIf G l Φ5 sz x rd fl pe le nx il qu kn ec nu va 1 2 hx hI5 (by decide)) (cwV 2 B.1.2.2.2.2 gX12_upper_X12_throwsIf rfl rfl rfl (by decide +kernel) ⟨Nat.le_of_ble_eq_true rfl, Nat.le_of_ble_eq_true rfl⟩) h_7 rfl rfl rfl rfl (Nat.le_of_ble_eq_true rfl) dX12_upper_40 ⟨Nat.le_of_ble_eq_true rfl, Nat.le_of_ble_eq_true rfl⟩ (fun r_5 Φ6 sz5 st5 hp5 hs5 => ?_)
      obtain ⟨rfl, hq5, hI6, hF5⟩ := hp5
      subst sz5
      replace hs5 : st5 = [.int 1] := hs5
      subst st5
      replace hI6 : Im G x (rd, NN, fl, pe, le, nx, il, qu, kn, ec, nu, va) Φ6 := hI6
      refine z_if_eq (tgt := 50) B dX12_upper_43 rfl (fun h9 => absurd h9 (by decide)) (fun c_6 => ?_)
      refine z_dconst0 B dX12_upper_46 ?_
      refine z_goto (tgt := 56) B dX12_upper_47 rfl ?_
      exact z_ret_d B dX12_upper_56 ⟨⟨_, rfl, (sm_nn sm_zero)⟩, rfl, hI6, (fun b9 h9 => ((hF5 b9 (fun j9 h8 h7 => h9 j9 h8 (show j9 = 0 by have h6 : j9 = 0 := h7; omega))).trans ((hF4 b9 (fun j9 h8 h7 => (show False from h7).elim)).trans ((hF3 b9 (fun j9 h8 h7 => h9 j9 h8 (show j9 = 0 by have h6 : j9 = 0 := h7; omega))).trans ((hF1 b9 (fun j9 h8 h7 => (show False from h7).elim)).trans ((fset_fr hΦ1 (fun h8 => h9 (0) h8 (show 0 = 0 by omega))).trans rfl))))))⟩
    · replace hs4 : st4 = [.int 1, .ref x] := hs4
      subst st4
      replace b_14 : n_6 < 2 := b_14
      refine z_if_ne (tgt := 38) B dX12_upper_31 rfl (fun c_7 => ?_) (fun h9 => absurd h9 (by decide))
      refine z_iconst (v := 0) B dX12_upper_38 rfl ?_
      refine z_iconst (v := 2) B dX12_upper_39 rfl ?_
      obtain ⟨v_31, v_32, v_33, n_11, v_34, v_35, v_36, v_37, v_38, v_39, v_40, v_41, v_42, n_12, v_43, n_13, n_14, v_44, v_45, h_8, b_38, b_27, b_28, b_29, b_30, b_31, b_32, b_33, b_34, b_35, b_36, b_37⟩ := im0 hI5
      replace b_27 : 1 ≤ n_11 := b_27
      replace b_28 : n_11 ≤ 1024 := b_28
      replace b_29 : fl ≤ 12 := b_29
      replace b_30 : pe ≤ 24 := b_30
      replace b_31 : le ≤ 700 := b_31
      replace b_32 : qu ≤ 12 := b_32
      replace b_33 : n_12 ≤ 8 := b_33
      replace b_34 : n_13 ≤ 24 := b_34
      replace b_35 : n_14 ≤ 24 := b_35
      replace b_36 : il ≤ 700 := b_36
      replace b_37 : nx ≤ 701 := b_37
      have h_9 : Φ5 x = some (o_ 14 [.int v_31, .ref (x + 1), .ref (x + 2), .int v_32, .int v_33, .int (nI n_11), .int v_34, .int v_35, .ref (x + 3), .ref (x + 4), .int v_36, .long v_37, .ref (x + 5), .int (nI fl), .int v_38, .long v_39, .long v_40, .long v_41, .long v_42, .ref (x + 6), .ref (x + 7), .int (nI pe), .ref (x + 8), .int (nI le), .ref (x + 9), .ref (x + 10), .int (nI qu), .ref (x + 11), .ref (x + 12), .ref (x + 13), .ref (x + 14), .ref (x + 15), .ref (x + 16), .int (nI n_12), .long v_43, .ref (x + 17), .ref (x + 18), .ref (x + 19), .ref (x + 20), .ref (x + 21), .ref (x + 22), .int (nI n_13), .ref (x + 23), .ref (x + 24), .int (nI n_14), .ref (x + 25), .int (nI il), .int (nI nx), .int ec, .int v_44, .int kn, .int v_45, .int nu, .long va]) := h_8
      refine z_callV (As := [.int 0, .int 2]) (rest := []) B (r_throwsIf G l Φ5 sz x rd fl pe le nx il qu kn ec nu va 0 2 hx hI5 (by decide)) (cwV 2 B.1.2.2.2.2 gX12_upper_X12_throwsIf rfl rfl rfl (by decide +kernel) ⟨Nat.le_of_ble_eq_true rfl, Nat.le_of_ble_eq_true rfl⟩) h_9 rfl rfl rfl rfl (Nat.le_of_ble_eq_true rfl) dX12_upper_40 ⟨Nat.le_of_ble_eq_true rfl, Nat.le_of_ble_eq_true rfl⟩ (fun r_6 Φ7 sz6 st6 hp6 hs6 => ?_)
      obtain ⟨rfl, hq6, hI7, hF6⟩ := hp6
      subst sz6
      replace hs6 : st6 = [.int 0] := hs6
      subst st6
      replace hI7 : Im G x (rd, NN, fl, pe, le, nx, il, qu, kn, ec, nu, va) Φ7 := hI7
      refine z_if_eq (tgt := 50) B dX12_upper_43 rfl (fun c_8 => ?_) (fun h9 => absurd (by decide) h9)
      refine z_aload_n B dX12_upper_50 rfl 0 rfl ?_
      refine z_iload_n B dX12_upper_51 rfl 1 rfl ?_
      refine z_iload_n B dX12_upper_52 rfl 2 rfl ?_
      obtain ⟨v_46, v_47, v_48, n_15, v_49, v_50, v_51, v_52, v_53, v_54, v_55, v_56, v_57, n_16, v_58, n_17, n_18, v_59, v_60, h_10, b_50, b_39, b_40, b_41, b_42, b_43, b_44, b_45, b_46, b_47, b_48, b_49⟩ := im0 hI7
      replace b_39 : 1 ≤ n_15 := b_39
      replace b_40 : n_15 ≤ 1024 := b_40
      replace b_41 : fl ≤ 12 := b_41
      replace b_42 : pe ≤ 24 := b_42
      replace b_43 : le ≤ 700 := b_43
      replace b_44 : qu ≤ 12 := b_44
      replace b_45 : n_16 ≤ 8 := b_45
      replace b_46 : n_17 ≤ 24 := b_46
      replace b_47 : n_18 ≤ 24 := b_47
      replace b_48 : il ≤ 700 := b_48
      replace b_49 : nx ≤ 701 := b_49
      have h_11 : Φ7 x = some (o_ 14 [.int v_46, .ref (x + 1), .ref (x + 2), .int v_47, .int v_48, .int (nI n_15), .int v_49, .int v_50, .ref (x + 3), .ref (x + 4), .int v_51, .long v_52, .ref (x + 5), .int (nI fl), .int v_53, .long v_54, .long v_55, .long v_56, .long v_57, .ref (x + 6), .ref (x + 7), .int (nI pe), .ref (x + 8), .int (nI le), .ref (x + 9), .ref (x + 10), .int (nI qu), .ref (x + 11), .ref (x + 12), .ref (x + 13), .ref (x + 14), .ref (x + 15), .ref (x + 16), .int (nI n_16), .long v_58, .ref (x + 17), .ref (x + 18), .ref (x + 19), .ref (x + 20), .ref (x + 21), .ref (x + 22), .int (nI n_17), .ref (x + 23), .ref (x + 24), .int (nI n_18), .ref (x + 25), .int (nI il), .int (nI nx), .int ec, .int v_59, .int kn, .int v_60, .int nu, .long va]) := h_10
      refine z_callV (As := [.int (nI n_5), .int (nI n_6)]) (rest := []) B (r_upperOf G l Φ7 sz x rd fl pe le nx il qu kn ec nu va n_5 n_6 hx hI7 (show n_5 < 24 by omega) (show n_6 < 2 by omega)) (cwV 2 B.1.2.2.2.2 gX12_upper_X12_upperOf rfl rfl rfl (by decide +kernel) ⟨Nat.le_of_ble_eq_true rfl, Nat.le_of_ble_eq_true rfl⟩) h_11 rfl rfl rfl rfl (Nat.le_of_ble_eq_true rfl) dX12_upper_53 ⟨Nat.le_of_ble_eq_true rfl, Nat.le_of_ble_eq_true rfl⟩ (fun r_7 Φ8 sz7 st7 hp7 hs7 => ?_)
      obtain ⟨⟨v_61, rfl, q_1⟩, hq7, hI8, hF7⟩ := hp7
      subst sz7
      replace hs7 : st7 = [.double v_61] := hs7
      subst st7
      replace hI8 : Im G x (rd, NN, fl, pe, le, nx, il, qu, kn, ec, nu, va) Φ8 := hI8
      exact z_ret_d B dX12_upper_56 ⟨⟨_, rfl, q_1⟩, rfl, hI8, (fun b9 h9 => ((hF7 b9 (fun j9 h8 h7 => (show False from h7).elim)).trans ((hF6 b9 (fun j9 h8 h7 => h9 j9 h8 (show j9 = 0 by have h6 : j9 = 0 := h7; omega))).trans ((hF4 b9 (fun j9 h8 h7 => (show False from h7).elim)).trans ((hF3 b9 (fun j9 h8 h7 => h9 j9 h8 (show j9 = 0 by have h6 : j9 = 0 := h7; omega))).trans ((hF1 b9 (fun j9 h8 h7 => (show False from h7).elim)).trans ((fset_fr hΦ1 (fun h8 => h9 (0) h8 (show 0 = 0 by omega))).trans rfl)))))))⟩

set_option maxHeartbeats 4000000 in
set_option maxRecDepth 100000 in
theorem r_key (G : EnvG) (l : Launch) (Φ : Hm) (sz x : Nat) (rd : (Nat → Int32) → Prop) (fl : Nat) (pe : Nat) (le : Nat) (nx : Nat) (il : Nat) (qu : Nat) (kn : Int32) (ec : Int32) (nu : Int32) (va : Int64) (a : Int32) (b : Int32) (hx : G.2.2.2 ≤ x) (hI : Im G x (rd, NN, fl, pe, le, nx, il, qu, kn, ec, nu, va) Φ)  : Ct G l yX12_key wsX12_key ({ frames := 2, cells := 0, slots := 0, locals := 46 }) 0 0 [.ref x, .int a, .int b] Φ sz (fun v Φ1 sz1 => (∃ r9 : Int32, v = some (.int r9)) ∧ sz1 = sz ∧ (Im G x (rd, NN, fl, pe, le, nx, il, qu, kn, ec, nu, va) Φ1) ∧ Fr x (fun j9 => j9 = 0) Φ Φ1) := by
  refine Ct.of (cc := cX12_key) (maxL := 3) (ret := (some .int)) (by decide) rfl (Nat.le_of_ble_eq_true rfl) ?_
  intro p9 e9 s9 m9 w9 t9 k9 B
  show Z p9 l e9 _ s9 m9 _ w9 t9 k9 _ G 3 0 [(0, .ref x), (1, .int a), (2, .int b)] [] Φ sz 0 0
  refine z_aload_n B dX12_key_0 rfl 0 rfl ?_
  refine z_iconst (v := 0) B dX12_key_1 rfl ?_
  obtain ⟨v_1, v_2, v_3, n_1, v_4, v_5, v_6, v_7, v_8, v_9, v_10, v_11, v_12, n_2, v_13, n_3, n_4, v_14, v_15, h_1, b_12, b_1, b_2, b_3, b_4, b_5, b_6, b_7, b_8, b_9, b_10, b_11⟩ := im0 hI
  replace b_1 : 1 ≤ n_1 := b_1
  replace b_2 : n_1 ≤ 1024 := b_2
  replace b_3 : fl ≤ 12 := b_3
  replace b_4 : pe ≤ 24 := b_4
  replace b_5 : le ≤ 700 := b_5
  replace b_6 : qu ≤ 12 := b_6
  replace b_7 : n_2 ≤ 8 := b_7
  replace b_8 : n_3 ≤ 24 := b_8
  replace b_9 : n_4 ≤ 24 := b_9
  replace b_10 : il ≤ 700 := b_10
  replace b_11 : nx ≤ 701 := b_11
  have h_2 : Φ x = some (o_ 14 [.int v_1, .ref (x + 1), .ref (x + 2), .int v_2, .int v_3, .int (nI n_1), .int v_4, .int v_5, .ref (x + 3), .ref (x + 4), .int v_6, .long v_7, .ref (x + 5), .int (nI fl), .int v_8, .long v_9, .long v_10, .long v_11, .long v_12, .ref (x + 6), .ref (x + 7), .int (nI pe), .ref (x + 8), .int (nI le), .ref (x + 9), .ref (x + 10), .int (nI qu), .ref (x + 11), .ref (x + 12), .ref (x + 13), .ref (x + 14), .ref (x + 15), .ref (x + 16), .int (nI n_2), .long v_13, .ref (x + 17), .ref (x + 18), .ref (x + 19), .ref (x + 20), .ref (x + 21), .ref (x + 22), .int (nI n_3), .ref (x + 23), .ref (x + 24), .int (nI n_4), .ref (x + 25), .int (nI il), .int (nI nx), .int ec, .int v_14, .int kn, .int v_15, .int nu, .long va]) := h_1
  refine z_put (ref := "FlowExporterModel") (C := RX12) (T := TX12) (N := 54) (ci := 14) (v := .int 0) B (by decide +kernel) tyX12 tyX12_ok nmX12 rfl 0 (by decide) (by decide +kernel) rfl (Or.inl rfl) h_2 hx rfl rfl (Nat.le_of_ble_eq_true rfl) dX12_key_2 (fun Φ1 hΦ1 => ?_)
  have h_3 : Φ1 x = some (o_ 14 [.int 0, .ref (x + 1), .ref (x + 2), .int v_2, .int v_3, .int (nI n_1), .int v_4, .int v_5, .ref (x + 3), .ref (x + 4), .int v_6, .long v_7, .ref (x + 5), .int (nI fl), .int v_8, .long v_9, .long v_10, .long v_11, .long v_12, .ref (x + 6), .ref (x + 7), .int (nI pe), .ref (x + 8), .int (nI le), .ref (x + 9), .ref (x + 10), .int (nI qu), .ref (x + 11), .ref (x + 12), .ref (x + 13), .ref (x + 14), .ref (x + 15), .ref (x + 16), .int (nI n_2), .long v_13, .ref (x + 17), .ref (x + 18), .ref (x + 19), .ref (x + 20), .ref (x + 21), .ref (x + 22), .int (nI n_3), .ref (x + 23), .ref (x + 24), .int (nI n_4), .ref (x + 25), .int (nI il), .int (nI nx), .int ec, .int v_14, .int kn, .int v_15, .int nu, .long va]) := fset_at hΦ1
  have hI1 : Im G x (rd, NN, fl, pe, le, nx, il, qu, kn, ec, nu, va) Φ1 := Im.put0 hI hΦ1 ⟨0, v_2, v_3, n_1, v_4, v_5, v_6, v_7, v_8, v_9, v_10, v_11, v_12, n_2, v_13, n_3, n_4, v_14, v_15, rfl, b_12, (show 1 ≤ n_1 by omega), (show n_1 ≤ 1024 by omega), (show fl ≤ 12 by omega), (show pe ≤ 24 by omega), (show le ≤ 700 by omega), (show qu ≤ 12 by omega), (show n_2 ≤ 8 by omega), (show n_3 ≤ 24 by omega), (show n_4 ≤ 24 by omega), (show il ≤ 700 by omega), (show nx ≤ 701 by omega)⟩
  refine z_aload_n B dX12_key_5 rfl 0 rfl ?_
  refine z_aload_n B dX12_key_6 rfl 0 rfl ?_
  refine z_iload_n B dX12_key_7 rfl 1 rfl ?_
  refine z_callV (As := [.int a]) (rest := [.ref x]) B (r_isKey G l Φ1 sz x rd fl pe le nx il qu kn ec nu va a hx hI1 ) (cwV 1 B.1.2.2.2.2 gX12_key_X12_isKey rfl rfl rfl (by decide +kernel) ⟨Nat.le_of_ble_eq_true rfl, Nat.le_of_ble_eq_true rfl⟩) h_3 rfl rfl rfl rfl (Nat.le_of_ble_eq_true rfl) dX12_key_8 ⟨Nat.le_of_ble_eq_true rfl, Nat.le_of_ble_eq_true rfl⟩ (fun r_1 Φ2 sz1 st1 hp1 hs1 => ?_)
  obtain ⟨ha1, hq1, hI2, hF1⟩ := hp1
  subst sz1
  replace hI2 : Im G x (rd, NN, fl, pe, le, nx, il, qu, kn, ec, nu, va) Φ2 := hI2
  rcases ha1 with rfl | ⟨rfl, n_5, b_13, rfl⟩
  · replace hs1 : st1 = [.int 0, .ref x] := hs1
    subst st1
    refine z_if_ne (tgt := 18) B dX12_key_11 rfl (fun h9 => absurd (by decide) h9) (fun c_1 => ?_)
    refine z_iconst (v := 1) B dX12_key_14 rfl ?_
    refine z_goto (tgt := 19) B dX12_key_15 rfl ?_
    refine z_iconst (v := 1) B dX12_key_19 rfl ?_
    have h_4 : Φ2 x = some (o_ 14 [.int 0, .ref (x + 1), .ref (x + 2), .int v_2, .int v_3, .int (nI n_1), .int v_4, .int v_5, .ref (x + 3), .ref (x + 4), .int v_6, .long v_7, .ref (x + 5), .int (nI fl), .int v_8, .long v_9, .long v_10, .long v_11, .long v_12, .ref (x + 6), .ref (x + 7), .int (nI pe), .ref (x + 8), .int (nI le), .ref (x + 9), .ref (x + 10), .int (nI qu), .ref (x + 11), .ref (x + 12), .ref (x + 13), .ref (x + 14), .ref (x + 15), .ref (x + 16), .int (nI n_2), .long v_13, .ref (x + 17), .ref (x + 18), .ref (x + 19), .ref (x + 20), .ref (x + 21), .ref (x + 22), .int (nI n_3), .ref (x + 23), .ref (x + 24), .int (nI n_4), .ref (x + 25), .int (nI il), .int (nI nx), .int ec, .int v_14, .int kn, .int v_15, .int nu, .long va]) := ((hF1 x (fun j9 h8 h7 => (show False from h7).elim)).trans h_3)
    refine z_callV (As := [.int 1, .int 1]) (rest := []) B (r_throwsIf G l Φ2 sz x rd fl pe le nx il qu kn ec nu va 1 1 hx hI2 (by decide)) (cwV 2 B.1.2.2.2.2 gX12_key_X12_throwsIf rfl rfl rfl (by decide +kernel) ⟨Nat.le_of_ble_eq_true rfl, Nat.le_of_ble_eq_true rfl⟩) h_4 rfl rfl rfl rfl (Nat.le_of_ble_eq_true rfl) dX12_key_20 ⟨Nat.le_of_ble_eq_true rfl, Nat.le_of_ble_eq_true rfl⟩ (fun r_2 Φ3 sz2 st2 hp2 hs2 => ?_)
    obtain ⟨rfl, hq2, hI3, hF2⟩ := hp2
    subst sz2
    replace hs2 : st2 = [.int 1] := hs2
    subst st2
    replace hI3 : Im G x (rd, NN, fl, pe, le, nx, il, qu, kn, ec, nu, va) Φ3 := hI3
    refine z_if_ne (tgt := 51) B dX12_key_23 rfl (fun c_2 => ?_) (fun h9 => absurd h9 (by decide))
    refine z_iconst (v := 0) B dX12_key_51 rfl ?_
    refine z_goto (tgt := 65) B dX12_key_52 rfl ?_
    exact z_ret_i B dX12_key_65 ⟨⟨_, rfl⟩, rfl, hI3, (fun b9 h9 => ((hF2 b9 (fun j9 h8 h7 => h9 j9 h8 (show j9 = 0 by have h6 : j9 = 0 := h7; omega))).trans ((hF1 b9 (fun j9 h8 h7 => (show False from h7).elim)).trans ((fset_fr hΦ1 (fun h8 => h9 (0) h8 (show 0 = 0 by omega))).trans rfl))))⟩
  · replace hs1 : st1 = [.int 1, .ref x] := hs1
    subst st1
    replace b_13 : n_5 < 24 := b_13
    refine z_if_ne (tgt := 18) B dX12_key_11 rfl (fun c_3 => ?_) (fun h9 => absurd h9 (by decide))
    refine z_iconst (v := 0) B dX12_key_18 rfl ?_
    refine z_iconst (v := 1) B dX12_key_19 rfl ?_
    have h_5 : Φ2 x = some (o_ 14 [.int 0, .ref (x + 1), .ref (x + 2), .int v_2, .int v_3, .int (nI n_1), .int v_4, .int v_5, .ref (x + 3), .ref (x + 4), .int v_6, .long v_7, .ref (x + 5), .int (nI fl), .int v_8, .long v_9, .long v_10, .long v_11, .long v_12, .ref (x + 6), .ref (x + 7), .int (nI pe), .ref (x + 8), .int (nI le), .ref (x + 9), .ref (x + 10), .int (nI qu), .ref (x + 11), .ref (x + 12), .ref (x + 13), .ref (x + 14), .ref (x + 15), .ref (x + 16), .int (nI n_2), .long v_13, .ref (x + 17), .ref (x + 18), .ref (x + 19), .ref (x + 20), .ref (x + 21), .ref (x + 22), .int (nI n_3), .ref (x + 23), .ref (x + 24), .int (nI n_4), .ref (x + 25), .int (nI il), .int (nI nx), .int ec, .int v_14, .int kn, .int v_15, .int nu, .long va]) := ((hF1 x (fun j9 h8 h7 => (show False from h7).elim)).trans h_3)
    refine z_callV (As := [.int 0, .int 1]) (rest := []) B (r_throwsIf G l Φ2 sz x rd fl pe le nx il qu kn ec nu va 0 1 hx hI2 (by decide)) (cwV 2 B.1.2.2.2.2 gX12_key_X12_throwsIf rfl rfl rfl (by decide +kernel) ⟨Nat.le_of_ble_eq_true rfl, Nat.le_of_ble_eq_true rfl⟩) h_5 rfl rfl rfl rfl (Nat.le_of_ble_eq_true rfl) dX12_key_20 ⟨Nat.le_of_ble_eq_true rfl, Nat.le_of_ble_eq_true rfl⟩ (fun r_3 Φ4 sz3 st3 hp3 hs3 => ?_)
    obtain ⟨rfl, hq3, hI4, hF3⟩ := hp3
    subst sz3
    replace hs3 : st3 = [.int 0] := hs3
    subst st3
    replace hI4 : Im G x (rd, NN, fl, pe, le, nx, il, qu, kn, ec, nu, va) Φ4 := hI4
    refine z_if_ne (tgt := 51) B dX12_key_23 rfl (fun h9 => absurd (by decide) h9) (fun c_4 => ?_)
    refine z_aload_n B dX12_key_26 rfl 0 rfl ?_
    refine z_iload_n B dX12_key_27 rfl 2 rfl ?_
    refine z_i2l (v := b.toInt64) B dX12_key_28 rfl ?_
    refine z_lconst (v := 0) B dX12_key_29 rfl ?_
    refine z_ldc2 (v := 3) B (by decide +kernel) dX12_key_30 ?_
    by_cases hR1 : inP b.toInt64 0 3
    · obtain ⟨n_6, e_1, e_2, e_3, rfl⟩ := in_get (L := 0) (H := 3) (by decide) (by decide) hR1
      refine z_callS (As := [.long ((nI n_6).toInt64), .long 0, .long 3]) (rest := [.ref x]) B (c_inR1 G l Φ4 sz ((nI n_6).toInt64) 0 3 hR1 (fun v8 Φ8 sz8 => v8 = some (.int 1) ∧ sz8 = sz ∧ Im G x (rd, NN, fl, pe, le, nx, il, qu, kn, ec, nu, va) Φ8 ∧ Fr x (fun j9 => False) Φ4 Φ8) ⟨rfl, rfl, hI4, fun _ _ => rfl⟩) (va_cwS 3 B.1.2.2.2.2 gX12_key_X12_inRange rfl rfl rfl (by decide +kernel) ⟨Nat.le_of_ble_eq_true rfl, Nat.le_of_ble_eq_true rfl⟩) rfl rfl (Nat.le_of_ble_eq_true rfl) dX12_key_33 ⟨Nat.le_of_ble_eq_true rfl, Nat.le_of_ble_eq_true rfl⟩ (fun r_4 Φ5 sz4 st4 hp4 hs4 => ?_)
      obtain ⟨rfl, hq4, hI5, hF4⟩ := hp4
      subst sz4
      replace hs4 : st4 = [.int 1, .ref x] := hs4
      subst st4
      refine z_if_ne (tgt := 43) B dX12_key_36 rfl (fun c_5 => ?_) (fun h9 => absurd h9 (by decide))
      refine z_iconst (v := 0) B dX12_key_43 rfl ?_
      refine z_iconst (v := 2) B dX12_key_44 rfl ?_
      obtain ⟨v_16, v_17, v_18, n_7, v_19, v_20, v_21, v_22, v_23, v_24, v_25, v_26, v_27, n_8, v_28, n_9, n_10, v_29, v_30, h_6, b_25, b_14, b_15, b_16, b_17, b_18, b_19, b_20, b_21, b_22, b_23, b_24⟩ := im0 hI5
      replace b_14 : 1 ≤ n_7 := b_14
      replace b_15 : n_7 ≤ 1024 := b_15
      replace b_16 : fl ≤ 12 := b_16
      replace b_17 : pe ≤ 24 := b_17
      replace b_18 : le ≤ 700 := b_18
      replace b_19 : qu ≤ 12 := b_19
      replace b_20 : n_8 ≤ 8 := b_20
      replace b_21 : n_9 ≤ 24 := b_21
      replace b_22 : n_10 ≤ 24 := b_22
      replace b_23 : il ≤ 700 := b_23
      replace b_24 : nx ≤ 701 := b_24
      have h_7 : Φ5 x = some (o_ 14 [.int v_16, .ref (x + 1), .ref (x + 2), .int v_17, .int v_18, .int (nI n_7), .int v_19, .int v_20, .ref (x + 3), .ref (x + 4), .int v_21, .long v_22, .ref (x + 5), .int (nI fl), .int v_23, .long v_24, .long v_25, .long v_26, .long v_27, .ref (x + 6), .ref (x + 7), .int (nI pe), .ref (x + 8), .int (nI le), .ref (x + 9), .ref (x + 10), .int (nI qu), .ref (x + 11), .ref (x + 12), .ref (x + 13), .ref (x + 14), .ref (x + 15), .ref (x + 16), .int (nI n_8), .long v_28, .ref (x + 17), .ref (x + 18), .ref (x + 19), .ref (x + 20), .ref (x + 21), .ref (x + 22), .int (nI n_9), .ref (x + 23), .ref (x + 24), .int (nI n_10), .ref (x + 25), .int (nI il), .int (nI nx), .int ec, .int v_29, .int kn, .int v_30, .int nu, .long va]) := h_6
      refine z_callV (As := [.int 0, .int 2]) (rest := []) B (r_throwsIf G l Φ5 sz x rd fl pe le nx il qu kn ec nu va 0 2 hx hI5 (by decide)) (cwV 2 B.1.2.2.2.2 gX12_key_X12_throwsIf rfl rfl rfl (by decide +kernel) ⟨Nat.le_of_ble_eq_true rfl, Nat.le_of_ble_eq_true rfl⟩) h_7 rfl rfl rfl rfl (Nat.le_of_ble_eq_true rfl) dX12_key_45 ⟨Nat.le_of_ble_eq_true rfl, Nat.le_of_ble_eq_true rfl⟩ (fun r_5 Φ6 sz5 st5 hp5 hs5 => ?_)
      obtain ⟨rfl, hq5, hI6, hF5⟩ := hp5
      subst sz5
      replace hs5 : st5 = [.int 0] := hs5
      subst st5
      replace hI6 : Im G x (rd, NN, fl, pe, le, nx, il, qu, kn, ec, nu, va) Φ6 := hI6
      refine z_if_eq (tgt := 55) B dX12_key_48 rfl (fun c_6 => ?_) (fun h9 => absurd (by decide) h9)
      refine z_aload_n B dX12_key_55 rfl 0 rfl ?_
      obtain ⟨v_31, v_32, v_33, n_11, v_34, v_35, v_36, v_37, v_38, v_39, v_40, v_41, v_42, n_12, v_43, n_13, n_14, v_44, v_45, h_8, b_37, b_26, b_27, b_28, b_29, b_30, b_31, b_32, b_33, b_34, b_35, b_36⟩ := im0 hI6
      replace b_26 : 1 ≤ n_11 := b_26
      replace b_27 : n_11 ≤ 1024 := b_27
      replace b_28 : fl ≤ 12 := b_28
      replace b_29 : pe ≤ 24 := b_29
      replace b_30 : le ≤ 700 := b_30
      replace b_31 : qu ≤ 12 := b_31
      replace b_32 : n_12 ≤ 8 := b_32
      replace b_33 : n_13 ≤ 24 := b_33
      replace b_34 : n_14 ≤ 24 := b_34
      replace b_35 : il ≤ 700 := b_35
      replace b_36 : nx ≤ 701 := b_36
      have h_9 : Φ6 x = some (o_ 14 [.int v_31, .ref (x + 1), .ref (x + 2), .int v_32, .int v_33, .int (nI n_11), .int v_34, .int v_35, .ref (x + 3), .ref (x + 4), .int v_36, .long v_37, .ref (x + 5), .int (nI fl), .int v_38, .long v_39, .long v_40, .long v_41, .long v_42, .ref (x + 6), .ref (x + 7), .int (nI pe), .ref (x + 8), .int (nI le), .ref (x + 9), .ref (x + 10), .int (nI qu), .ref (x + 11), .ref (x + 12), .ref (x + 13), .ref (x + 14), .ref (x + 15), .ref (x + 16), .int (nI n_12), .long v_43, .ref (x + 17), .ref (x + 18), .ref (x + 19), .ref (x + 20), .ref (x + 21), .ref (x + 22), .int (nI n_13), .ref (x + 23), .ref (x + 24), .int (nI n_14), .ref (x + 25), .int (nI il), .int (nI nx), .int ec, .int v_44, .int kn, .int v_45, .int nu, .long va]) := h_8
      refine z_get (ref := "FlowExporterModel") (C := RX12) (T := TX12) (N := 54) (ci := 14) (v := .ref (x + 19)) B (by decide +kernel) rfl 37 (by decide) (by decide +kernel) rfl h_9 rfl dX12_key_56 ?_
      refine z_iconst (v := 4) B dX12_key_59 rfl ?_
      refine z_iload_n B dX12_key_60 rfl 1 rfl ?_
      refine z_imul B dX12_key_61 ?_
      refine z_top (st1 := [.int (nI (4 * n_5)), .ref (x + 19)]) (congrArg (fun w9 : Int32 => ([.int w9, .ref (x + 19)] : List Value)) (nI_mul 4 n_5)) ?_
      refine z_iload_n B dX12_key_62 rfl 2 rfl ?_
      refine z_iadd B dX12_key_63 ?_
      refine z_top (st1 := [.int (nI (4 * n_5 + n_6)), .ref (x + 19)]) (congrArg (fun w9 : Int32 => ([.int w9, .ref (x + 19)] : List Value)) (nI_add (4 * n_5) n_6)) ?_
      obtain ⟨f_1, h_10⟩ := imk (k := 19) hI6
      have h_11 : Φ6 (x + 19) = some (ai_ G 96 f_1) := h_10
      refine z_iald B h_11 (vp_in_nI (by omega) (by omega)) dX12_key_64 ?_
      refine z_fi (fun v_46 => ?_)
      exact z_ret_i B dX12_key_65 ⟨⟨_, rfl⟩, rfl, hI6, (fun b9 h9 => ((hF5 b9 (fun j9 h8 h7 => h9 j9 h8 (show j9 = 0 by have h6 : j9 = 0 := h7; omega))).trans ((hF4 b9 (fun j9 h8 h7 => (show False from h7).elim)).trans ((hF3 b9 (fun j9 h8 h7 => h9 j9 h8 (show j9 = 0 by have h6 : j9 = 0 := h7; omega))).trans ((hF1 b9 (fun j9 h8 h7 => (show False from h7).elim)).trans ((fset_fr hΦ1 (fun h8 => h9 (0) h8 (show 0 = 0 by omega))).trans rfl))))))⟩
    · refine z_callS (As := [.long b.toInt64, .long 0, .long 3]) (rest := [.ref x]) B (c_inR0 G l Φ4 sz b.toInt64 0 3 hR1 (fun v8 Φ8 sz8 => v8 = some (.int 0) ∧ sz8 = sz ∧ Im G x (rd, NN, fl, pe, le, nx, il, qu, kn, ec, nu, va) Φ8 ∧ Fr x (fun j9 => False) Φ4 Φ8) ⟨rfl, rfl, hI4, fun _ _ => rfl⟩) (va_cwS 3 B.1.2.2.2.2 gX12_key_X12_inRange rfl rfl rfl (by decide +kernel) ⟨Nat.le_of_ble_eq_true rfl, Nat.le_of_ble_eq_true rfl⟩) rfl rfl (Nat.le_of_ble_eq_true rfl) dX12_key_33 ⟨Nat.le_of_ble_eq_true rfl, Nat.le_of_ble_eq_true rfl⟩ (fun r_7 Φ7 sz6 st6 hp6 hs6 => ?_)
      obtain ⟨rfl, hq6, hI7, hF6⟩ := hp6
      subst sz6
      replace hs6 : st6 = [.int 0, .ref x] := hs6
      subst st6
      refine z_if_ne (tgt := 43) B dX12_key_36 rfl (fun h9 => absurd (by decide) h9) (fun c_7 => ?_)
      refine z_iconst (v := 1) B dX12_key_39 rfl ?_
      refine z_goto (tgt := 44) B dX12_key_40 rfl ?_
      refine z_iconst (v := 2) B dX12_key_44 rfl ?_
      obtain ⟨v_47, v_48, v_49, n_15, v_50, v_51, v_52, v_53, v_54, v_55, v_56, v_57, v_58, n_16, v_59, n_17, n_18, v_60, v_61, h_12, b_49, b_38, b_39, b_40, b_41, b_42, b_43, b_44, b_45, b_46, b_47, b_48⟩ := im0 hI7
      replace b_38 : 1 ≤ n_15 := b_38
      replace b_39 : n_15 ≤ 1024 := b_39
      replace b_40 : fl ≤ 12 := b_40
      replace b_41 : pe ≤ 24 := b_41
      replace b_42 : le ≤ 700 := b_42
      replace b_43 : qu ≤ 12 := b_43
      replace b_44 : n_16 ≤ 8 := b_44
      replace b_45 : n_17 ≤ 24 := b_45
      replace b_46 : n_18 ≤ 24 := b_46
      replace b_47 : il ≤ 700 := b_47
      replace b_48 : nx ≤ 701 := b_48
      have h_13 : Φ7 x = some (o_ 14 [.int v_47, .ref (x + 1), .ref (x + 2), .int v_48, .int v_49, .int (nI n_15), .int v_50, .int v_51, .ref (x + 3), .ref (x + 4), .int v_52, .long v_53, .ref (x + 5), .int (nI fl), .int v_54, .long v_55, .long v_56, .long v_57, .long v_58, .ref (x + 6), .ref (x + 7), .int (nI pe), .ref (x + 8), .int (nI le), .ref (x + 9), .ref (x + 10), .int (nI qu), .ref (x + 11), .ref (x + 12), .ref (x + 13), .ref (x + 14), .ref (x + 15), .ref (x + 16), .int (nI n_16), .long v_59, .ref (x + 17), .ref (x + 18), .ref (x + 19), .ref (x + 20), .ref (x + 21), .ref (x + 22), .int (nI n_17), .ref (x + 23), .ref (x + 24), .int (nI n_18), .ref (x + 25), .int (nI il), .int (nI nx), .int ec, .int v_60, .int kn, .int v_61, .int nu, .long va]) := h_12
      refine z_callV (As := [.int 1, .int 2]) (rest := []) B (r_throwsIf G l Φ7 sz x rd fl pe le nx il qu kn ec nu va 1 2 hx hI7 (by decide)) (cwV 2 B.1.2.2.2.2 gX12_key_X12_throwsIf rfl rfl rfl (by decide +kernel) ⟨Nat.le_of_ble_eq_true rfl, Nat.le_of_ble_eq_true rfl⟩) h_13 rfl rfl rfl rfl (Nat.le_of_ble_eq_true rfl) dX12_key_45 ⟨Nat.le_of_ble_eq_true rfl, Nat.le_of_ble_eq_true rfl⟩ (fun r_8 Φ8 sz7 st7 hp7 hs7 => ?_)
      obtain ⟨rfl, hq7, hI8, hF7⟩ := hp7
      subst sz7
      replace hs7 : st7 = [.int 1] := hs7
      subst st7
      replace hI8 : Im G x (rd, NN, fl, pe, le, nx, il, qu, kn, ec, nu, va) Φ8 := hI8
      refine z_if_eq (tgt := 55) B dX12_key_48 rfl (fun h9 => absurd h9 (by decide)) (fun c_8 => ?_)
      refine z_iconst (v := 0) B dX12_key_51 rfl ?_
      refine z_goto (tgt := 65) B dX12_key_52 rfl ?_
      exact z_ret_i B dX12_key_65 ⟨⟨_, rfl⟩, rfl, hI8, (fun b9 h9 => ((hF7 b9 (fun j9 h8 h7 => h9 j9 h8 (show j9 = 0 by have h6 : j9 = 0 := h7; omega))).trans ((hF6 b9 (fun j9 h8 h7 => (show False from h7).elim)).trans ((hF3 b9 (fun j9 h8 h7 => h9 j9 h8 (show j9 = 0 by have h6 : j9 = 0 := h7; omega))).trans ((hF1 b9 (fun j9 h8 h7 => (show False from h7).elim)).trans ((fset_fr hΦ1 (fun h8 => h9 (0) h8 (show 0 = 0 by omega))).trans rfl))))))⟩

set_option maxRecDepth 20000 in
theorem ggX0_account_X0_hasStarted : GoodIn wsX0_account wsX0_hasStarted := (goodIn_ca (goodIn_r _ [15, 8] rfl (by decide +kernel)) (goodIn_sub (fun _ h => List.mem_cons_of_mem _ (List.mem_append_left _ (List.mem_append_right _ h))) gw_wsX00))
set_option maxRecDepth 20000 in
theorem gX0_account_X0_hasStarted : GoodIn wsX0_account (wsV RX0 111 RX0 yX0_hasStarted wsX0_hasStarted) := goodIn_app (goodIn_m (mem_cA (List.mem_cons_of_mem _ (List.mem_append_left _ (List.mem_append_left _ (List.mem_of_getElem? (i := 10) rfl)))) (mem_cA (List.mem_cons_of_mem _ (List.mem_append_left _ (List.mem_append_left _ (List.mem_of_getElem? (i := 11) rfl)))) (mem_cA (List.mem_cons_of_mem _ (List.mem_append_left _ (List.mem_append_left _ (List.mem_of_getElem? (i := 12) rfl)))) (mem_cA (List.mem_cons_of_mem _ (List.mem_append_left _ (List.mem_append_left _ (List.mem_of_getElem? (i := 13) rfl)))) mem_cZ)))) (by decide +kernel)) ggX0_account_X0_hasStarted
theorem dX0_account_0 : decode cX0_account 0 = .ok (.aload_n 0, 1) := by decide +kernel
theorem dX0_account_1 : decode cX0_account 1 = .ok (.invokevirtual 111, 3) := by decide +kernel
theorem dX0_account_4 : decode cX0_account 4 = .ok (.ifCond .eq 12, 3) := by decide +kernel
theorem dX0_account_7 : decode cX0_account 7 = .ok (.iload_n 1, 1) := by decide +kernel
theorem dX0_account_8 : decode cX0_account 8 = .ok (.aload_n 0, 1) := by decide +kernel
theorem dX0_account_9 : decode cX0_account 9 = .ok (.getfield 46, 3) := by decide +kernel
theorem dX0_account_12 : decode cX0_account 12 = .ok (.isub, 1) := by decide +kernel
theorem dX0_account_13 : decode cX0_account 13 = .ok (.goto 4, 3) := by decide +kernel
theorem dX0_account_16 : decode cX0_account 16 = .ok (.iconst 0, 1) := by decide +kernel
theorem dX0_account_17 : decode cX0_account 17 = .ok (.istore 4, 2) := by decide +kernel
theorem dX0_account_19 : decode cX0_account 19 = .ok (.iload 4, 2) := by decide +kernel
theorem dX0_account_21 : decode cX0_account 21 = .ok (.ifCond .ge 19, 3) := by decide +kernel
theorem dX0_account_24 : decode cX0_account 24 = .ok (.iload_n 1, 1) := by decide +kernel
theorem dX0_account_25 : decode cX0_account 25 = .ok (.ifCond .ne 15, 3) := by decide +kernel
theorem dX0_account_28 : decode cX0_account 28 = .ok (.iload_n 2, 1) := by decide +kernel
theorem dX0_account_29 : decode cX0_account 29 = .ok (.aload_n 0, 1) := by decide +kernel
theorem dX0_account_30 : decode cX0_account 30 = .ok (.getfield 43, 3) := by decide +kernel
theorem dX0_account_33 : decode cX0_account 33 = .ok (.if_icmp .le 7, 3) := by decide +kernel
theorem dX0_account_36 : decode cX0_account 36 = .ok (.iconst 1, 1) := by decide +kernel
theorem dX0_account_37 : decode cX0_account 37 = .ok (.goto 4, 3) := by decide +kernel
theorem dX0_account_40 : decode cX0_account 40 = .ok (.iconst 0, 1) := by decide +kernel
theorem dX0_account_41 : decode cX0_account 41 = .ok (.istore 5, 2) := by decide +kernel
theorem dX0_account_43 : decode cX0_account 43 = .ok (.iload 4, 2) := by decide +kernel
theorem dX0_account_45 : decode cX0_account 45 = .ok (.ifCond .ge 12, 3) := by decide +kernel
theorem dX0_account_48 : decode cX0_account 48 = .ok (.iload 5, 2) := by decide +kernel
theorem dX0_account_50 : decode cX0_account 50 = .ok (.ifCond .ne 7, 3) := by decide +kernel
theorem dX0_account_53 : decode cX0_account 53 = .ok (.iconst 1, 1) := by decide +kernel
theorem dX0_account_54 : decode cX0_account 54 = .ok (.goto 4, 3) := by decide +kernel
theorem dX0_account_57 : decode cX0_account 57 = .ok (.iconst 0, 1) := by decide +kernel
theorem dX0_account_58 : decode cX0_account 58 = .ok (.istore 6, 2) := by decide +kernel
theorem dX0_account_60 : decode cX0_account 60 = .ok (.iload 4, 2) := by decide +kernel
theorem dX0_account_62 : decode cX0_account 62 = .ok (.ifCond .le 15, 3) := by decide +kernel
theorem dX0_account_65 : decode cX0_account 65 = .ok (.aload_n 0, 1) := by decide +kernel
theorem dX0_account_66 : decode cX0_account 66 = .ok (.getfield 32, 3) := by decide +kernel
theorem dX0_account_69 : decode cX0_account 69 = .ok (.iconst 0, 1) := by decide +kernel
theorem dX0_account_70 : decode cX0_account 70 = .ok (.dup2, 1) := by decide +kernel
theorem dX0_account_71 : decode cX0_account 71 = .ok (.laload, 1) := by decide +kernel
theorem dX0_account_72 : decode cX0_account 72 = .ok (.iload 4, 2) := by decide +kernel
theorem dX0_account_74 : decode cX0_account 74 = .ok (.i2l, 1) := by decide +kernel
theorem dX0_account_75 : decode cX0_account 75 = .ok (.ladd, 1) := by decide +kernel
theorem dX0_account_76 : decode cX0_account 76 = .ok (.lastore, 1) := by decide +kernel
theorem dX0_account_77 : decode cX0_account 77 = .ok (.iload 5, 2) := by decide +kernel
theorem dX0_account_79 : decode cX0_account 79 = .ok (.ifCond .eq 13, 3) := by decide +kernel
theorem dX0_account_82 : decode cX0_account 82 = .ok (.aload_n 0, 1) := by decide +kernel
theorem dX0_account_83 : decode cX0_account 83 = .ok (.getfield 32, 3) := by decide +kernel
theorem dX0_account_86 : decode cX0_account 86 = .ok (.iconst 5, 1) := by decide +kernel
theorem dX0_account_87 : decode cX0_account 87 = .ok (.dup2, 1) := by decide +kernel
theorem dX0_account_88 : decode cX0_account 88 = .ok (.laload, 1) := by decide +kernel
theorem dX0_account_89 : decode cX0_account 89 = .ok (.lconst 1, 1) := by decide +kernel
theorem dX0_account_90 : decode cX0_account 90 = .ok (.ladd, 1) := by decide +kernel
theorem dX0_account_91 : decode cX0_account 91 = .ok (.lastore, 1) := by decide +kernel
theorem dX0_account_92 : decode cX0_account 92 = .ok (.iload 6, 2) := by decide +kernel
theorem dX0_account_94 : decode cX0_account 94 = .ok (.ifCond .eq 35, 3) := by decide +kernel
theorem dX0_account_97 : decode cX0_account 97 = .ok (.aload_n 0, 1) := by decide +kernel
theorem dX0_account_98 : decode cX0_account 98 = .ok (.getfield 32, 3) := by decide +kernel
theorem dX0_account_101 : decode cX0_account 101 = .ok (.iconst 1, 1) := by decide +kernel
theorem dX0_account_102 : decode cX0_account 102 = .ok (.dup2, 1) := by decide +kernel
theorem dX0_account_103 : decode cX0_account 103 = .ok (.laload, 1) := by decide +kernel
theorem dX0_account_104 : decode cX0_account 104 = .ok (.lconst 1, 1) := by decide +kernel
theorem dX0_account_105 : decode cX0_account 105 = .ok (.ladd, 1) := by decide +kernel
theorem dX0_account_106 : decode cX0_account 106 = .ok (.lastore, 1) := by decide +kernel
theorem dX0_account_107 : decode cX0_account 107 = .ok (.aload_n 0, 1) := by decide +kernel
theorem dX0_account_108 : decode cX0_account 108 = .ok (.getfield 32, 3) := by decide +kernel
theorem dX0_account_111 : decode cX0_account 111 = .ok (.iconst 0, 1) := by decide +kernel
theorem dX0_account_112 : decode cX0_account 112 = .ok (.lconst 0, 1) := by decide +kernel
theorem dX0_account_113 : decode cX0_account 113 = .ok (.aload_n 0, 1) := by decide +kernel
theorem dX0_account_114 : decode cX0_account 114 = .ok (.getfield 32, 3) := by decide +kernel
theorem dX0_account_117 : decode cX0_account 117 = .ok (.iconst 0, 1) := by decide +kernel
theorem dX0_account_118 : decode cX0_account 118 = .ok (.laload, 1) := by decide +kernel
theorem dX0_account_119 : decode cX0_account 119 = .ok (.iload_n 3, 1) := by decide +kernel
theorem dX0_account_120 : decode cX0_account 120 = .ok (.i2l, 1) := by decide +kernel
theorem dX0_account_121 : decode cX0_account 121 = .ok (.lsub, 1) := by decide +kernel
theorem dX0_account_122 : decode cX0_account 122 = .ok (.invokestatic 115, 3) := by decide +kernel
theorem dX0_account_125 : decode cX0_account 125 = .ok (.lastore, 1) := by decide +kernel
theorem dX0_account_126 : decode cX0_account 126 = .ok (.goto 10, 3) := by decide +kernel
theorem dX0_account_129 : decode cX0_account 129 = .ok (.aload_n 0, 1) := by decide +kernel
theorem dX0_account_130 : decode cX0_account 130 = .ok (.iload_n 1, 1) := by decide +kernel
theorem dX0_account_131 : decode cX0_account 131 = .ok (.iload_n 3, 1) := by decide +kernel
theorem dX0_account_132 : decode cX0_account 132 = .ok (.iadd, 1) := by decide +kernel
theorem dX0_account_133 : decode cX0_account 133 = .ok (.putfield 46, 3) := by decide +kernel
theorem dX0_account_136 : decode cX0_account 136 = .ok (.aload_n 0, 1) := by decide +kernel
theorem dX0_account_137 : decode cX0_account 137 = .ok (.getfield 39, 3) := by decide +kernel
theorem dX0_account_140 : decode cX0_account 140 = .ok (.bipush 8, 2) := by decide +kernel
theorem dX0_account_142 : decode cX0_account 142 = .ok (.irem, 1) := by decide +kernel
theorem dX0_account_143 : decode cX0_account 143 = .ok (.istore 7, 2) := by decide +kernel
theorem dX0_account_145 : decode cX0_account 145 = .ok (.aload_n 0, 1) := by decide +kernel
theorem dX0_account_146 : decode cX0_account 146 = .ok (.getfield 26, 3) := by decide +kernel
theorem dX0_account_149 : decode cX0_account 149 = .ok (.iload 7, 2) := by decide +kernel
theorem dX0_account_151 : decode cX0_account 151 = .ok (.iload_n 1, 1) := by decide +kernel
theorem dX0_account_152 : decode cX0_account 152 = .ok (.iastore, 1) := by decide +kernel
theorem dX0_account_153 : decode cX0_account 153 = .ok (.aload_n 0, 1) := by decide +kernel
theorem dX0_account_154 : decode cX0_account 154 = .ok (.getfield 29, 3) := by decide +kernel
theorem dX0_account_157 : decode cX0_account 157 = .ok (.iload 7, 2) := by decide +kernel
theorem dX0_account_159 : decode cX0_account 159 = .ok (.iload_n 2, 1) := by decide +kernel
theorem dX0_account_160 : decode cX0_account 160 = .ok (.iastore, 1) := by decide +kernel
theorem dX0_account_161 : decode cX0_account 161 = .ok (.aload_n 0, 1) := by decide +kernel
theorem dX0_account_162 : decode cX0_account 162 = .ok (.dup, 1) := by decide +kernel
theorem dX0_account_163 : decode cX0_account 163 = .ok (.getfield 39, 3) := by decide +kernel
theorem dX0_account_166 : decode cX0_account 166 = .ok (.iconst 1, 1) := by decide +kernel
theorem dX0_account_167 : decode cX0_account 167 = .ok (.iadd, 1) := by decide +kernel
theorem dX0_account_168 : decode cX0_account 168 = .ok (.putfield 39, 3) := by decide +kernel
theorem dX0_account_171 : decode cX0_account 171 = .ok (.aload_n 0, 1) := by decide +kernel
theorem dX0_account_172 : decode cX0_account 172 = .ok (.iload_n 2, 1) := by decide +kernel
theorem dX0_account_173 : decode cX0_account 173 = .ok (.putfield 43, 3) := by decide +kernel
theorem dX0_account_176 : decode cX0_account 176 = .ok (.return_, 1) := by decide +kernel
set_option maxHeartbeats 4000000 in
set_option maxRecDepth 100000 in
theorem s_X0_account (G : EnvG) (l : Launch) (Φ : Hm) (sz x ca : Nat) (a : Int32) (b : Int32) (d : Int32) (hx : G.2.2.2 ≤ x) (hI : In G x ca Φ) (hca : ca < 1000000) : Ct G l yX0_account wsX0_account ({ frames := 1, cells := 0, slots := 0, locals := 20 }) 0 0 [.ref (x + 132), .int a, .int b, .int d] Φ sz (fun v Φ1 sz1 => (v = none) ∧ sz1 = sz ∧ In G x (ca + 1) Φ1 ∧ Fr x (fun j9 => 132 ≤ j9 ∧ j9 < 140) Φ Φ1) := by
  refine Ct.of (cc := cX0_account) (maxL := 8) (ret := none) (by decide) rfl (Nat.le_of_ble_eq_true rfl) ?_
  intro p9 e9 s9 m9 w9 t9 k9 B
  show Z p9 l e9 _ s9 m9 _ w9 t9 k9 _ G 8 0 [(0, .ref (x + 132)), (1, .int a), (2, .int b), (3, .int d)] [] Φ sz 0 0
  refine z_aload_n B dX0_account_0 rfl 0 rfl ?_
  obtain ⟨n_1, v_1, v_2, h_1, b_1⟩ := in25 (k := 132) hI rfl
  have h_2 : Φ (x + 132) = some (o_ 2 [.ref (x + 3), .ref (x + 121), .ref (x + 133), .ref (x + 134), .ref (x + 135), .ref (x + 137), .ref (x + 138), .ref (x + 139), .ref (x + 140), .int (nI n_1), .int v_1, .int v_2]) := h_1
  refine z_callV (As := []) (rest := []) B (s_X0_hasStarted G l Φ sz x (ca)  hx hI (show ca < 1000000 by omega)) (cwV 0 B.1.2.2.2.2 gX0_account_X0_hasStarted rfl rfl rfl (by decide +kernel) ⟨Nat.le_of_ble_eq_true rfl, Nat.le_of_ble_eq_true rfl⟩) h_2 rfl rfl rfl rfl (Nat.le_of_ble_eq_true rfl) dX0_account_1 ⟨Nat.le_of_ble_eq_true rfl, Nat.le_of_ble_eq_true rfl⟩ (fun r_1 Φ1 sz1 st1 hp1 hs1 => ?_)
  obtain ⟨⟨v_3, rfl, b_2⟩, hq1, hI1, hF1⟩ := hp1
  subst sz1
  replace hs1 : st1 = [.int v_3] := hs1
  subst st1
  replace hI1 : In G x (ca) Φ1 := hI1
  refine z_if_eq (tgt := 16) B dX0_account_4 rfl (fun c_1 => ?_) (fun c_1 => ?_)
  · refine z_iconst (v := 0) B dX0_account_16 rfl ?_
    refine z_istore (lv' := [(4, .int 0), (0, .ref (x + 132)), (1, .int a), (2, .int b), (3, .int d)]) B dX0_account_17 (Nat.le_of_ble_eq_true rfl) rfl ?_
    refine z_iload B dX0_account_19 0 rfl ?_
    refine z_if_ge (tgt := 40) B dX0_account_21 rfl (fun c_2 => ?_) (fun h9 => absurd (by decide) h9)
    refine z_iconst (v := 0) B dX0_account_40 rfl ?_
    refine z_istore (lv' := [(5, .int 0), (4, .int 0), (0, .ref (x + 132)), (1, .int a), (2, .int b), (3, .int d)]) B dX0_account_41 (Nat.le_of_ble_eq_true rfl) rfl ?_
    refine z_iload B dX0_account_43 1 rfl ?_
    refine z_if_ge (tgt := 57) B dX0_account_45 rfl (fun c_3 => ?_) (fun h9 => absurd (by decide) h9)
    refine z_iconst (v := 0) B dX0_account_57 rfl ?_
    refine z_istore (lv' := [(6, .int 0), (5, .int 0), (4, .int 0), (0, .ref (x + 132)), (1, .int a), (2, .int b), (3, .int d)]) B dX0_account_58 (Nat.le_of_ble_eq_true rfl) rfl ?_
    refine z_iload B dX0_account_60 2 rfl ?_
    refine z_if_le (tgt := 77) B dX0_account_62 rfl (fun c_4 => ?_) (fun h9 => absurd (by decide) h9)
    refine z_iload B dX0_account_77 1 rfl ?_
    refine z_if_eq (tgt := 92) B dX0_account_79 rfl (fun c_5 => ?_) (fun h9 => absurd (by decide) h9)
    refine z_iload B dX0_account_92 0 rfl ?_
    refine z_if_eq (tgt := 129) B dX0_account_94 rfl (fun c_6 => ?_) (fun h9 => absurd (by decide) h9)
    refine z_aload_n B dX0_account_129 rfl 3 rfl ?_
    refine z_iload_n B dX0_account_130 rfl 4 rfl ?_
    refine z_iload_n B dX0_account_131 rfl 6 rfl ?_
    refine z_iadd B dX0_account_132 ?_
    refine z_fi (fun v_4 => ?_)
    have h_3 : Φ1 (x + 132) = some (o_ 2 [.ref (x + 3), .ref (x + 121), .ref (x + 133), .ref (x + 134), .ref (x + 135), .ref (x + 137), .ref (x + 138), .ref (x + 139), .ref (x + 140), .int (nI n_1), .int v_1, .int v_2]) := ((hF1 (x + 132) (fun j9 h8 h7 => (show False from h7).elim)).trans h_2)
    refine z_put (ref := "FlowExporter$Collector") (C := RX0) (T := TX0) (N := 12) (ci := 2) (v := .int v_4) B hu_X0_account_X0 tyX0 tyX0_ok nmX0 rfl 11 (Nat.le_of_ble_eq_true rfl) hv_X0_account_46 rfl (Or.inl rfl) h_3 (Nat.le_trans hx (Nat.le_add_right x 132)) rfl rfl (Nat.le_of_ble_eq_true rfl) dX0_account_133 (fun Φ2 hΦ1 => ?_)
    have h_4 : Φ2 (x + 132) = some (o_ 2 [.ref (x + 3), .ref (x + 121), .ref (x + 133), .ref (x + 134), .ref (x + 135), .ref (x + 137), .ref (x + 138), .ref (x + 139), .ref (x + 140), .int (nI n_1), .int v_1, .int v_4]) := fset_at hΦ1
    have hI2 : In G x (ca) Φ2 := In.put (k := 132) hI1 hΦ1 (ok25 (k := 132) rfl ⟨n_1, v_1, v_4, rfl, (show n_1 ≤ ca by omega)⟩)
    refine z_aload_n B dX0_account_136 rfl 3 rfl ?_
    refine z_get (ref := "FlowExporter$Collector") (C := RX0) (T := TX0) (N := 12) (ci := 2) (v := .int (nI n_1)) B hu_X0_account_X0 rfl 9 (Nat.le_of_ble_eq_true rfl) hv_X0_account_39 rfl h_4 rfl dX0_account_137 ?_
    refine z_bipush (v := 8) B dX0_account_140 rfl ?_
    refine z_irem B dX0_account_142 (by decide) ?_
    refine z_top (st1 := [.int (nI (n_1 % 8))]) (congrArg (fun w9 : Int32 => ([.int w9] : List Value)) (nI_rem8 (show n_1 < 2 ^ 31 by omega))) ?_
    refine z_istore (lv' := [(7, .int (nI (n_1 % 8))), (6, .int 0), (5, .int 0), (4, .int 0), (0, .ref (x + 132)), (1, .int a), (2, .int b), (3, .int d)]) B dX0_account_143 (Nat.le_of_ble_eq_true rfl) rfl ?_
    refine z_aload_n B dX0_account_145 rfl 4 rfl ?_
    refine z_get (ref := "FlowExporter$Collector") (C := RX0) (T := TX0) (N := 12) (ci := 2) (v := .ref (x + 137)) B hu_X0_account_X0 rfl 5 (Nat.le_of_ble_eq_true rfl) hv_X0_account_26 rfl h_4 rfl dX0_account_146 ?_
    refine z_iload B dX0_account_149 0 rfl ?_
    refine z_iload_n B dX0_account_151 rfl 5 rfl ?_
    obtain ⟨f_1, h_5⟩ := in27 (k := 137) hI2 rfl
    have h_6 : Φ2 (x + 137) = some (ai_ G 8 f_1) := h_5
    refine z_iast B h_6 (Nat.le_trans hx (Nat.le_add_right x 137)) (vp_in_nI (by omega) (by omega)) dX0_account_152 (fun Φ3 hΦ2 => ?_)
    have h_7 : Φ3 (x + 137) = some (ai_ G 8 (upd f_1 (nI (n_1 % 8)).toNatClampNeg a)) := fset_at hΦ2
    have hI3 : In G x (ca) Φ3 := In.put (k := 137) hI2 hΦ2 (ok27 (k := 137) rfl ⟨_, rfl⟩)
    refine z_aload_n B dX0_account_153 rfl 4 rfl ?_
    have h_8 : Φ3 (x + 132) = some (o_ 2 [.ref (x + 3), .ref (x + 121), .ref (x + 133), .ref (x + 134), .ref (x + 135), .ref (x + 137), .ref (x + 138), .ref (x + 139), .ref (x + 140), .int (nI n_1), .int v_1, .int v_4]) := ((fset_fr hΦ2 (ne_off (x := x) (i := 132) (j := 137) rfl)).trans h_4)
    refine z_get (ref := "FlowExporter$Collector") (C := RX0) (T := TX0) (N := 12) (ci := 2) (v := .ref (x + 138)) B hu_X0_account_X0 rfl 6 (Nat.le_of_ble_eq_true rfl) hv_X0_account_29 rfl h_8 rfl dX0_account_154 ?_
    refine z_iload B dX0_account_157 0 rfl ?_
    refine z_iload_n B dX0_account_159 rfl 6 rfl ?_
    obtain ⟨f_2, h_9⟩ := in27 (k := 138) hI3 rfl
    have h_10 : Φ3 (x + 138) = some (ai_ G 8 f_2) := h_9
    refine z_iast B h_10 (Nat.le_trans hx (Nat.le_add_right x 138)) (vp_in_nI (by omega) (by omega)) dX0_account_160 (fun Φ4 hΦ3 => ?_)
    have h_11 : Φ4 (x + 138) = some (ai_ G 8 (upd f_2 (nI (n_1 % 8)).toNatClampNeg b)) := fset_at hΦ3
    have hI4 : In G x (ca) Φ4 := In.put (k := 138) hI3 hΦ3 (ok27 (k := 138) rfl ⟨_, rfl⟩)
    have hI5 : In G x (ca + 1) Φ4 := In.mono hI4 (by omega)
    refine z_aload_n B dX0_account_161 rfl 4 rfl ?_
    refine z_dup B dX0_account_162 rfl ?_
    have h_12 : Φ4 (x + 132) = some (o_ 2 [.ref (x + 3), .ref (x + 121), .ref (x + 133), .ref (x + 134), .ref (x + 135), .ref (x + 137), .ref (x + 138), .ref (x + 139), .ref (x + 140), .int (nI n_1), .int v_1, .int v_4]) := ((fset_fr hΦ3 (ne_off (x := x) (i := 132) (j := 138) rfl)).trans h_8)
    refine z_get (ref := "FlowExporter$Collector") (C := RX0) (T := TX0) (N := 12) (ci := 2) (v := .int (nI n_1)) B hu_X0_account_X0 rfl 9 (Nat.le_of_ble_eq_true rfl) hv_X0_account_39 rfl h_12 rfl dX0_account_163 ?_
    refine z_iconst (v := 1) B dX0_account_166 rfl ?_
    refine z_iadd B dX0_account_167 ?_
    refine z_top (st1 := [.int (nI (n_1 + 1)), .ref (x + 132)]) (congrArg (fun w9 : Int32 => ([.int w9, .ref (x + 132)] : List Value)) (nI_add n_1 1)) ?_
    refine z_put (ref := "FlowExporter$Collector") (C := RX0) (T := TX0) (N := 12) (ci := 2) (v := .int (nI (n_1 + 1))) B hu_X0_account_X0 tyX0 tyX0_ok nmX0 rfl 9 (Nat.le_of_ble_eq_true rfl) hv_X0_account_39 rfl (Or.inl rfl) h_12 (Nat.le_trans hx (Nat.le_add_right x 132)) rfl rfl (Nat.le_of_ble_eq_true rfl) dX0_account_168 (fun Φ5 hΦ4 => ?_)
    have h_13 : Φ5 (x + 132) = some (o_ 2 [.ref (x + 3), .ref (x + 121), .ref (x + 133), .ref (x + 134), .ref (x + 135), .ref (x + 137), .ref (x + 138), .ref (x + 139), .ref (x + 140), .int (nI (n_1 + 1)), .int v_1, .int v_4]) := fset_at hΦ4
    have hI6 : In G x (ca + 1) Φ5 := In.put (k := 132) hI5 hΦ4 (ok25 (k := 132) rfl ⟨n_1 + 1, v_1, v_4, rfl, (show n_1 + 1 ≤ ca + 1 by omega)⟩)
    refine z_aload_n B dX0_account_171 rfl 4 rfl ?_
    refine z_iload_n B dX0_account_172 rfl 6 rfl ?_
    refine z_put (ref := "FlowExporter$Collector") (C := RX0) (T := TX0) (N := 12) (ci := 2) (v := .int b) B hu_X0_account_X0 tyX0 tyX0_ok nmX0 rfl 10 (Nat.le_of_ble_eq_true rfl) hv_X0_account_43 rfl (Or.inl rfl) h_13 (Nat.le_trans hx (Nat.le_add_right x 132)) rfl rfl (Nat.le_of_ble_eq_true rfl) dX0_account_173 (fun Φ6 hΦ5 => ?_)
    have h_14 : Φ6 (x + 132) = some (o_ 2 [.ref (x + 3), .ref (x + 121), .ref (x + 133), .ref (x + 134), .ref (x + 135), .ref (x + 137), .ref (x + 138), .ref (x + 139), .ref (x + 140), .int (nI (n_1 + 1)), .int b, .int v_4]) := fset_at hΦ5
    have hI7 : In G x (ca + 1) Φ6 := In.put (k := 132) hI6 hΦ5 (ok25 (k := 132) rfl ⟨n_1 + 1, b, v_4, rfl, (show n_1 + 1 ≤ ca + 1 by omega)⟩)
    exact z_ret_v B dX0_account_176 ⟨rfl, rfl, hI7, (fun b9 h9 => ((fset_fr hΦ5 (fun h8 => h9 (132) h8 (show 132 ≤ 132 ∧ 132 < 140 by decide))).trans ((fset_fr hΦ4 (fun h8 => h9 (132) h8 (show 132 ≤ 132 ∧ 132 < 140 by decide))).trans ((fset_fr hΦ3 (fun h8 => h9 (138) h8 (show 132 ≤ 138 ∧ 138 < 140 by decide))).trans ((fset_fr hΦ2 (fun h8 => h9 (137) h8 (show 132 ≤ 137 ∧ 137 < 140 by decide))).trans ((fset_fr hΦ1 (fun h8 => h9 (132) h8 (show 132 ≤ 132 ∧ 132 < 140 by decide))).trans ((hF1 b9 (fun j9 h8 h7 => (show False from h7).elim)).trans rfl)))))))⟩
  · refine z_iload_n B dX0_account_7 rfl 1 rfl ?_
    refine z_aload_n B dX0_account_8 rfl 0 rfl ?_
    have h_15 : Φ1 (x + 132) = some (o_ 2 [.ref (x + 3), .ref (x + 121), .ref (x + 133), .ref (x + 134), .ref (x + 135), .ref (x + 137), .ref (x + 138), .ref (x + 139), .ref (x + 140), .int (nI n_1), .int v_1, .int v_2]) := ((hF1 (x + 132) (fun j9 h8 h7 => (show False from h7).elim)).trans h_2)
    refine z_get (ref := "FlowExporter$Collector") (C := RX0) (T := TX0) (N := 12) (ci := 2) (v := .int v_2) B hu_X0_account_X0 rfl 11 (Nat.le_of_ble_eq_true rfl) hv_X0_account_46 rfl h_15 rfl dX0_account_9 ?_
    refine z_isub B dX0_account_12 ?_
    refine z_fi (fun v_5 => ?_)
    refine z_goto (tgt := 17) B dX0_account_13 rfl ?_
    refine z_istore (lv' := [(4, .int v_5), (0, .ref (x + 132)), (1, .int a), (2, .int b), (3, .int d)]) B dX0_account_17 (Nat.le_of_ble_eq_true rfl) rfl ?_
    refine z_iload B dX0_account_19 0 rfl ?_
    refine z_if_ge (tgt := 40) B dX0_account_21 rfl (fun c_7 => ?_) (fun c_7 => ?_)
    · obtain ⟨n_2, e_1, rfl⟩ := nI_of (Int32.not_lt.mpr c_7)
      refine z_iconst (v := 0) B dX0_account_40 rfl ?_
      refine z_istore (lv' := [(5, .int 0), (4, .int (nI n_2)), (0, .ref (x + 132)), (1, .int a), (2, .int b), (3, .int d)]) B dX0_account_41 (Nat.le_of_ble_eq_true rfl) rfl ?_
      refine z_iload B dX0_account_43 1 rfl ?_
      refine z_if_ge (tgt := 57) B dX0_account_45 rfl (fun c_8 => ?_) (fun c_8 => ?_)
      · have e_2 : 0 ≤ n_2 := (nI_leI (a := 0) (b := n_2) (by omega) (by omega)).mp c_8
        refine z_iconst (v := 0) B dX0_account_57 rfl ?_
        refine z_istore (lv' := [(6, .int 0), (5, .int 0), (4, .int (nI n_2)), (0, .ref (x + 132)), (1, .int a), (2, .int b), (3, .int d)]) B dX0_account_58 (Nat.le_of_ble_eq_true rfl) rfl ?_
        refine z_iload B dX0_account_60 2 rfl ?_
        refine z_if_le (tgt := 77) B dX0_account_62 rfl (fun c_9 => ?_) (fun c_9 => ?_)
        · have e_3 : n_2 ≤ 0 := (nI_leI (a := n_2) (b := 0) (by omega) (by omega)).mp c_9
          refine z_iload B dX0_account_77 1 rfl ?_
          refine z_if_eq (tgt := 92) B dX0_account_79 rfl (fun c_10 => ?_) (fun h9 => absurd (by decide) h9)
          refine z_iload B dX0_account_92 0 rfl ?_
          refine z_if_eq (tgt := 129) B dX0_account_94 rfl (fun c_11 => ?_) (fun h9 => absurd (by decide) h9)
          refine z_aload_n B dX0_account_129 rfl 3 rfl ?_
          refine z_iload_n B dX0_account_130 rfl 4 rfl ?_
          refine z_iload_n B dX0_account_131 rfl 6 rfl ?_
          refine z_iadd B dX0_account_132 ?_
          refine z_fi (fun v_6 => ?_)
          refine z_put (ref := "FlowExporter$Collector") (C := RX0) (T := TX0) (N := 12) (ci := 2) (v := .int v_6) B hu_X0_account_X0 tyX0 tyX0_ok nmX0 rfl 11 (Nat.le_of_ble_eq_true rfl) hv_X0_account_46 rfl (Or.inl rfl) h_15 (Nat.le_trans hx (Nat.le_add_right x 132)) rfl rfl (Nat.le_of_ble_eq_true rfl) dX0_account_133 (fun Φ7 hΦ6 => ?_)
          have h_16 : Φ7 (x + 132) = some (o_ 2 [.ref (x + 3), .ref (x + 121), .ref (x + 133), .ref (x + 134), .ref (x + 135), .ref (x + 137), .ref (x + 138), .ref (x + 139), .ref (x + 140), .int (nI n_1), .int v_1, .int v_6]) := fset_at hΦ6
          have hI8 : In G x (ca) Φ7 := In.put (k := 132) hI1 hΦ6 (ok25 (k := 132) rfl ⟨n_1, v_1, v_6, rfl, (show n_1 ≤ ca by omega)⟩)
          refine z_aload_n B dX0_account_136 rfl 3 rfl ?_
          refine z_get (ref := "FlowExporter$Collector") (C := RX0) (T := TX0) (N := 12) (ci := 2) (v := .int (nI n_1)) B hu_X0_account_X0 rfl 9 (Nat.le_of_ble_eq_true rfl) hv_X0_account_39 rfl h_16 rfl dX0_account_137 ?_
          refine z_bipush (v := 8) B dX0_account_140 rfl ?_
          refine z_irem B dX0_account_142 (by decide) ?_
          refine z_top (st1 := [.int (nI (n_1 % 8))]) (congrArg (fun w9 : Int32 => ([.int w9] : List Value)) (nI_rem8 (show n_1 < 2 ^ 31 by omega))) ?_
          refine z_istore (lv' := [(7, .int (nI (n_1 % 8))), (6, .int 0), (5, .int 0), (4, .int (nI n_2)), (0, .ref (x + 132)), (1, .int a), (2, .int b), (3, .int d)]) B dX0_account_143 (Nat.le_of_ble_eq_true rfl) rfl ?_
          refine z_aload_n B dX0_account_145 rfl 4 rfl ?_
          refine z_get (ref := "FlowExporter$Collector") (C := RX0) (T := TX0) (N := 12) (ci := 2) (v := .ref (x + 137)) B hu_X0_account_X0 rfl 5 (Nat.le_of_ble_eq_true rfl) hv_X0_account_26 rfl h_16 rfl dX0_account_146 ?_
          refine z_iload B dX0_account_149 0 rfl ?_
          refine z_iload_n B dX0_account_151 rfl 5 rfl ?_
          obtain ⟨f_3, h_17⟩ := in27 (k := 137) hI8 rfl
          have h_18 : Φ7 (x + 137) = some (ai_ G 8 f_3) := h_17
          refine z_iast B h_18 (Nat.le_trans hx (Nat.le_add_right x 137)) (vp_in_nI (by omega) (by omega)) dX0_account_152 (fun Φ8 hΦ7 => ?_)
          have h_19 : Φ8 (x + 137) = some (ai_ G 8 (upd f_3 (nI (n_1 % 8)).toNatClampNeg a)) := fset_at hΦ7
          have hI9 : In G x (ca) Φ8 := In.put (k := 137) hI8 hΦ7 (ok27 (k := 137) rfl ⟨_, rfl⟩)
          refine z_aload_n B dX0_account_153 rfl 4 rfl ?_
          have h_20 : Φ8 (x + 132) = some (o_ 2 [.ref (x + 3), .ref (x + 121), .ref (x + 133), .ref (x + 134), .ref (x + 135), .ref (x + 137), .ref (x + 138), .ref (x + 139), .ref (x + 140), .int (nI n_1), .int v_1, .int v_6]) := ((fset_fr hΦ7 (ne_off (x := x) (i := 132) (j := 137) rfl)).trans h_16)
          refine z_get (ref := "FlowExporter$Collector") (C := RX0) (T := TX0) (N := 12) (ci := 2) (v := .ref (x + 138)) B hu_X0_account_X0 rfl 6 (Nat.le_of_ble_eq_true rfl) hv_X0_account_29 rfl h_20 rfl dX0_account_154 ?_
          refine z_iload B dX0_account_157 0 rfl ?_
          refine z_iload_n B dX0_account_159 rfl 6 rfl ?_
          obtain ⟨f_4, h_21⟩ := in27 (k := 138) hI9 rfl
          have h_22 : Φ8 (x + 138) = some (ai_ G 8 f_4) := h_21
          refine z_iast B h_22 (Nat.le_trans hx (Nat.le_add_right x 138)) (vp_in_nI (by omega) (by omega)) dX0_account_160 (fun Φ9 hΦ8 => ?_)
          have h_23 : Φ9 (x + 138) = some (ai_ G 8 (upd f_4 (nI (n_1 % 8)).toNatClampNeg b)) := fset_at hΦ8
          have hI10 : In G x (ca) Φ9 := In.put (k := 138) hI9 hΦ8 (ok27 (k := 138) rfl ⟨_, rfl⟩)
          have hI11 : In G x (ca + 1) Φ9 := In.mono hI10 (by omega)
          refine z_aload_n B dX0_account_161 rfl 4 rfl ?_
          refine z_dup B dX0_account_162 rfl ?_
          have h_24 : Φ9 (x + 132) = some (o_ 2 [.ref (x + 3), .ref (x + 121), .ref (x + 133), .ref (x + 134), .ref (x + 135), .ref (x + 137), .ref (x + 138), .ref (x + 139), .ref (x + 140), .int (nI n_1), .int v_1, .int v_6]) := ((fset_fr hΦ8 (ne_off (x := x) (i := 132) (j := 138) rfl)).trans h_20)
          refine z_get (ref := "FlowExporter$Collector") (C := RX0) (T := TX0) (N := 12) (ci := 2) (v := .int (nI n_1)) B hu_X0_account_X0 rfl 9 (Nat.le_of_ble_eq_true rfl) hv_X0_account_39 rfl h_24 rfl dX0_account_163 ?_
          refine z_iconst (v := 1) B dX0_account_166 rfl ?_
          refine z_iadd B dX0_account_167 ?_
          refine z_top (st1 := [.int (nI (n_1 + 1)), .ref (x + 132)]) (congrArg (fun w9 : Int32 => ([.int w9, .ref (x + 132)] : List Value)) (nI_add n_1 1)) ?_
          refine z_put (ref := "FlowExporter$Collector") (C := RX0) (T := TX0) (N := 12) (ci := 2) (v := .int (nI (n_1 + 1))) B hu_X0_account_X0 tyX0 tyX0_ok nmX0 rfl 9 (Nat.le_of_ble_eq_true rfl) hv_X0_account_39 rfl (Or.inl rfl) h_24 (Nat.le_trans hx (Nat.le_add_right x 132)) rfl rfl (Nat.le_of_ble_eq_true rfl) dX0_account_168 (fun Φ10 hΦ9 => ?_)
          have h_25 : Φ10 (x + 132) = some (o_ 2 [.ref (x + 3), .ref (x + 121), .ref (x + 133), .ref (x + 134), .ref (x + 135), .ref (x + 137), .ref (x + 138), .ref (x + 139), .ref (x + 140), .int (nI (n_1 + 1)), .int v_1, .int v_6]) := fset_at hΦ9
          have hI12 : In G x (ca + 1) Φ10 := In.put (k := 132) hI11 hΦ9 (ok25 (k := 132) rfl ⟨n_1 + 1, v_1, v_6, rfl, (show n_1 + 1 ≤ ca + 1 by omega)⟩)
          refine z_aload_n B dX0_account_171 rfl 4 rfl ?_
          refine z_iload_n B dX0_account_172 rfl 6 rfl ?_
          refine z_put (ref := "FlowExporter$Collector") (C := RX0) (T := TX0) (N := 12) (ci := 2) (v := .int b) B hu_X0_account_X0 tyX0 tyX0_ok nmX0 rfl 10 (Nat.le_of_ble_eq_true rfl) hv_X0_account_43 rfl (Or.inl rfl) h_25 (Nat.le_trans hx (Nat.le_add_right x 132)) rfl rfl (Nat.le_of_ble_eq_true rfl) dX0_account_173 (fun Φ11 hΦ10 => ?_)
          have h_26 : Φ11 (x + 132) = some (o_ 2 [.ref (x + 3), .ref (x + 121), .ref (x + 133), .ref (x + 134), .ref (x + 135), .ref (x + 137), .ref (x + 138), .ref (x + 139), .ref (x + 140), .int (nI (n_1 + 1)), .int b, .int v_6]) := fset_at hΦ10
          have hI13 : In G x (ca + 1) Φ11 := In.put (k := 132) hI12 hΦ10 (ok25 (k := 132) rfl ⟨n_1 + 1, b, v_6, rfl, (show n_1 + 1 ≤ ca + 1 by omega)⟩)
          exact z_ret_v B dX0_account_176 ⟨rfl, rfl, hI13, (fun b9 h9 => ((fset_fr hΦ10 (fun h8 => h9 (132) h8 (show 132 ≤ 132 ∧ 132 < 140 by decide))).trans ((fset_fr hΦ9 (fun h8 => h9 (132) h8 (show 132 ≤ 132 ∧ 132 < 140 by decide))).trans ((fset_fr hΦ8 (fun h8 => h9 (138) h8 (show 132 ≤ 138 ∧ 138 < 140 by decide))).trans ((fset_fr hΦ7 (fun h8 => h9 (137) h8 (show 132 ≤ 137 ∧ 137 < 140 by decide))).trans ((fset_fr hΦ6 (fun h8 => h9 (132) h8 (show 132 ≤ 132 ∧ 132 < 140 by decide))).trans ((hF1 b9 (fun j9 h8 h7 => (show False from h7).elim)).trans rfl)))))))⟩
        · have e_4 : ¬ (n_2 ≤ 0) := fun h9 => c_9 ((nI_leI (a := n_2) (b := 0) (by omega) (by omega)).mpr h9)
          refine z_aload_n B dX0_account_65 rfl 3 rfl ?_
          refine z_get (ref := "FlowExporter$Collector") (C := RX0) (T := TX0) (N := 12) (ci := 2) (v := .ref (x + 139)) B hu_X0_account_X0 rfl 7 (Nat.le_of_ble_eq_true rfl) hv_X0_account_32 rfl h_15 rfl dX0_account_66 ?_
          refine z_iconst (v := 0) B dX0_account_69 rfl ?_
          refine z_dup2_11 B dX0_account_70 rfl rfl ?_
          obtain ⟨f_5, h_27⟩ := in28 (k := 139) hI1 rfl
          have h_28 : Φ1 (x + 139) = some (al_ G 9 f_5) := h_27
          refine z_lald B h_28 (vin rfl) dX0_account_71 ?_
          refine z_fl (fun v_7 => ?_)
          refine z_iload B dX0_account_72 2 rfl ?_
          refine z_i2l (v := (nI n_2).toInt64) B dX0_account_74 rfl ?_
          refine z_fl (fun v_8 => ?_)
          refine z_ladd B dX0_account_75 ?_
          refine z_fl (fun v_9 => ?_)
          refine z_last B h_28 (Nat.le_trans hx (Nat.le_add_right x 139)) (vin rfl) dX0_account_76 (fun Φ12 hΦ11 => ?_)
          have h_29 : Φ12 (x + 139) = some (al_ G 9 (vp_updL f_5 (0 : Int32).toNatClampNeg v_9)) := fset_at hΦ11
          have hI14 : In G x (ca) Φ12 := In.put (k := 139) hI1 hΦ11 (ok28 (k := 139) rfl ⟨_, rfl⟩)
          refine z_iload B dX0_account_77 1 rfl ?_
          refine z_if_eq (tgt := 92) B dX0_account_79 rfl (fun c_12 => ?_) (fun h9 => absurd (by decide) h9)
          refine z_iload B dX0_account_92 0 rfl ?_
          refine z_if_eq (tgt := 129) B dX0_account_94 rfl (fun c_13 => ?_) (fun h9 => absurd (by decide) h9)
          refine z_aload_n B dX0_account_129 rfl 3 rfl ?_
          refine z_iload_n B dX0_account_130 rfl 4 rfl ?_
          refine z_iload_n B dX0_account_131 rfl 6 rfl ?_
          refine z_iadd B dX0_account_132 ?_
          refine z_fi (fun v_10 => ?_)
          have h_30 : Φ12 (x + 132) = some (o_ 2 [.ref (x + 3), .ref (x + 121), .ref (x + 133), .ref (x + 134), .ref (x + 135), .ref (x + 137), .ref (x + 138), .ref (x + 139), .ref (x + 140), .int (nI n_1), .int v_1, .int v_2]) := ((fset_fr hΦ11 (ne_off (x := x) (i := 132) (j := 139) rfl)).trans h_15)
          refine z_put (ref := "FlowExporter$Collector") (C := RX0) (T := TX0) (N := 12) (ci := 2) (v := .int v_10) B hu_X0_account_X0 tyX0 tyX0_ok nmX0 rfl 11 (Nat.le_of_ble_eq_true rfl) hv_X0_account_46 rfl (Or.inl rfl) h_30 (Nat.le_trans hx (Nat.le_add_right x 132)) rfl rfl (Nat.le_of_ble_eq_true rfl) dX0_account_133 (fun Φ13 hΦ12 => ?_)
          have h_31 : Φ13 (x + 132) = some (o_ 2 [.ref (x + 3), .ref (x + 121), .ref (x + 133), .ref (x + 134), .ref (x + 135), .ref (x + 137), .ref (x + 138), .ref (x + 139), .ref (x + 140), .int (nI n_1), .int v_1, .int v_10]) := fset_at hΦ12
          have hI15 : In G x (ca) Φ13 := In.put (k := 132) hI14 hΦ12 (ok25 (k := 132) rfl ⟨n_1, v_1, v_10, rfl, (show n_1 ≤ ca by omega)⟩)
          refine z_aload_n B dX0_account_136 rfl 3 rfl ?_
          refine z_get (ref := "FlowExporter$Collector") (C := RX0) (T := TX0) (N := 12) (ci := 2) (v := .int (nI n_1)) B hu_X0_account_X0 rfl 9 (Nat.le_of_ble_eq_true rfl) hv_X0_account_39 rfl h_31 rfl dX0_account_137 ?_
          refine z_bipush (v := 8) B dX0_account_140 rfl ?_
          refine z_irem B dX0_account_142 (by decide) ?_
          refine z_top (st1 := [.int (nI (n_1 % 8))]) (congrArg (fun w9 : Int32 => ([.int w9] : List Value)) (nI_rem8 (show n_1 < 2 ^ 31 by omega))) ?_
          refine z_istore (lv' := [(7, .int (nI (n_1 % 8))), (6, .int 0), (5, .int 0), (4, .int (nI n_2)), (0, .ref (x + 132)), (1, .int a), (2, .int b), (3, .int d)]) B dX0_account_143 (Nat.le_of_ble_eq_true rfl) rfl ?_
          refine z_aload_n B dX0_account_145 rfl 4 rfl ?_
          refine z_get (ref := "FlowExporter$Collector") (C := RX0) (T := TX0) (N := 12) (ci := 2) (v := .ref (x + 137)) B hu_X0_account_X0 rfl 5 (Nat.le_of_ble_eq_true rfl) hv_X0_account_26 rfl h_31 rfl dX0_account_146 ?_
          refine z_iload B dX0_account_149 0 rfl ?_
          refine z_iload_n B dX0_account_151 rfl 5 rfl ?_
          obtain ⟨f_6, h_32⟩ := in27 (k := 137) hI15 rfl
          have h_33 : Φ13 (x + 137) = some (ai_ G 8 f_6) := h_32
          refine z_iast B h_33 (Nat.le_trans hx (Nat.le_add_right x 137)) (vp_in_nI (by omega) (by omega)) dX0_account_152 (fun Φ14 hΦ13 => ?_)
          have h_34 : Φ14 (x + 137) = some (ai_ G 8 (upd f_6 (nI (n_1 % 8)).toNatClampNeg a)) := fset_at hΦ13
          have hI16 : In G x (ca) Φ14 := In.put (k := 137) hI15 hΦ13 (ok27 (k := 137) rfl ⟨_, rfl⟩)
          refine z_aload_n B dX0_account_153 rfl 4 rfl ?_
          have h_35 : Φ14 (x + 132) = some (o_ 2 [.ref (x + 3), .ref (x + 121), .ref (x + 133), .ref (x + 134), .ref (x + 135), .ref (x + 137), .ref (x + 138), .ref (x + 139), .ref (x + 140), .int (nI n_1), .int v_1, .int v_10]) := ((fset_fr hΦ13 (ne_off (x := x) (i := 132) (j := 137) rfl)).trans h_31)
          refine z_get (ref := "FlowExporter$Collector") (C := RX0) (T := TX0) (N := 12) (ci := 2) (v := .ref (x + 138)) B hu_X0_account_X0 rfl 6 (Nat.le_of_ble_eq_true rfl) hv_X0_account_29 rfl h_35 rfl dX0_account_154 ?_
          refine z_iload B dX0_account_157 0 rfl ?_
          refine z_iload_n B dX0_account_159 rfl 6 rfl ?_
          obtain ⟨f_7, h_36⟩ := in27 (k := 138) hI16 rfl
          have h_37 : Φ14 (x + 138) = some (ai_ G 8 f_7) := h_36
          refine z_iast B h_37 (Nat.le_trans hx (Nat.le_add_right x 138)) (vp_in_nI (by omega) (by omega)) dX0_account_160 (fun Φ15 hΦ14 => ?_)
          have h_38 : Φ15 (x + 138) = some (ai_ G 8 (upd f_7 (nI (n_1 % 8)).toNatClampNeg b)) := fset_at hΦ14
          have hI17 : In G x (ca) Φ15 := In.put (k := 138) hI16 hΦ14 (ok27 (k := 138) rfl ⟨_, rfl⟩)
          have hI18 : In G x (ca + 1) Φ15 := In.mono hI17 (by omega)
          refine z_aload_n B dX0_account_161 rfl 4 rfl ?_
          refine z_dup B dX0_account_162 rfl ?_
          have h_39 : Φ15 (x + 132) = some (o_ 2 [.ref (x + 3), .ref (x + 121), .ref (x + 133), .ref (x + 134), .ref (x + 135), .ref (x + 137), .ref (x + 138), .ref (x + 139), .ref (x + 140), .int (nI n_1), .int v_1, .int v_10]) := ((fset_fr hΦ14 (ne_off (x := x) (i := 132) (j := 138) rfl)).trans h_35)
          refine z_get (ref := "FlowExporter$Collector") (C := RX0) (T := TX0) (N := 12) (ci := 2) (v := .int (nI n_1)) B hu_X0_account_X0 rfl 9 (Nat.le_of_ble_eq_true rfl) hv_X0_account_39 rfl h_39 rfl dX0_account_163 ?_
          refine z_iconst (v := 1) B dX0_account_166 rfl ?_
          refine z_iadd B dX0_account_167 ?_
          refine z_top (st1 := [.int (nI (n_1 + 1)), .ref (x + 132)]) (congrArg (fun w9 : Int32 => ([.int w9, .ref (x + 132)] : List Value)) (nI_add n_1 1)) ?_
          refine z_put (ref := "FlowExporter$Collector") (C := RX0) (T := TX0) (N := 12) (ci := 2) (v := .int (nI (n_1 + 1))) B hu_X0_account_X0 tyX0 tyX0_ok nmX0 rfl 9 (Nat.le_of_ble_eq_true rfl) hv_X0_account_39 rfl (Or.inl rfl) h_39 (Nat.le_trans hx (Nat.le_add_right x 132)) rfl rfl (Nat.le_of_ble_eq_true rfl) dX0_account_168 (fun Φ16 hΦ15 => ?_)
          have h_40 : Φ16 (x + 132) = some (o_ 2 [.ref (x + 3), .ref (x + 121), .ref (x + 133), .ref (x + 134), .ref (x + 135), .ref (x + 137), .ref (x + 138), .ref (x + 139), .ref (x + 140), .int (nI (n_1 + 1)), .int v_1, .int v_10]) := fset_at hΦ15
          have hI19 : In G x (ca + 1) Φ16 := In.put (k := 132) hI18 hΦ15 (ok25 (k := 132) rfl ⟨n_1 + 1, v_1, v_10, rfl, (show n_1 + 1 ≤ ca + 1 by omega)⟩)
          refine z_aload_n B dX0_account_171 rfl 4 rfl ?_
          refine z_iload_n B dX0_account_172 rfl 6 rfl ?_
          refine z_put (ref := "FlowExporter$Collector") (C := RX0) (T := TX0) (N := 12) (ci := 2) (v := .int b) B hu_X0_account_X0 tyX0 tyX0_ok nmX0 rfl 10 (Nat.le_of_ble_eq_true rfl) hv_X0_account_43 rfl (Or.inl rfl) h_40 (Nat.le_trans hx (Nat.le_add_right x 132)) rfl rfl (Nat.le_of_ble_eq_true rfl) dX0_account_173 (fun Φ17 hΦ16 => ?_)
          have h_41 : Φ17 (x + 132) = some (o_ 2 [.ref (x + 3), .ref (x + 121), .ref (x + 133), .ref (x + 134), .ref (x + 135), .ref (x + 137), .ref (x + 138), .ref (x + 139), .ref (x + 140), .int (nI (n_1 + 1)), .int b, .int v_10]) := fset_at hΦ16
          have hI20 : In G x (ca + 1) Φ17 := In.put (k := 132) hI19 hΦ16 (ok25 (k := 132) rfl ⟨n_1 + 1, b, v_10, rfl, (show n_1 + 1 ≤ ca + 1 by omega)⟩)
          exact z_ret_v B dX0_account_176 ⟨rfl, rfl, hI20, (fun b9 h9 => ((fset_fr hΦ16 (fun h8 => h9 (132) h8 (show 132 ≤ 132 ∧ 132 < 140 by decide))).trans ((fset_fr hΦ15 (fun h8 => h9 (132) h8 (show 132 ≤ 132 ∧ 132 < 140 by decide))).trans ((fset_fr hΦ14 (fun h8 => h9 (138) h8 (show 132 ≤ 138 ∧ 138 < 140 by decide))).trans ((fset_fr hΦ13 (fun h8 => h9 (137) h8 (show 132 ≤ 137 ∧ 137 < 140 by decide))).trans ((fset_fr hΦ12 (fun h8 => h9 (132) h8 (show 132 ≤ 132 ∧ 132 < 140 by decide))).trans ((fset_fr hΦ11 (fun h8 => h9 (139) h8 (show 132 ≤ 139 ∧ 139 < 140 by decide))).trans ((hF1 b9 (fun j9 h8 h7 => (show False from h7).elim)).trans rfl))))))))⟩
      · have e_5 : ¬ (0 ≤ n_2) := fun h9 => c_8 ((nI_leI (a := 0) (b := n_2) (by omega) (by omega)).mpr h9)
        refine z_iload B dX0_account_48 0 rfl ?_
        refine z_if_ne (tgt := 57) B dX0_account_50 rfl (fun h9 => absurd (by decide) h9) (fun c_14 => ?_)
        refine z_iconst (v := 1) B dX0_account_53 rfl ?_
        refine z_goto (tgt := 58) B dX0_account_54 rfl ?_
        refine z_istore (lv' := [(6, .int 1), (5, .int 0), (4, .int (nI n_2)), (0, .ref (x + 132)), (1, .int a), (2, .int b), (3, .int d)]) B dX0_account_58 (Nat.le_of_ble_eq_true rfl) rfl ?_
        refine z_iload B dX0_account_60 2 rfl ?_
        refine z_if_le (tgt := 77) B dX0_account_62 rfl (fun c_15 => ?_) (fun c_15 => ?_)
        · have e_6 : n_2 ≤ 0 := (nI_leI (a := n_2) (b := 0) (by omega) (by omega)).mp c_15
          refine z_iload B dX0_account_77 1 rfl ?_
          refine z_if_eq (tgt := 92) B dX0_account_79 rfl (fun c_16 => ?_) (fun h9 => absurd (by decide) h9)
          refine z_iload B dX0_account_92 0 rfl ?_
          refine z_if_eq (tgt := 129) B dX0_account_94 rfl (fun h9 => absurd h9 (by decide)) (fun c_17 => ?_)
          refine z_aload_n B dX0_account_97 rfl 3 rfl ?_
          refine z_get (ref := "FlowExporter$Collector") (C := RX0) (T := TX0) (N := 12) (ci := 2) (v := .ref (x + 139)) B hu_X0_account_X0 rfl 7 (Nat.le_of_ble_eq_true rfl) hv_X0_account_32 rfl h_15 rfl dX0_account_98 ?_
          refine z_iconst (v := 1) B dX0_account_101 rfl ?_
          refine z_dup2_11 B dX0_account_102 rfl rfl ?_
          obtain ⟨f_8, h_42⟩ := in28 (k := 139) hI1 rfl
          have h_43 : Φ1 (x + 139) = some (al_ G 9 f_8) := h_42
          refine z_lald B h_43 (vin rfl) dX0_account_103 ?_
          refine z_fl (fun v_11 => ?_)
          refine z_lconst (v := 1) B dX0_account_104 rfl ?_
          refine z_ladd B dX0_account_105 ?_
          refine z_fl (fun v_12 => ?_)
          refine z_last B h_43 (Nat.le_trans hx (Nat.le_add_right x 139)) (vin rfl) dX0_account_106 (fun Φ18 hΦ17 => ?_)
          have h_44 : Φ18 (x + 139) = some (al_ G 9 (vp_updL f_8 (1 : Int32).toNatClampNeg v_12)) := fset_at hΦ17
          have hI21 : In G x (ca) Φ18 := In.put (k := 139) hI1 hΦ17 (ok28 (k := 139) rfl ⟨_, rfl⟩)
          refine z_aload_n B dX0_account_107 rfl 3 rfl ?_
          have h_45 : Φ18 (x + 132) = some (o_ 2 [.ref (x + 3), .ref (x + 121), .ref (x + 133), .ref (x + 134), .ref (x + 135), .ref (x + 137), .ref (x + 138), .ref (x + 139), .ref (x + 140), .int (nI n_1), .int v_1, .int v_2]) := ((fset_fr hΦ17 (ne_off (x := x) (i := 132) (j := 139) rfl)).trans h_15)
          refine z_get (ref := "FlowExporter$Collector") (C := RX0) (T := TX0) (N := 12) (ci := 2) (v := .ref (x + 139)) B hu_X0_account_X0 rfl 7 (Nat.le_of_ble_eq_true rfl) hv_X0_account_32 rfl h_45 rfl dX0_account_108 ?_
          refine z_iconst (v := 0) B dX0_account_111 rfl ?_
          refine z_lconst (v := 0) B dX0_account_112 rfl ?_
          refine z_aload_n B dX0_account_113 rfl 3 rfl ?_
          refine z_get (ref := "FlowExporter$Collector") (C := RX0) (T := TX0) (N := 12) (ci := 2) (v := .ref (x + 139)) B hu_X0_account_X0 rfl 7 (Nat.le_of_ble_eq_true rfl) hv_X0_account_32 rfl h_45 rfl dX0_account_114 ?_
          refine z_iconst (v := 0) B dX0_account_117 rfl ?_
          obtain ⟨f_9, h_46⟩ := in28 (k := 139) hI21 rfl
          have h_47 : Φ18 (x + 139) = some (al_ G 9 f_9) := h_46
          refine z_lald B h_47 (vin rfl) dX0_account_118 ?_
          refine z_fl (fun v_13 => ?_)
          refine z_iload_n B dX0_account_119 rfl 6 rfl ?_
          refine z_i2l (v := d.toInt64) B dX0_account_120 rfl ?_
          refine z_fl (fun v_14 => ?_)
          refine z_lsub B dX0_account_121 ?_
          refine z_fl (fun v_15 => ?_)
          refine z_mmaxl B (by decide +kernel) (by decide +kernel) (by decide +kernel) (by decide +kernel) ⟨Nat.le_of_ble_eq_true rfl, Nat.le_of_ble_eq_true rfl⟩ ⟨Nat.le_of_ble_eq_true rfl, Nat.le_of_ble_eq_true rfl⟩ dX0_account_122 (fun v_16 => ?_)
          refine z_last B h_47 (Nat.le_trans hx (Nat.le_add_right x 139)) (vin rfl) dX0_account_125 (fun Φ19 hΦ18 => ?_)
          have h_48 : Φ19 (x + 139) = some (al_ G 9 (vp_updL f_9 (0 : Int32).toNatClampNeg v_16)) := fset_at hΦ18
          have hI22 : In G x (ca) Φ19 := In.put (k := 139) hI21 hΦ18 (ok28 (k := 139) rfl ⟨_, rfl⟩)
          refine z_goto (tgt := 136) B dX0_account_126 rfl ?_
          refine z_aload_n B dX0_account_136 rfl 3 rfl ?_
          have h_49 : Φ19 (x + 132) = some (o_ 2 [.ref (x + 3), .ref (x + 121), .ref (x + 133), .ref (x + 134), .ref (x + 135), .ref (x + 137), .ref (x + 138), .ref (x + 139), .ref (x + 140), .int (nI n_1), .int v_1, .int v_2]) := ((fset_fr hΦ18 (ne_off (x := x) (i := 132) (j := 139) rfl)).trans h_45)
          refine z_get (ref := "FlowExporter$Collector") (C := RX0) (T := TX0) (N := 12) (ci := 2) (v := .int (nI n_1)) B hu_X0_account_X0 rfl 9 (Nat.le_of_ble_eq_true rfl) hv_X0_account_39 rfl h_49 rfl dX0_account_137 ?_
          refine z_bipush (v := 8) B dX0_account_140 rfl ?_
          refine z_irem B dX0_account_142 (by decide) ?_
          refine z_top (st1 := [.int (nI (n_1 % 8))]) (congrArg (fun w9 : Int32 => ([.int w9] : List Value)) (nI_rem8 (show n_1 < 2 ^ 31 by omega))) ?_
          refine z_istore (lv' := [(7, .int (nI (n_1 % 8))), (6, .int 1), (5, .int 0), (4, .int (nI n_2)), (0, .ref (x + 132)), (1, .int a), (2, .int b), (3, .int d)]) B dX0_account_143 (Nat.le_of_ble_eq_true rfl) rfl ?_
          refine z_aload_n B dX0_account_145 rfl 4 rfl ?_
          refine z_get (ref := "FlowExporter$Collector") (C := RX0) (T := TX0) (N := 12) (ci := 2) (v := .ref (x + 137)) B hu_X0_account_X0 rfl 5 (Nat.le_of_ble_eq_true rfl) hv_X0_account_26 rfl h_49 rfl dX0_account_146 ?_
          refine z_iload B dX0_account_149 0 rfl ?_
          refine z_iload_n B dX0_account_151 rfl 5 rfl ?_
          obtain ⟨f_10, h_50⟩ := in27 (k := 137) hI22 rfl
          have h_51 : Φ19 (x + 137) = some (ai_ G 8 f_10) := h_50
          refine z_iast B h_51 (Nat.le_trans hx (Nat.le_add_right x 137)) (vp_in_nI (by omega) (by omega)) dX0_account_152 (fun Φ20 hΦ19 => ?_)
          have h_52 : Φ20 (x + 137) = some (ai_ G 8 (upd f_10 (nI (n_1 % 8)).toNatClampNeg a)) := fset_at hΦ19
          have hI23 : In G x (ca) Φ20 := In.put (k := 137) hI22 hΦ19 (ok27 (k := 137) rfl ⟨_, rfl⟩)
          refine z_aload_n B dX0_account_153 rfl 4 rfl ?_
          have h_53 : Φ20 (x + 132) = some (o_ 2 [.ref (x + 3), .ref (x + 121), .ref (x + 133), .ref (x + 134), .ref (x + 135), .ref (x + 137), .ref (x + 138), .ref (x + 139), .ref (x + 140), .int (nI n_1), .int v_1, .int v_2]) := ((fset_fr hΦ19 (ne_off (x := x) (i := 132) (j := 137) rfl)).trans h_49)
          refine z_get (ref := "FlowExporter$Collector") (C := RX0) (T := TX0) (N := 12) (ci := 2) (v := .ref (x + 138)) B hu_X0_account_X0 rfl 6 (Nat.le_of_ble_eq_true rfl) hv_X0_account_29 rfl h_53 rfl dX0_account_154 ?_
          refine z_iload B dX0_account_157 0 rfl ?_
          refine z_iload_n B dX0_account_159 rfl 6 rfl ?_
          obtain ⟨f_11, h_54⟩ := in27 (k := 138) hI23 rfl
          have h_55 : Φ20 (x + 138) = some (ai_ G 8 f_11) := h_54
          refine z_iast B h_55 (Nat.le_trans hx (Nat.le_add_right x 138)) (vp_in_nI (by omega) (by omega)) dX0_account_160 (fun Φ21 hΦ20 => ?_)
          have h_56 : Φ21 (x + 138) = some (ai_ G 8 (upd f_11 (nI (n_1 % 8)).toNatClampNeg b)) := fset_at hΦ20
          have hI24 : In G x (ca) Φ21 := In.put (k := 138) hI23 hΦ20 (ok27 (k := 138) rfl ⟨_, rfl⟩)
          have hI25 : In G x (ca + 1) Φ21 := In.mono hI24 (by omega)
          refine z_aload_n B dX0_account_161 rfl 4 rfl ?_
          refine z_dup B dX0_account_162 rfl ?_
          have h_57 : Φ21 (x + 132) = some (o_ 2 [.ref (x + 3), .ref (x + 121), .ref (x + 133), .ref (x + 134), .ref (x + 135), .ref (x + 137), .ref (x + 138), .ref (x + 139), .ref (x + 140), .int (nI n_1), .int v_1, .int v_2]) := ((fset_fr hΦ20 (ne_off (x := x) (i := 132) (j := 138) rfl)).trans h_53)
          refine z_get (ref := "FlowExporter$Collector") (C := RX0) (T := TX0) (N := 12) (ci := 2) (v := .int (nI n_1)) B hu_X0_account_X0 rfl 9 (Nat.le_of_ble_eq_true rfl) hv_X0_account_39 rfl h_57 rfl dX0_account_163 ?_
          refine z_iconst (v := 1) B dX0_account_166 rfl ?_
          refine z_iadd B dX0_account_167 ?_
          refine z_top (st1 := [.int (nI (n_1 + 1)), .ref (x + 132)]) (congrArg (fun w9 : Int32 => ([.int w9, .ref (x + 132)] : List Value)) (nI_add n_1 1)) ?_
          refine z_put (ref := "FlowExporter$Collector") (C := RX0) (T := TX0) (N := 12) (ci := 2) (v := .int (nI (n_1 + 1))) B hu_X0_account_X0 tyX0 tyX0_ok nmX0 rfl 9 (Nat.le_of_ble_eq_true rfl) hv_X0_account_39 rfl (Or.inl rfl) h_57 (Nat.le_trans hx (Nat.le_add_right x 132)) rfl rfl (Nat.le_of_ble_eq_true rfl) dX0_account_168 (fun Φ22 hΦ21 => ?_)
          have h_58 : Φ22 (x + 132) = some (o_ 2 [.ref (x + 3), .ref (x + 121), .ref (x + 133), .ref (x + 134), .ref (x + 135), .ref (x + 137), .ref (x + 138), .ref (x + 139), .ref (x + 140), .int (nI (n_1 + 1)), .int v_1, .int v_2]) := fset_at hΦ21
          have hI26 : In G x (ca + 1) Φ22 := In.put (k := 132) hI25 hΦ21 (ok25 (k := 132) rfl ⟨n_1 + 1, v_1, v_2, rfl, (show n_1 + 1 ≤ ca + 1 by omega)⟩)
          refine z_aload_n B dX0_account_171 rfl 4 rfl ?_
          refine z_iload_n B dX0_account_172 rfl 6 rfl ?_
          refine z_put (ref := "FlowExporter$Collector") (C := RX0) (T := TX0) (N := 12) (ci := 2) (v := .int b) B hu_X0_account_X0 tyX0 tyX0_ok nmX0 rfl 10 (Nat.le_of_ble_eq_true rfl) hv_X0_account_43 rfl (Or.inl rfl) h_58 (Nat.le_trans hx (Nat.le_add_right x 132)) rfl rfl (Nat.le_of_ble_eq_true rfl) dX0_account_173 (fun Φ23 hΦ22 => ?_)
          have h_59 : Φ23 (x + 132) = some (o_ 2 [.ref (x + 3), .ref (x + 121), .ref (x + 133), .ref (x + 134), .ref (x + 135), .ref (x + 137), .ref (x + 138), .ref (x + 139), .ref (x + 140), .int (nI (n_1 + 1)), .int b, .int v_2]) := fset_at hΦ22
          have hI27 : In G x (ca + 1) Φ23 := In.put (k := 132) hI26 hΦ22 (ok25 (k := 132) rfl ⟨n_1 + 1, b, v_2, rfl, (show n_1 + 1 ≤ ca + 1 by omega)⟩)
          exact z_ret_v B dX0_account_176 ⟨rfl, rfl, hI27, (fun b9 h9 => ((fset_fr hΦ22 (fun h8 => h9 (132) h8 (show 132 ≤ 132 ∧ 132 < 140 by decide))).trans ((fset_fr hΦ21 (fun h8 => h9 (132) h8 (show 132 ≤ 132 ∧ 132 < 140 by decide))).trans ((fset_fr hΦ20 (fun h8 => h9 (138) h8 (show 132 ≤ 138 ∧ 138 < 140 by decide))).trans ((fset_fr hΦ19 (fun h8 => h9 (137) h8 (show 132 ≤ 137 ∧ 137 < 140 by decide))).trans ((fset_fr hΦ18 (fun h8 => h9 (139) h8 (show 132 ≤ 139 ∧ 139 < 140 by decide))).trans ((fset_fr hΦ17 (fun h8 => h9 (139) h8 (show 132 ≤ 139 ∧ 139 < 140 by decide))).trans ((hF1 b9 (fun j9 h8 h7 => (show False from h7).elim)).trans rfl))))))))⟩
        · have e_7 : ¬ (n_2 ≤ 0) := fun h9 => c_15 ((nI_leI (a := n_2) (b := 0) (by omega) (by omega)).mpr h9)
          refine z_aload_n B dX0_account_65 rfl 3 rfl ?_
          refine z_get (ref := "FlowExporter$Collector") (C := RX0) (T := TX0) (N := 12) (ci := 2) (v := .ref (x + 139)) B hu_X0_account_X0 rfl 7 (Nat.le_of_ble_eq_true rfl) hv_X0_account_32 rfl h_15 rfl dX0_account_66 ?_
          refine z_iconst (v := 0) B dX0_account_69 rfl ?_
          refine z_dup2_11 B dX0_account_70 rfl rfl ?_
          obtain ⟨f_12, h_60⟩ := in28 (k := 139) hI1 rfl
          have h_61 : Φ1 (x + 139) = some (al_ G 9 f_12) := h_60
          refine z_lald B h_61 (vin rfl) dX0_account_71 ?_
          refine z_fl (fun v_17 => ?_)
          refine z_iload B dX0_account_72 2 rfl ?_
          refine z_i2l (v := (nI n_2).toInt64) B dX0_account_74 rfl ?_
          refine z_fl (fun v_18 => ?_)
          refine z_ladd B dX0_account_75 ?_
          refine z_fl (fun v_19 => ?_)
          refine z_last B h_61 (Nat.le_trans hx (Nat.le_add_right x 139)) (vin rfl) dX0_account_76 (fun Φ24 hΦ23 => ?_)
          have h_62 : Φ24 (x + 139) = some (al_ G 9 (vp_updL f_12 (0 : Int32).toNatClampNeg v_19)) := fset_at hΦ23
          have hI28 : In G x (ca) Φ24 := In.put (k := 139) hI1 hΦ23 (ok28 (k := 139) rfl ⟨_, rfl⟩)
          refine z_iload B dX0_account_77 1 rfl ?_
          refine z_if_eq (tgt := 92) B dX0_account_79 rfl (fun c_18 => ?_) (fun h9 => absurd (by decide) h9)
          refine z_iload B dX0_account_92 0 rfl ?_
          refine z_if_eq (tgt := 129) B dX0_account_94 rfl (fun h9 => absurd h9 (by decide)) (fun c_19 => ?_)
          refine z_aload_n B dX0_account_97 rfl 3 rfl ?_
          have h_63 : Φ24 (x + 132) = some (o_ 2 [.ref (x + 3), .ref (x + 121), .ref (x + 133), .ref (x + 134), .ref (x + 135), .ref (x + 137), .ref (x + 138), .ref (x + 139), .ref (x + 140), .int (nI n_1), .int v_1, .int v_2]) := ((fset_fr hΦ23 (ne_off (x := x) (i := 132) (j := 139) rfl)).trans h_15)
          refine z_get (ref := "FlowExporter$Collector") (C := RX0) (T := TX0) (N := 12) (ci := 2) (v := .ref (x + 139)) B hu_X0_account_X0 rfl 7 (Nat.le_of_ble_eq_true rfl) hv_X0_account_32 rfl h_63 rfl dX0_account_98 ?_
          refine z_iconst (v := 1) B dX0_account_101 rfl ?_
          refine z_dup2_11 B dX0_account_102 rfl rfl ?_
          obtain ⟨f_13, h_64⟩ := in28 (k := 139) hI28 rfl
          have h_65 : Φ24 (x + 139) = some (al_ G 9 f_13) := h_64
          refine z_lald B h_65 (vin rfl) dX0_account_103 ?_
          refine z_fl (fun v_20 => ?_)
          refine z_lconst (v := 1) B dX0_account_104 rfl ?_
          refine z_ladd B dX0_account_105 ?_
          refine z_fl (fun v_21 => ?_)
          refine z_last B h_65 (Nat.le_trans hx (Nat.le_add_right x 139)) (vin rfl) dX0_account_106 (fun Φ25 hΦ24 => ?_)
          have h_66 : Φ25 (x + 139) = some (al_ G 9 (vp_updL f_13 (1 : Int32).toNatClampNeg v_21)) := fset_at hΦ24
          have hI29 : In G x (ca) Φ25 := In.put (k := 139) hI28 hΦ24 (ok28 (k := 139) rfl ⟨_, rfl⟩)
          refine z_aload_n B dX0_account_107 rfl 3 rfl ?_
          have h_67 : Φ25 (x + 132) = some (o_ 2 [.ref (x + 3), .ref (x + 121), .ref (x + 133), .ref (x + 134), .ref (x + 135), .ref (x + 137), .ref (x + 138), .ref (x + 139), .ref (x + 140), .int (nI n_1), .int v_1, .int v_2]) := ((fset_fr hΦ24 (ne_off (x := x) (i := 132) (j := 139) rfl)).trans h_63)
          refine z_get (ref := "FlowExporter$Collector") (C := RX0) (T := TX0) (N := 12) (ci := 2) (v := .ref (x + 139)) B hu_X0_account_X0 rfl 7 (Nat.le_of_ble_eq_true rfl) hv_X0_account_32 rfl h_67 rfl dX0_account_108 ?_
          refine z_iconst (v := 0) B dX0_account_111 rfl ?_
          refine z_lconst (v := 0) B dX0_account_112 rfl ?_
          refine z_aload_n B dX0_account_113 rfl 3 rfl ?_
          refine z_get (ref := "FlowExporter$Collector") (C := RX0) (T := TX0) (N := 12) (ci := 2) (v := .ref (x + 139)) B hu_X0_account_X0 rfl 7 (Nat.le_of_ble_eq_true rfl) hv_X0_account_32 rfl h_67 rfl dX0_account_114 ?_
          refine z_iconst (v := 0) B dX0_account_117 rfl ?_
          obtain ⟨f_14, h_68⟩ := in28 (k := 139) hI29 rfl
          have h_69 : Φ25 (x + 139) = some (al_ G 9 f_14) := h_68
          refine z_lald B h_69 (vin rfl) dX0_account_118 ?_
          refine z_fl (fun v_22 => ?_)
          refine z_iload_n B dX0_account_119 rfl 6 rfl ?_
          refine z_i2l (v := d.toInt64) B dX0_account_120 rfl ?_
          refine z_fl (fun v_23 => ?_)
          refine z_lsub B dX0_account_121 ?_
          refine z_fl (fun v_24 => ?_)
          refine z_mmaxl B (by decide +kernel) (by decide +kernel) (by decide +kernel) (by decide +kernel) ⟨Nat.le_of_ble_eq_true rfl, Nat.le_of_ble_eq_true rfl⟩ ⟨Nat.le_of_ble_eq_true rfl, Nat.le_of_ble_eq_true rfl⟩ dX0_account_122 (fun v_25 => ?_)
          refine z_last B h_69 (Nat.le_trans hx (Nat.le_add_right x 139)) (vin rfl) dX0_account_125 (fun Φ26 hΦ25 => ?_)
          have h_70 : Φ26 (x + 139) = some (al_ G 9 (vp_updL f_14 (0 : Int32).toNatClampNeg v_25)) := fset_at hΦ25
          have hI30 : In G x (ca) Φ26 := In.put (k := 139) hI29 hΦ25 (ok28 (k := 139) rfl ⟨_, rfl⟩)
          refine z_goto (tgt := 136) B dX0_account_126 rfl ?_
          refine z_aload_n B dX0_account_136 rfl 3 rfl ?_
          have h_71 : Φ26 (x + 132) = some (o_ 2 [.ref (x + 3), .ref (x + 121), .ref (x + 133), .ref (x + 134), .ref (x + 135), .ref (x + 137), .ref (x + 138), .ref (x + 139), .ref (x + 140), .int (nI n_1), .int v_1, .int v_2]) := ((fset_fr hΦ25 (ne_off (x := x) (i := 132) (j := 139) rfl)).trans h_67)
          refine z_get (ref := "FlowExporter$Collector") (C := RX0) (T := TX0) (N := 12) (ci := 2) (v := .int (nI n_1)) B hu_X0_account_X0 rfl 9 (Nat.le_of_ble_eq_true rfl) hv_X0_account_39 rfl h_71 rfl dX0_account_137 ?_
          refine z_bipush (v := 8) B dX0_account_140 rfl ?_
          refine z_irem B dX0_account_142 (by decide) ?_
          refine z_top (st1 := [.int (nI (n_1 % 8))]) (congrArg (fun w9 : Int32 => ([.int w9] : List Value)) (nI_rem8 (show n_1 < 2 ^ 31 by omega))) ?_
          refine z_istore (lv' := [(7, .int (nI (n_1 % 8))), (6, .int 1), (5, .int 0), (4, .int (nI n_2)), (0, .ref (x + 132)), (1, .int a), (2, .int b), (3, .int d)]) B dX0_account_143 (Nat.le_of_ble_eq_true rfl) rfl ?_
          refine z_aload_n B dX0_account_145 rfl 4 rfl ?_
          refine z_get (ref := "FlowExporter$Collector") (C := RX0) (T := TX0) (N := 12) (ci := 2) (v := .ref (x + 137)) B hu_X0_account_X0 rfl 5 (Nat.le_of_ble_eq_true rfl) hv_X0_account_26 rfl h_71 rfl dX0_account_146 ?_
          refine z_iload B dX0_account_149 0 rfl ?_
          refine z_iload_n B dX0_account_151 rfl 5 rfl ?_
          obtain ⟨f_15, h_72⟩ := in27 (k := 137) hI30 rfl
          have h_73 : Φ26 (x + 137) = some (ai_ G 8 f_15) := h_72
          refine z_iast B h_73 (Nat.le_trans hx (Nat.le_add_right x 137)) (vp_in_nI (by omega) (by omega)) dX0_account_152 (fun Φ27 hΦ26 => ?_)
          have h_74 : Φ27 (x + 137) = some (ai_ G 8 (upd f_15 (nI (n_1 % 8)).toNatClampNeg a)) := fset_at hΦ26
          have hI31 : In G x (ca) Φ27 := In.put (k := 137) hI30 hΦ26 (ok27 (k := 137) rfl ⟨_, rfl⟩)
          refine z_aload_n B dX0_account_153 rfl 4 rfl ?_
          have h_75 : Φ27 (x + 132) = some (o_ 2 [.ref (x + 3), .ref (x + 121), .ref (x + 133), .ref (x + 134), .ref (x + 135), .ref (x + 137), .ref (x + 138), .ref (x + 139), .ref (x + 140), .int (nI n_1), .int v_1, .int v_2]) := ((fset_fr hΦ26 (ne_off (x := x) (i := 132) (j := 137) rfl)).trans h_71)
          refine z_get (ref := "FlowExporter$Collector") (C := RX0) (T := TX0) (N := 12) (ci := 2) (v := .ref (x + 138)) B hu_X0_account_X0 rfl 6 (Nat.le_of_ble_eq_true rfl) hv_X0_account_29 rfl h_75 rfl dX0_account_154 ?_
          refine z_iload B dX0_account_157 0 rfl ?_
          refine z_iload_n B dX0_account_159 rfl 6 rfl ?_
          obtain ⟨f_16, h_76⟩ := in27 (k := 138) hI31 rfl
          have h_77 : Φ27 (x + 138) = some (ai_ G 8 f_16) := h_76
          refine z_iast B h_77 (Nat.le_trans hx (Nat.le_add_right x 138)) (vp_in_nI (by omega) (by omega)) dX0_account_160 (fun Φ28 hΦ27 => ?_)
          have h_78 : Φ28 (x + 138) = some (ai_ G 8 (upd f_16 (nI (n_1 % 8)).toNatClampNeg b)) := fset_at hΦ27
          have hI32 : In G x (ca) Φ28 := In.put (k := 138) hI31 hΦ27 (ok27 (k := 138) rfl ⟨_, rfl⟩)
          have hI33 : In G x (ca + 1) Φ28 := In.mono hI32 (by omega)
          refine z_aload_n B dX0_account_161 rfl 4 rfl ?_
          refine z_dup B dX0_account_162 rfl ?_
          have h_79 : Φ28 (x + 132) = some (o_ 2 [.ref (x + 3), .ref (x + 121), .ref (x + 133), .ref (x + 134), .ref (x + 135), .ref (x + 137), .ref (x + 138), .ref (x + 139), .ref (x + 140), .int (nI n_1), .int v_1, .int v_2]) := ((fset_fr hΦ27 (ne_off (x := x) (i := 132) (j := 138) rfl)).trans h_75)
          refine z_get (ref := "FlowExporter$Collector") (C := RX0) (T := TX0) (N := 12) (ci := 2) (v := .int (nI n_1)) B hu_X0_account_X0 rfl 9 (Nat.le_of_ble_eq_true rfl) hv_X0_account_39 rfl h_79 rfl dX0_account_163 ?_
          refine z_iconst (v := 1) B dX0_account_166 rfl ?_
          refine z_iadd B dX0_account_167 ?_
          refine z_top (st1 := [.int (nI (n_1 + 1)), .ref (x + 132)]) (congrArg (fun w9 : Int32 => ([.int w9, .ref (x + 132)] : List Value)) (nI_add n_1 1)) ?_
          refine z_put (ref := "FlowExporter$Collector") (C := RX0) (T := TX0) (N := 12) (ci := 2) (v := .int (nI (n_1 + 1))) B hu_X0_account_X0 tyX0 tyX0_ok nmX0 rfl 9 (Nat.le_of_ble_eq_true rfl) hv_X0_account_39 rfl (Or.inl rfl) h_79 (Nat.le_trans hx (Nat.le_add_right x 132)) rfl rfl (Nat.le_of_ble_eq_true rfl) dX0_account_168 (fun Φ29 hΦ28 => ?_)
          have h_80 : Φ29 (x + 132) = some (o_ 2 [.ref (x + 3), .ref (x + 121), .ref (x + 133), .ref (x + 134), .ref (x + 135), .ref (x + 137), .ref (x + 138), .ref (x + 139), .ref (x + 140), .int (nI (n_1 + 1)), .int v_1, .int v_2]) := fset_at hΦ28
          have hI34 : In G x (ca + 1) Φ29 := In.put (k := 132) hI33 hΦ28 (ok25 (k := 132) rfl ⟨n_1 + 1, v_1, v_2, rfl, (show n_1 + 1 ≤ ca + 1 by omega)⟩)
          refine z_aload_n B dX0_account_171 rfl 4 rfl ?_
          refine z_iload_n B dX0_account_172 rfl 6 rfl ?_
          refine z_put (ref := "FlowExporter$Collector") (C := RX0) (T := TX0) (N := 12) (ci := 2) (v := .int b) B hu_X0_account_X0 tyX0 tyX0_ok nmX0 rfl 10 (Nat.le_of_ble_eq_true rfl) hv_X0_account_43 rfl (Or.inl rfl) h_80 (Nat.le_trans hx (Nat.le_add_right x 132)) rfl rfl (Nat.le_of_ble_eq_true rfl) dX0_account_173 (fun Φ30 hΦ29 => ?_)
          have h_81 : Φ30 (x + 132) = some (o_ 2 [.ref (x + 3), .ref (x + 121), .ref (x + 133), .ref (x + 134), .ref (x + 135), .ref (x + 137), .ref (x + 138), .ref (x + 139), .ref (x + 140), .int (nI (n_1 + 1)), .int b, .int v_2]) := fset_at hΦ29
          have hI35 : In G x (ca + 1) Φ30 := In.put (k := 132) hI34 hΦ29 (ok25 (k := 132) rfl ⟨n_1 + 1, b, v_2, rfl, (show n_1 + 1 ≤ ca + 1 by omega)⟩)
          exact z_ret_v B dX0_account_176 ⟨rfl, rfl, hI35, (fun b9 h9 => ((fset_fr hΦ29 (fun h8 => h9 (132) h8 (show 132 ≤ 132 ∧ 132 < 140 by decide))).trans ((fset_fr hΦ28 (fun h8 => h9 (132) h8 (show 132 ≤ 132 ∧ 132 < 140 by decide))).trans ((fset_fr hΦ27 (fun h8 => h9 (138) h8 (show 132 ≤ 138 ∧ 138 < 140 by decide))).trans ((fset_fr hΦ26 (fun h8 => h9 (137) h8 (show 132 ≤ 137 ∧ 137 < 140 by decide))).trans ((fset_fr hΦ25 (fun h8 => h9 (139) h8 (show 132 ≤ 139 ∧ 139 < 140 by decide))).trans ((fset_fr hΦ24 (fun h8 => h9 (139) h8 (show 132 ≤ 139 ∧ 139 < 140 by decide))).trans ((fset_fr hΦ23 (fun h8 => h9 (139) h8 (show 132 ≤ 139 ∧ 139 < 140 by decide))).trans ((hF1 b9 (fun j9 h8 h7 => (show False from h7).elim)).trans rfl)))))))))⟩
    · refine z_iload_n B dX0_account_24 rfl 2 rfl ?_
      refine z_if_ne (tgt := 40) B dX0_account_25 rfl (fun c_20 => ?_) (fun c_20 => ?_)
      · refine z_iconst (v := 0) B dX0_account_40 rfl ?_
        refine z_istore (lv' := [(5, .int 0), (4, .int v_5), (0, .ref (x + 132)), (1, .int a), (2, .int b), (3, .int d)]) B dX0_account_41 (Nat.le_of_ble_eq_true rfl) rfl ?_
        refine z_iload B dX0_account_43 1 rfl ?_
        refine z_if_ge (tgt := 57) B dX0_account_45 rfl (fun c_21 => ?_) (fun c_21 => ?_)
        · obtain ⟨n_3, e_8, rfl⟩ := nI_of (Int32.not_lt.mpr c_21)
          refine z_iconst (v := 0) B dX0_account_57 rfl ?_
          refine z_istore (lv' := [(6, .int 0), (5, .int 0), (4, .int (nI n_3)), (0, .ref (x + 132)), (1, .int a), (2, .int b), (3, .int d)]) B dX0_account_58 (Nat.le_of_ble_eq_true rfl) rfl ?_
          refine z_iload B dX0_account_60 2 rfl ?_
          refine z_if_le (tgt := 77) B dX0_account_62 rfl (fun c_22 => ?_) (fun c_22 => ?_)
          · have e_9 : n_3 ≤ 0 := (nI_leI (a := n_3) (b := 0) (by omega) (by omega)).mp c_22
            refine z_iload B dX0_account_77 1 rfl ?_
            refine z_if_eq (tgt := 92) B dX0_account_79 rfl (fun c_23 => ?_) (fun h9 => absurd (by decide) h9)
            refine z_iload B dX0_account_92 0 rfl ?_
            refine z_if_eq (tgt := 129) B dX0_account_94 rfl (fun c_24 => ?_) (fun h9 => absurd (by decide) h9)
            refine z_aload_n B dX0_account_129 rfl 3 rfl ?_
            refine z_iload_n B dX0_account_130 rfl 4 rfl ?_
            refine z_iload_n B dX0_account_131 rfl 6 rfl ?_
            refine z_iadd B dX0_account_132 ?_
            refine z_fi (fun v_26 => ?_)
            refine z_put (ref := "FlowExporter$Collector") (C := RX0) (T := TX0) (N := 12) (ci := 2) (v := .int v_26) B hu_X0_account_X0 tyX0 tyX0_ok nmX0 rfl 11 (Nat.le_of_ble_eq_true rfl) hv_X0_account_46 rfl (Or.inl rfl) h_15 (Nat.le_trans hx (Nat.le_add_right x 132)) rfl rfl (Nat.le_of_ble_eq_true rfl) dX0_account_133 (fun Φ31 hΦ30 => ?_)
            have h_82 : Φ31 (x + 132) = some (o_ 2 [.ref (x + 3), .ref (x + 121), .ref (x + 133), .ref (x + 134), .ref (x + 135), .ref (x + 137), .ref (x + 138), .ref (x + 139), .ref (x + 140), .int (nI n_1), .int v_1, .int v_26]) := fset_at hΦ30
            have hI36 : In G x (ca) Φ31 := In.put (k := 132) hI1 hΦ30 (ok25 (k := 132) rfl ⟨n_1, v_1, v_26, rfl, (show n_1 ≤ ca by omega)⟩)
            refine z_aload_n B dX0_account_136 rfl 3 rfl ?_
            refine z_get (ref := "FlowExporter$Collector") (C := RX0) (T := TX0) (N := 12) (ci := 2) (v := .int (nI n_1)) B hu_X0_account_X0 rfl 9 (Nat.le_of_ble_eq_true rfl) hv_X0_account_39 rfl h_82 rfl dX0_account_137 ?_
            refine z_bipush (v := 8) B dX0_account_140 rfl ?_
            refine z_irem B dX0_account_142 (by decide) ?_
            refine z_top (st1 := [.int (nI (n_1 % 8))]) (congrArg (fun w9 : Int32 => ([.int w9] : List Value)) (nI_rem8 (show n_1 < 2 ^ 31 by omega))) ?_
            refine z_istore (lv' := [(7, .int (nI (n_1 % 8))), (6, .int 0), (5, .int 0), (4, .int (nI n_3)), (0, .ref (x + 132)), (1, .int a), (2, .int b), (3, .int d)]) B dX0_account_143 (Nat.le_of_ble_eq_true rfl) rfl ?_
            refine z_aload_n B dX0_account_145 rfl 4 rfl ?_
            refine z_get (ref := "FlowExporter$Collector") (C := RX0) (T := TX0) (N := 12) (ci := 2) (v := .ref (x + 137)) B hu_X0_account_X0 rfl 5 (Nat.le_of_ble_eq_true rfl) hv_X0_account_26 rfl h_82 rfl dX0_account_146 ?_
            refine z_iload B dX0_account_149 0 rfl ?_
            refine z_iload_n B dX0_account_151 rfl 5 rfl ?_
            obtain ⟨f_17, h_83⟩ := in27 (k := 137) hI36 rfl
            have h_84 : Φ31 (x + 137) = some (ai_ G 8 f_17) := h_83
            refine z_iast B h_84 (Nat.le_trans hx (Nat.le_add_right x 137)) (vp_in_nI (by omega) (by omega)) dX0_account_152 (fun Φ32 hΦ31 => ?_)
            have h_85 : Φ32 (x + 137) = some (ai_ G 8 (upd f_17 (nI (n_1 % 8)).toNatClampNeg a)) := fset_at hΦ31
            have hI37 : In G x (ca) Φ32 := In.put (k := 137) hI36 hΦ31 (ok27 (k := 137) rfl ⟨_, rfl⟩)
            refine z_aload_n B dX0_account_153 rfl 4 rfl ?_
            have h_86 : Φ32 (x + 132) = some (o_ 2 [.ref (x + 3), .ref (x + 121), .ref (x + 133), .ref (x + 134), .ref (x + 135), .ref (x + 137), .ref (x + 138), .ref (x + 139), .ref (x + 140), .int (nI n_1), .int v_1, .int v_26]) := ((fset_fr hΦ31 (ne_off (x := x) (i := 132) (j := 137) rfl)).trans h_82)
            refine z_get (ref := "FlowExporter$Collector") (C := RX0) (T := TX0) (N := 12) (ci := 2) (v := .ref (x + 138)) B hu_X0_account_X0 rfl 6 (Nat.le_of_ble_eq_true rfl) hv_X0_account_29 rfl h_86 rfl dX0_account_154 ?_
            refine z_iload B dX0_account_157 0 rfl ?_
            refine z_iload_n B dX0_account_159 rfl 6 rfl ?_
            obtain ⟨f_18, h_87⟩ := in27 (k := 138) hI37 rfl
            have h_88 : Φ32 (x + 138) = some (ai_ G 8 f_18) := h_87
            refine z_iast B h_88 (Nat.le_trans hx (Nat.le_add_right x 138)) (vp_in_nI (by omega) (by omega)) dX0_account_160 (fun Φ33 hΦ32 => ?_)
            have h_89 : Φ33 (x + 138) = some (ai_ G 8 (upd f_18 (nI (n_1 % 8)).toNatClampNeg b)) := fset_at hΦ32
            have hI38 : In G x (ca) Φ33 := In.put (k := 138) hI37 hΦ32 (ok27 (k := 138) rfl ⟨_, rfl⟩)
            have hI39 : In G x (ca + 1) Φ33 := In.mono hI38 (by omega)
            refine z_aload_n B dX0_account_161 rfl 4 rfl ?_
            refine z_dup B dX0_account_162 rfl ?_
            have h_90 : Φ33 (x + 132) = some (o_ 2 [.ref (x + 3), .ref (x + 121), .ref (x + 133), .ref (x + 134), .ref (x + 135), .ref (x + 137), .ref (x + 138), .ref (x + 139), .ref (x + 140), .int (nI n_1), .int v_1, .int v_26]) := ((fset_fr hΦ32 (ne_off (x := x) (i := 132) (j := 138) rfl)).trans h_86)
            refine z_get (ref := "FlowExporter$Collector") (C := RX0) (T := TX0) (N := 12) (ci := 2) (v := .int (nI n_1)) B hu_X0_account_X0 rfl 9 (Nat.le_of_ble_eq_true rfl) hv_X0_account_39 rfl h_90 rfl dX0_account_163 ?_
            refine z_iconst (v := 1) B dX0_account_166 rfl ?_
            refine z_iadd B dX0_account_167 ?_
            refine z_top (st1 := [.int (nI (n_1 + 1)), .ref (x + 132)]) (congrArg (fun w9 : Int32 => ([.int w9, .ref (x + 132)] : List Value)) (nI_add n_1 1)) ?_
            refine z_put (ref := "FlowExporter$Collector") (C := RX0) (T := TX0) (N := 12) (ci := 2) (v := .int (nI (n_1 + 1))) B hu_X0_account_X0 tyX0 tyX0_ok nmX0 rfl 9 (Nat.le_of_ble_eq_true rfl) hv_X0_account_39 rfl (Or.inl rfl) h_90 (Nat.le_trans hx (Nat.le_add_right x 132)) rfl rfl (Nat.le_of_ble_eq_true rfl) dX0_account_168 (fun Φ34 hΦ33 => ?_)
            have h_91 : Φ34 (x + 132) = some (o_ 2 [.ref (x + 3), .ref (x + 121), .ref (x + 133), .ref (x + 134), .ref (x + 135), .ref (x + 137), .ref (x + 138), .ref (x + 139), .ref (x + 140), .int (nI (n_1 + 1)), .int v_1, .int v_26]) := fset_at hΦ33
            have hI40 : In G x (ca + 1) Φ34 := In.put (k := 132) hI39 hΦ33 (ok25 (k := 132) rfl ⟨n_1 + 1, v_1, v_26, rfl, (show n_1 + 1 ≤ ca + 1 by omega)⟩)
            refine z_aload_n B dX0_account_171 rfl 4 rfl ?_
            refine z_iload_n B dX0_account_172 rfl 6 rfl ?_
            refine z_put (ref := "FlowExporter$Collector") (C := RX0) (T := TX0) (N := 12) (ci := 2) (v := .int b) B hu_X0_account_X0 tyX0 tyX0_ok nmX0 rfl 10 (Nat.le_of_ble_eq_true rfl) hv_X0_account_43 rfl (Or.inl rfl) h_91 (Nat.le_trans hx (Nat.le_add_right x 132)) rfl rfl (Nat.le_of_ble_eq_true rfl) dX0_account_173 (fun Φ35 hΦ34 => ?_)
            have h_92 : Φ35 (x + 132) = some (o_ 2 [.ref (x + 3), .ref (x + 121), .ref (x + 133), .ref (x + 134), .ref (x + 135), .ref (x + 137), .ref (x + 138), .ref (x + 139), .ref (x + 140), .int (nI (n_1 + 1)), .int b, .int v_26]) := fset_at hΦ34
            have hI41 : In G x (ca + 1) Φ35 := In.put (k := 132) hI40 hΦ34 (ok25 (k := 132) rfl ⟨n_1 + 1, b, v_26, rfl, (show n_1 + 1 ≤ ca + 1 by omega)⟩)
            exact z_ret_v B dX0_account_176 ⟨rfl, rfl, hI41, (fun b9 h9 => ((fset_fr hΦ34 (fun h8 => h9 (132) h8 (show 132 ≤ 132 ∧ 132 < 140 by decide))).trans ((fset_fr hΦ33 (fun h8 => h9 (132) h8 (show 132 ≤ 132 ∧ 132 < 140 by decide))).trans ((fset_fr hΦ32 (fun h8 => h9 (138) h8 (show 132 ≤ 138 ∧ 138 < 140 by decide))).trans ((fset_fr hΦ31 (fun h8 => h9 (137) h8 (show 132 ≤ 137 ∧ 137 < 140 by decide))).trans ((fset_fr hΦ30 (fun h8 => h9 (132) h8 (show 132 ≤ 132 ∧ 132 < 140 by decide))).trans ((hF1 b9 (fun j9 h8 h7 => (show False from h7).elim)).trans rfl)))))))⟩
          · have e_10 : ¬ (n_3 ≤ 0) := fun h9 => c_22 ((nI_leI (a := n_3) (b := 0) (by omega) (by omega)).mpr h9)
            refine z_aload_n B dX0_account_65 rfl 3 rfl ?_
            refine z_get (ref := "FlowExporter$Collector") (C := RX0) (T := TX0) (N := 12) (ci := 2) (v := .ref (x + 139)) B hu_X0_account_X0 rfl 7 (Nat.le_of_ble_eq_true rfl) hv_X0_account_32 rfl h_15 rfl dX0_account_66 ?_
            refine z_iconst (v := 0) B dX0_account_69 rfl ?_
            refine z_dup2_11 B dX0_account_70 rfl rfl ?_
            obtain ⟨f_19, h_93⟩ := in28 (k := 139) hI1 rfl
            have h_94 : Φ1 (x + 139) = some (al_ G 9 f_19) := h_93
            refine z_lald B h_94 (vin rfl) dX0_account_71 ?_
            refine z_fl (fun v_27 => ?_)
            refine z_iload B dX0_account_72 2 rfl ?_
            refine z_i2l (v := (nI n_3).toInt64) B dX0_account_74 rfl ?_
            refine z_fl (fun v_28 => ?_)
            refine z_ladd B dX0_account_75 ?_
            refine z_fl (fun v_29 => ?_)
            refine z_last B h_94 (Nat.le_trans hx (Nat.le_add_right x 139)) (vin rfl) dX0_account_76 (fun Φ36 hΦ35 => ?_)
            have h_95 : Φ36 (x + 139) = some (al_ G 9 (vp_updL f_19 (0 : Int32).toNatClampNeg v_29)) := fset_at hΦ35
            have hI42 : In G x (ca) Φ36 := In.put (k := 139) hI1 hΦ35 (ok28 (k := 139) rfl ⟨_, rfl⟩)
            refine z_iload B dX0_account_77 1 rfl ?_
            refine z_if_eq (tgt := 92) B dX0_account_79 rfl (fun c_25 => ?_) (fun h9 => absurd (by decide) h9)
            refine z_iload B dX0_account_92 0 rfl ?_
            refine z_if_eq (tgt := 129) B dX0_account_94 rfl (fun c_26 => ?_) (fun h9 => absurd (by decide) h9)
            refine z_aload_n B dX0_account_129 rfl 3 rfl ?_
            refine z_iload_n B dX0_account_130 rfl 4 rfl ?_
            refine z_iload_n B dX0_account_131 rfl 6 rfl ?_
            refine z_iadd B dX0_account_132 ?_
            refine z_fi (fun v_30 => ?_)
            have h_96 : Φ36 (x + 132) = some (o_ 2 [.ref (x + 3), .ref (x + 121), .ref (x + 133), .ref (x + 134), .ref (x + 135), .ref (x + 137), .ref (x + 138), .ref (x + 139), .ref (x + 140), .int (nI n_1), .int v_1, .int v_2]) := ((fset_fr hΦ35 (ne_off (x := x) (i := 132) (j := 139) rfl)).trans h_15)
            refine z_put (ref := "FlowExporter$Collector") (C := RX0) (T := TX0) (N := 12) (ci := 2) (v := .int v_30) B hu_X0_account_X0 tyX0 tyX0_ok nmX0 rfl 11 (Nat.le_of_ble_eq_true rfl) hv_X0_account_46 rfl (Or.inl rfl) h_96 (Nat.le_trans hx (Nat.le_add_right x 132)) rfl rfl (Nat.le_of_ble_eq_true rfl) dX0_account_133 (fun Φ37 hΦ36 => ?_)
            have h_97 : Φ37 (x + 132) = some (o_ 2 [.ref (x + 3), .ref (x + 121), .ref (x + 133), .ref (x + 134), .ref (x + 135), .ref (x + 137), .ref (x + 138), .ref (x + 139), .ref (x + 140), .int (nI n_1), .int v_1, .int v_30]) := fset_at hΦ36
            have hI43 : In G x (ca) Φ37 := In.put (k := 132) hI42 hΦ36 (ok25 (k := 132) rfl ⟨n_1, v_1, v_30, rfl, (show n_1 ≤ ca by omega)⟩)
            refine z_aload_n B dX0_account_136 rfl 3 rfl ?_
            refine z_get (ref := "FlowExporter$Collector") (C := RX0) (T := TX0) (N := 12) (ci := 2) (v := .int (nI n_1)) B hu_X0_account_X0 rfl 9 (Nat.le_of_ble_eq_true rfl) hv_X0_account_39 rfl h_97 rfl dX0_account_137 ?_
            refine z_bipush (v := 8) B dX0_account_140 rfl ?_
            refine z_irem B dX0_account_142 (by decide) ?_
            refine z_top (st1 := [.int (nI (n_1 % 8))]) (congrArg (fun w9 : Int32 => ([.int w9] : List Value)) (nI_rem8 (show n_1 < 2 ^ 31 by omega))) ?_
            refine z_istore (lv' := [(7, .int (nI (n_1 % 8))), (6, .int 0), (5, .int 0), (4, .int (nI n_3)), (0, .ref (x + 132)), (1, .int a), (2, .int b), (3, .int d)]) B dX0_account_143 (Nat.le_of_ble_eq_true rfl) rfl ?_
            refine z_aload_n B dX0_account_145 rfl 4 rfl ?_
            refine z_get (ref := "FlowExporter$Collector") (C := RX0) (T := TX0) (N := 12) (ci := 2) (v := .ref (x + 137)) B hu_X0_account_X0 rfl 5 (Nat.le_of_ble_eq_true rfl) hv_X0_account_26 rfl h_97 rfl dX0_account_146 ?_
            refine z_iload B dX0_account_149 0 rfl ?_
            refine z_iload_n B dX0_account_151 rfl 5 rfl ?_
            obtain ⟨f_20, h_98⟩ := in27 (k := 137) hI43 rfl
            have h_99 : Φ37 (x + 137) = some (ai_ G 8 f_20) := h_98
            refine z_iast B h_99 (Nat.le_trans hx (Nat.le_add_right x 137)) (vp_in_nI (by omega) (by omega)) dX0_account_152 (fun Φ38 hΦ37 => ?_)
            have h_100 : Φ38 (x + 137) = some (ai_ G 8 (upd f_20 (nI (n_1 % 8)).toNatClampNeg a)) := fset_at hΦ37
            have hI44 : In G x (ca) Φ38 := In.put (k := 137) hI43 hΦ37 (ok27 (k := 137) rfl ⟨_, rfl⟩)
            refine z_aload_n B dX0_account_153 rfl 4 rfl ?_
            have h_101 : Φ38 (x + 132) = some (o_ 2 [.ref (x + 3), .ref (x + 121), .ref (x + 133), .ref (x + 134), .ref (x + 135), .ref (x + 137), .ref (x + 138), .ref (x + 139), .ref (x + 140), .int (nI n_1), .int v_1, .int v_30]) := ((fset_fr hΦ37 (ne_off (x := x) (i := 132) (j := 137) rfl)).trans h_97)
            refine z_get (ref := "FlowExporter$Collector") (C := RX0) (T := TX0) (N := 12) (ci := 2) (v := .ref (x + 138)) B hu_X0_account_X0 rfl 6 (Nat.le_of_ble_eq_true rfl) hv_X0_account_29 rfl h_101 rfl dX0_account_154 ?_
            refine z_iload B dX0_account_157 0 rfl ?_
            refine z_iload_n B dX0_account_159 rfl 6 rfl ?_
            obtain ⟨f_21, h_102⟩ := in27 (k := 138) hI44 rfl
            have h_103 : Φ38 (x + 138) = some (ai_ G 8 f_21) := h_102
            refine z_iast B h_103 (Nat.le_trans hx (Nat.le_add_right x 138)) (vp_in_nI (by omega) (by omega)) dX0_account_160 (fun Φ39 hΦ38 => ?_)
            have h_104 : Φ39 (x + 138) = some (ai_ G 8 (upd f_21 (nI (n_1 % 8)).toNatClampNeg b)) := fset_at hΦ38
            have hI45 : In G x (ca) Φ39 := In.put (k := 138) hI44 hΦ38 (ok27 (k := 138) rfl ⟨_, rfl⟩)
            have hI46 : In G x (ca + 1) Φ39 := In.mono hI45 (by omega)
            refine z_aload_n B dX0_account_161 rfl 4 rfl ?_
            refine z_dup B dX0_account_162 rfl ?_
            have h_105 : Φ39 (x + 132) = some (o_ 2 [.ref (x + 3), .ref (x + 121), .ref (x + 133), .ref (x + 134), .ref (x + 135), .ref (x + 137), .ref (x + 138), .ref (x + 139), .ref (x + 140), .int (nI n_1), .int v_1, .int v_30]) := ((fset_fr hΦ38 (ne_off (x := x) (i := 132) (j := 138) rfl)).trans h_101)
            refine z_get (ref := "FlowExporter$Collector") (C := RX0) (T := TX0) (N := 12) (ci := 2) (v := .int (nI n_1)) B hu_X0_account_X0 rfl 9 (Nat.le_of_ble_eq_true rfl) hv_X0_account_39 rfl h_105 rfl dX0_account_163 ?_
            refine z_iconst (v := 1) B dX0_account_166 rfl ?_
            refine z_iadd B dX0_account_167 ?_
            refine z_top (st1 := [.int (nI (n_1 + 1)), .ref (x + 132)]) (congrArg (fun w9 : Int32 => ([.int w9, .ref (x + 132)] : List Value)) (nI_add n_1 1)) ?_
            refine z_put (ref := "FlowExporter$Collector") (C := RX0) (T := TX0) (N := 12) (ci := 2) (v := .int (nI (n_1 + 1))) B hu_X0_account_X0 tyX0 tyX0_ok nmX0 rfl 9 (Nat.le_of_ble_eq_true rfl) hv_X0_account_39 rfl (Or.inl rfl) h_105 (Nat.le_trans hx (Nat.le_add_right x 132)) rfl rfl (Nat.le_of_ble_eq_true rfl) dX0_account_168 (fun Φ40 hΦ39 => ?_)
            have h_106 : Φ40 (x + 132) = some (o_ 2 [.ref (x + 3), .ref (x + 121), .ref (x + 133), .ref (x + 134), .ref (x + 135), .ref (x + 137), .ref (x + 138), .ref (x + 139), .ref (x + 140), .int (nI (n_1 + 1)), .int v_1, .int v_30]) := fset_at hΦ39
            have hI47 : In G x (ca + 1) Φ40 := In.put (k := 132) hI46 hΦ39 (ok25 (k := 132) rfl ⟨n_1 + 1, v_1, v_30, rfl, (show n_1 + 1 ≤ ca + 1 by omega)⟩)
            refine z_aload_n B dX0_account_171 rfl 4 rfl ?_
            refine z_iload_n B dX0_account_172 rfl 6 rfl ?_
            refine z_put (ref := "FlowExporter$Collector") (C := RX0) (T := TX0) (N := 12) (ci := 2) (v := .int b) B hu_X0_account_X0 tyX0 tyX0_ok nmX0 rfl 10 (Nat.le_of_ble_eq_true rfl) hv_X0_account_43 rfl (Or.inl rfl) h_106 (Nat.le_trans hx (Nat.le_add_right x 132)) rfl rfl (Nat.le_of_ble_eq_true rfl) dX0_account_173 (fun Φ41 hΦ40 => ?_)
            have h_107 : Φ41 (x + 132) = some (o_ 2 [.ref (x + 3), .ref (x + 121), .ref (x + 133), .ref (x + 134), .ref (x + 135), .ref (x + 137), .ref (x + 138), .ref (x + 139), .ref (x + 140), .int (nI (n_1 + 1)), .int b, .int v_30]) := fset_at hΦ40
            have hI48 : In G x (ca + 1) Φ41 := In.put (k := 132) hI47 hΦ40 (ok25 (k := 132) rfl ⟨n_1 + 1, b, v_30, rfl, (show n_1 + 1 ≤ ca + 1 by omega)⟩)
            exact z_ret_v B dX0_account_176 ⟨rfl, rfl, hI48, (fun b9 h9 => ((fset_fr hΦ40 (fun h8 => h9 (132) h8 (show 132 ≤ 132 ∧ 132 < 140 by decide))).trans ((fset_fr hΦ39 (fun h8 => h9 (132) h8 (show 132 ≤ 132 ∧ 132 < 140 by decide))).trans ((fset_fr hΦ38 (fun h8 => h9 (138) h8 (show 132 ≤ 138 ∧ 138 < 140 by decide))).trans ((fset_fr hΦ37 (fun h8 => h9 (137) h8 (show 132 ≤ 137 ∧ 137 < 140 by decide))).trans ((fset_fr hΦ36 (fun h8 => h9 (132) h8 (show 132 ≤ 132 ∧ 132 < 140 by decide))).trans ((fset_fr hΦ35 (fun h8 => h9 (139) h8 (show 132 ≤ 139 ∧ 139 < 140 by decide))).trans ((hF1 b9 (fun j9 h8 h7 => (show False from h7).elim)).trans rfl))))))))⟩
        · refine z_iload B dX0_account_48 0 rfl ?_
          refine z_if_ne (tgt := 57) B dX0_account_50 rfl (fun h9 => absurd (by decide) h9) (fun c_27 => ?_)
          refine z_iconst (v := 1) B dX0_account_53 rfl ?_
          refine z_goto (tgt := 58) B dX0_account_54 rfl ?_
          refine z_istore (lv' := [(6, .int 1), (5, .int 0), (4, .int v_5), (0, .ref (x + 132)), (1, .int a), (2, .int b), (3, .int d)]) B dX0_account_58 (Nat.le_of_ble_eq_true rfl) rfl ?_
          refine z_iload B dX0_account_60 2 rfl ?_
          refine z_if_le (tgt := 77) B dX0_account_62 rfl (fun c_28 => ?_) (fun c_28 => ?_)
          · refine z_iload B dX0_account_77 1 rfl ?_
            refine z_if_eq (tgt := 92) B dX0_account_79 rfl (fun c_29 => ?_) (fun h9 => absurd (by decide) h9)
            refine z_iload B dX0_account_92 0 rfl ?_
            refine z_if_eq (tgt := 129) B dX0_account_94 rfl (fun h9 => absurd h9 (by decide)) (fun c_30 => ?_)
            refine z_aload_n B dX0_account_97 rfl 3 rfl ?_
            refine z_get (ref := "FlowExporter$Collector") (C := RX0) (T := TX0) (N := 12) (ci := 2) (v := .ref (x + 139)) B hu_X0_account_X0 rfl 7 (Nat.le_of_ble_eq_true rfl) hv_X0_account_32 rfl h_15 rfl dX0_account_98 ?_
            refine z_iconst (v := 1) B dX0_account_101 rfl ?_
            refine z_dup2_11 B dX0_account_102 rfl rfl ?_
            obtain ⟨f_22, h_108⟩ := in28 (k := 139) hI1 rfl
            have h_109 : Φ1 (x + 139) = some (al_ G 9 f_22) := h_108
            refine z_lald B h_109 (vin rfl) dX0_account_103 ?_
            refine z_fl (fun v_31 => ?_)
            refine z_lconst (v := 1) B dX0_account_104 rfl ?_
            refine z_ladd B dX0_account_105 ?_
            refine z_fl (fun v_32 => ?_)
            refine z_last B h_109 (Nat.le_trans hx (Nat.le_add_right x 139)) (vin rfl) dX0_account_106 (fun Φ42 hΦ41 => ?_)
            have h_110 : Φ42 (x + 139) = some (al_ G 9 (vp_updL f_22 (1 : Int32).toNatClampNeg v_32)) := fset_at hΦ41
            have hI49 : In G x (ca) Φ42 := In.put (k := 139) hI1 hΦ41 (ok28 (k := 139) rfl ⟨_, rfl⟩)
            refine z_aload_n B dX0_account_107 rfl 3 rfl ?_
            have h_111 : Φ42 (x + 132) = some (o_ 2 [.ref (x + 3), .ref (x + 121), .ref (x + 133), .ref (x + 134), .ref (x + 135), .ref (x + 137), .ref (x + 138), .ref (x + 139), .ref (x + 140), .int (nI n_1), .int v_1, .int v_2]) := ((fset_fr hΦ41 (ne_off (x := x) (i := 132) (j := 139) rfl)).trans h_15)
            refine z_get (ref := "FlowExporter$Collector") (C := RX0) (T := TX0) (N := 12) (ci := 2) (v := .ref (x + 139)) B hu_X0_account_X0 rfl 7 (Nat.le_of_ble_eq_true rfl) hv_X0_account_32 rfl h_111 rfl dX0_account_108 ?_
            refine z_iconst (v := 0) B dX0_account_111 rfl ?_
            refine z_lconst (v := 0) B dX0_account_112 rfl ?_
            refine z_aload_n B dX0_account_113 rfl 3 rfl ?_
            refine z_get (ref := "FlowExporter$Collector") (C := RX0) (T := TX0) (N := 12) (ci := 2) (v := .ref (x + 139)) B hu_X0_account_X0 rfl 7 (Nat.le_of_ble_eq_true rfl) hv_X0_account_32 rfl h_111 rfl dX0_account_114 ?_
            refine z_iconst (v := 0) B dX0_account_117 rfl ?_
            obtain ⟨f_23, h_112⟩ := in28 (k := 139) hI49 rfl
            have h_113 : Φ42 (x + 139) = some (al_ G 9 f_23) := h_112
            refine z_lald B h_113 (vin rfl) dX0_account_118 ?_
            refine z_fl (fun v_33 => ?_)
            refine z_iload_n B dX0_account_119 rfl 6 rfl ?_
            refine z_i2l (v := d.toInt64) B dX0_account_120 rfl ?_
            refine z_fl (fun v_34 => ?_)
            refine z_lsub B dX0_account_121 ?_
            refine z_fl (fun v_35 => ?_)
            refine z_mmaxl B (by decide +kernel) (by decide +kernel) (by decide +kernel) (by decide +kernel) ⟨Nat.le_of_ble_eq_true rfl, Nat.le_of_ble_eq_true rfl⟩ ⟨Nat.le_of_ble_eq_true rfl, Nat.le_of_ble_eq_true rfl⟩ dX0_account_122 (fun v_36 => ?_)
            refine z_last B h_113 (Nat.le_trans hx (Nat.le_add_right x 139)) (vin rfl) dX0_account_125 (fun Φ43 hΦ42 => ?_)
            have h_114 : Φ43 (x + 139) = some (al_ G 9 (vp_updL f_23 (0 : Int32).toNatClampNeg v_36)) := fset_at hΦ42
            have hI50 : In G x (ca) Φ43 := In.put (k := 139) hI49 hΦ42 (ok28 (k := 139) rfl ⟨_, rfl⟩)
            refine z_goto (tgt := 136) B dX0_account_126 rfl ?_
            refine z_aload_n B dX0_account_136 rfl 3 rfl ?_
            have h_115 : Φ43 (x + 132) = some (o_ 2 [.ref (x + 3), .ref (x + 121), .ref (x + 133), .ref (x + 134), .ref (x + 135), .ref (x + 137), .ref (x + 138), .ref (x + 139), .ref (x + 140), .int (nI n_1), .int v_1, .int v_2]) := ((fset_fr hΦ42 (ne_off (x := x) (i := 132) (j := 139) rfl)).trans h_111)
            refine z_get (ref := "FlowExporter$Collector") (C := RX0) (T := TX0) (N := 12) (ci := 2) (v := .int (nI n_1)) B hu_X0_account_X0 rfl 9 (Nat.le_of_ble_eq_true rfl) hv_X0_account_39 rfl h_115 rfl dX0_account_137 ?_
            refine z_bipush (v := 8) B dX0_account_140 rfl ?_
            refine z_irem B dX0_account_142 (by decide) ?_
            refine z_top (st1 := [.int (nI (n_1 % 8))]) (congrArg (fun w9 : Int32 => ([.int w9] : List Value)) (nI_rem8 (show n_1 < 2 ^ 31 by omega))) ?_
            refine z_istore (lv' := [(7, .int (nI (n_1 % 8))), (6, .int 1), (5, .int 0), (4, .int v_5), (0, .ref (x + 132)), (1, .int a), (2, .int b), (3, .int d)]) B dX0_account_143 (Nat.le_of_ble_eq_true rfl) rfl ?_
            refine z_aload_n B dX0_account_145 rfl 4 rfl ?_
            refine z_get (ref := "FlowExporter$Collector") (C := RX0) (T := TX0) (N := 12) (ci := 2) (v := .ref (x + 137)) B hu_X0_account_X0 rfl 5 (Nat.le_of_ble_eq_true rfl) hv_X0_account_26 rfl h_115 rfl dX0_account_146 ?_
            refine z_iload B dX0_account_149 0 rfl ?_
            refine z_iload_n B dX0_account_151 rfl 5 rfl ?_
            obtain ⟨f_24, h_116⟩ := in27 (k := 137) hI50 rfl
            have h_117 : Φ43 (x + 137) = some (ai_ G 8 f_24) := h_116
            refine z_iast B h_117 (Nat.le_trans hx (Nat.le_add_right x 137)) (vp_in_nI (by omega) (by omega)) dX0_account_152 (fun Φ44 hΦ43 => ?_)
            have h_118 : Φ44 (x + 137) = some (ai_ G 8 (upd f_24 (nI (n_1 % 8)).toNatClampNeg a)) := fset_at hΦ43
            have hI51 : In G x (ca) Φ44 := In.put (k := 137) hI50 hΦ43 (ok27 (k := 137) rfl ⟨_, rfl⟩)
            refine z_aload_n B dX0_account_153 rfl 4 rfl ?_
            have h_119 : Φ44 (x + 132) = some (o_ 2 [.ref (x + 3), .ref (x + 121), .ref (x + 133), .ref (x + 134), .ref (x + 135), .ref (x + 137), .ref (x + 138), .ref (x + 139), .ref (x + 140), .int (nI n_1), .int v_1, .int v_2]) := ((fset_fr hΦ43 (ne_off (x := x) (i := 132) (j := 137) rfl)).trans h_115)
            refine z_get (ref := "FlowExporter$Collector") (C := RX0) (T := TX0) (N := 12) (ci := 2) (v := .ref (x + 138)) B hu_X0_account_X0 rfl 6 (Nat.le_of_ble_eq_true rfl) hv_X0_account_29 rfl h_119 rfl dX0_account_154 ?_
            refine z_iload B dX0_account_157 0 rfl ?_
            refine z_iload_n B dX0_account_159 rfl 6 rfl ?_
            obtain ⟨f_25, h_120⟩ := in27 (k := 138) hI51 rfl
            have h_121 : Φ44 (x + 138) = some (ai_ G 8 f_25) := h_120
            refine z_iast B h_121 (Nat.le_trans hx (Nat.le_add_right x 138)) (vp_in_nI (by omega) (by omega)) dX0_account_160 (fun Φ45 hΦ44 => ?_)
            have h_122 : Φ45 (x + 138) = some (ai_ G 8 (upd f_25 (nI (n_1 % 8)).toNatClampNeg b)) := fset_at hΦ44
            have hI52 : In G x (ca) Φ45 := In.put (k := 138) hI51 hΦ44 (ok27 (k := 138) rfl ⟨_, rfl⟩)
            have hI53 : In G x (ca + 1) Φ45 := In.mono hI52 (by omega)
            refine z_aload_n B dX0_account_161 rfl 4 rfl ?_
            refine z_dup B dX0_account_162 rfl ?_
            have h_123 : Φ45 (x + 132) = some (o_ 2 [.ref (x + 3), .ref (x + 121), .ref (x + 133), .ref (x + 134), .ref (x + 135), .ref (x + 137), .ref (x + 138), .ref (x + 139), .ref (x + 140), .int (nI n_1), .int v_1, .int v_2]) := ((fset_fr hΦ44 (ne_off (x := x) (i := 132) (j := 138) rfl)).trans h_119)
            refine z_get (ref := "FlowExporter$Collector") (C := RX0) (T := TX0) (N := 12) (ci := 2) (v := .int (nI n_1)) B hu_X0_account_X0 rfl 9 (Nat.le_of_ble_eq_true rfl) hv_X0_account_39 rfl h_123 rfl dX0_account_163 ?_
            refine z_iconst (v := 1) B dX0_account_166 rfl ?_
            refine z_iadd B dX0_account_167 ?_
            refine z_top (st1 := [.int (nI (n_1 + 1)), .ref (x + 132)]) (congrArg (fun w9 : Int32 => ([.int w9, .ref (x + 132)] : List Value)) (nI_add n_1 1)) ?_
            refine z_put (ref := "FlowExporter$Collector") (C := RX0) (T := TX0) (N := 12) (ci := 2) (v := .int (nI (n_1 + 1))) B hu_X0_account_X0 tyX0 tyX0_ok nmX0 rfl 9 (Nat.le_of_ble_eq_true rfl) hv_X0_account_39 rfl (Or.inl rfl) h_123 (Nat.le_trans hx (Nat.le_add_right x 132)) rfl rfl (Nat.le_of_ble_eq_true rfl) dX0_account_168 (fun Φ46 hΦ45 => ?_)
            have h_124 : Φ46 (x + 132) = some (o_ 2 [.ref (x + 3), .ref (x + 121), .ref (x + 133), .ref (x + 134), .ref (x + 135), .ref (x + 137), .ref (x + 138), .ref (x + 139), .ref (x + 140), .int (nI (n_1 + 1)), .int v_1, .int v_2]) := fset_at hΦ45
            have hI54 : In G x (ca + 1) Φ46 := In.put (k := 132) hI53 hΦ45 (ok25 (k := 132) rfl ⟨n_1 + 1, v_1, v_2, rfl, (show n_1 + 1 ≤ ca + 1 by omega)⟩)
            refine z_aload_n B dX0_account_171 rfl 4 rfl ?_
            refine z_iload_n B dX0_account_172 rfl 6 rfl ?_
            refine z_put (ref := "FlowExporter$Collector") (C := RX0) (T := TX0) (N := 12) (ci := 2) (v := .int b) B hu_X0_account_X0 tyX0 tyX0_ok nmX0 rfl 10 (Nat.le_of_ble_eq_true rfl) hv_X0_account_43 rfl (Or.inl rfl) h_124 (Nat.le_trans hx (Nat.le_add_right x 132)) rfl rfl (Nat.le_of_ble_eq_true rfl) dX0_account_173 (fun Φ47 hΦ46 => ?_)
            have h_125 : Φ47 (x + 132) = some (o_ 2 [.ref (x + 3), .ref (x + 121), .ref (x + 133), .ref (x + 134), .ref (x + 135), .ref (x + 137), .ref (x + 138), .ref (x + 139), .ref (x + 140), .int (nI (n_1 + 1)), .int b, .int v_2]) := fset_at hΦ46
            have hI55 : In G x (ca + 1) Φ47 := In.put (k := 132) hI54 hΦ46 (ok25 (k := 132) rfl ⟨n_1 + 1, b, v_2, rfl, (show n_1 + 1 ≤ ca + 1 by omega)⟩)
            exact z_ret_v B dX0_account_176 ⟨rfl, rfl, hI55, (fun b9 h9 => ((fset_fr hΦ46 (fun h8 => h9 (132) h8 (show 132 ≤ 132 ∧ 132 < 140 by decide))).trans ((fset_fr hΦ45 (fun h8 => h9 (132) h8 (show 132 ≤ 132 ∧ 132 < 140 by decide))).trans ((fset_fr hΦ44 (fun h8 => h9 (138) h8 (show 132 ≤ 138 ∧ 138 < 140 by decide))).trans ((fset_fr hΦ43 (fun h8 => h9 (137) h8 (show 132 ≤ 137 ∧ 137 < 140 by decide))).trans ((fset_fr hΦ42 (fun h8 => h9 (139) h8 (show 132 ≤ 139 ∧ 139 < 140 by decide))).trans ((fset_fr hΦ41 (fun h8 => h9 (139) h8 (show 132 ≤ 139 ∧ 139 < 140 by decide))).trans ((hF1 b9 (fun j9 h8 h7 => (show False from h7).elim)).trans rfl))))))))⟩
          · obtain ⟨n_4, e_12, e_11, rfl⟩ := nI_ofp c_28
            refine z_aload_n B dX0_account_65 rfl 3 rfl ?_
            refine z_get (ref := "FlowExporter$Collector") (C := RX0) (T := TX0) (N := 12) (ci := 2) (v := .ref (x + 139)) B hu_X0_account_X0 rfl 7 (Nat.le_of_ble_eq_true rfl) hv_X0_account_32 rfl h_15 rfl dX0_account_66 ?_
            refine z_iconst (v := 0) B dX0_account_69 rfl ?_
            refine z_dup2_11 B dX0_account_70 rfl rfl ?_
            obtain ⟨f_26, h_126⟩ := in28 (k := 139) hI1 rfl
            have h_127 : Φ1 (x + 139) = some (al_ G 9 f_26) := h_126
            refine z_lald B h_127 (vin rfl) dX0_account_71 ?_
            refine z_fl (fun v_37 => ?_)
            refine z_iload B dX0_account_72 2 rfl ?_
            refine z_i2l (v := (nI n_4).toInt64) B dX0_account_74 rfl ?_
            refine z_fl (fun v_38 => ?_)
            refine z_ladd B dX0_account_75 ?_
            refine z_fl (fun v_39 => ?_)
            refine z_last B h_127 (Nat.le_trans hx (Nat.le_add_right x 139)) (vin rfl) dX0_account_76 (fun Φ48 hΦ47 => ?_)
            have h_128 : Φ48 (x + 139) = some (al_ G 9 (vp_updL f_26 (0 : Int32).toNatClampNeg v_39)) := fset_at hΦ47
            have hI56 : In G x (ca) Φ48 := In.put (k := 139) hI1 hΦ47 (ok28 (k := 139) rfl ⟨_, rfl⟩)
            refine z_iload B dX0_account_77 1 rfl ?_
            refine z_if_eq (tgt := 92) B dX0_account_79 rfl (fun c_31 => ?_) (fun h9 => absurd (by decide) h9)
            refine z_iload B dX0_account_92 0 rfl ?_
            refine z_if_eq (tgt := 129) B dX0_account_94 rfl (fun h9 => absurd h9 (by decide)) (fun c_32 => ?_)
            refine z_aload_n B dX0_account_97 rfl 3 rfl ?_
            have h_129 : Φ48 (x + 132) = some (o_ 2 [.ref (x + 3), .ref (x + 121), .ref (x + 133), .ref (x + 134), .ref (x + 135), .ref (x + 137), .ref (x + 138), .ref (x + 139), .ref (x + 140), .int (nI n_1), .int v_1, .int v_2]) := ((fset_fr hΦ47 (ne_off (x := x) (i := 132) (j := 139) rfl)).trans h_15)
            refine z_get (ref := "FlowExporter$Collector") (C := RX0) (T := TX0) (N := 12) (ci := 2) (v := .ref (x + 139)) B hu_X0_account_X0 rfl 7 (Nat.le_of_ble_eq_true rfl) hv_X0_account_32 rfl h_129 rfl dX0_account_98 ?_
            refine z_iconst (v := 1) B dX0_account_101 rfl ?_
            refine z_dup2_11 B dX0_account_102 rfl rfl ?_
            obtain ⟨f_27, h_130⟩ := in28 (k := 139) hI56 rfl
            have h_131 : Φ48 (x + 139) = some (al_ G 9 f_27) := h_130
            refine z_lald B h_131 (vin rfl) dX0_account_103 ?_
            refine z_fl (fun v_40 => ?_)
            refine z_lconst (v := 1) B dX0_account_104 rfl ?_
            refine z_ladd B dX0_account_105 ?_
            refine z_fl (fun v_41 => ?_)
            refine z_last B h_131 (Nat.le_trans hx (Nat.le_add_right x 139)) (vin rfl) dX0_account_106 (fun Φ49 hΦ48 => ?_)
            have h_132 : Φ49 (x + 139) = some (al_ G 9 (vp_updL f_27 (1 : Int32).toNatClampNeg v_41)) := fset_at hΦ48
            have hI57 : In G x (ca) Φ49 := In.put (k := 139) hI56 hΦ48 (ok28 (k := 139) rfl ⟨_, rfl⟩)
            refine z_aload_n B dX0_account_107 rfl 3 rfl ?_
            have h_133 : Φ49 (x + 132) = some (o_ 2 [.ref (x + 3), .ref (x + 121), .ref (x + 133), .ref (x + 134), .ref (x + 135), .ref (x + 137), .ref (x + 138), .ref (x + 139), .ref (x + 140), .int (nI n_1), .int v_1, .int v_2]) := ((fset_fr hΦ48 (ne_off (x := x) (i := 132) (j := 139) rfl)).trans h_129)
            refine z_get (ref := "FlowExporter$Collector") (C := RX0) (T := TX0) (N := 12) (ci := 2) (v := .ref (x + 139)) B hu_X0_account_X0 rfl 7 (Nat.le_of_ble_eq_true rfl) hv_X0_account_32 rfl h_133 rfl dX0_account_108 ?_
            refine z_iconst (v := 0) B dX0_account_111 rfl ?_
            refine z_lconst (v := 0) B dX0_account_112 rfl ?_
            refine z_aload_n B dX0_account_113 rfl 3 rfl ?_
            refine z_get (ref := "FlowExporter$Collector") (C := RX0) (T := TX0) (N := 12) (ci := 2) (v := .ref (x + 139)) B hu_X0_account_X0 rfl 7 (Nat.le_of_ble_eq_true rfl) hv_X0_account_32 rfl h_133 rfl dX0_account_114 ?_
            refine z_iconst (v := 0) B dX0_account_117 rfl ?_
            obtain ⟨f_28, h_134⟩ := in28 (k := 139) hI57 rfl
            have h_135 : Φ49 (x + 139) = some (al_ G 9 f_28) := h_134
            refine z_lald B h_135 (vin rfl) dX0_account_118 ?_
            refine z_fl (fun v_42 => ?_)
            refine z_iload_n B dX0_account_119 rfl 6 rfl ?_
            refine z_i2l (v := d.toInt64) B dX0_account_120 rfl ?_
            refine z_fl (fun v_43 => ?_)
            refine z_lsub B dX0_account_121 ?_
            refine z_fl (fun v_44 => ?_)
            refine z_mmaxl B (by decide +kernel) (by decide +kernel) (by decide +kernel) (by decide +kernel) ⟨Nat.le_of_ble_eq_true rfl, Nat.le_of_ble_eq_true rfl⟩ ⟨Nat.le_of_ble_eq_true rfl, Nat.le_of_ble_eq_true rfl⟩ dX0_account_122 (fun v_45 => ?_)
            refine z_last B h_135 (Nat.le_trans hx (Nat.le_add_right x 139)) (vin rfl) dX0_account_125 (fun Φ50 hΦ49 => ?_)
            have h_136 : Φ50 (x + 139) = some (al_ G 9 (vp_updL f_28 (0 : Int32).toNatClampNeg v_45)) := fset_at hΦ49
            have hI58 : In G x (ca) Φ50 := In.put (k := 139) hI57 hΦ49 (ok28 (k := 139) rfl ⟨_, rfl⟩)
            refine z_goto (tgt := 136) B dX0_account_126 rfl ?_
            refine z_aload_n B dX0_account_136 rfl 3 rfl ?_
            have h_137 : Φ50 (x + 132) = some (o_ 2 [.ref (x + 3), .ref (x + 121), .ref (x + 133), .ref (x + 134), .ref (x + 135), .ref (x + 137), .ref (x + 138), .ref (x + 139), .ref (x + 140), .int (nI n_1), .int v_1, .int v_2]) := ((fset_fr hΦ49 (ne_off (x := x) (i := 132) (j := 139) rfl)).trans h_133)
            refine z_get (ref := "FlowExporter$Collector") (C := RX0) (T := TX0) (N := 12) (ci := 2) (v := .int (nI n_1)) B hu_X0_account_X0 rfl 9 (Nat.le_of_ble_eq_true rfl) hv_X0_account_39 rfl h_137 rfl dX0_account_137 ?_
            refine z_bipush (v := 8) B dX0_account_140 rfl ?_
            refine z_irem B dX0_account_142 (by decide) ?_
            refine z_top (st1 := [.int (nI (n_1 % 8))]) (congrArg (fun w9 : Int32 => ([.int w9] : List Value)) (nI_rem8 (show n_1 < 2 ^ 31 by omega))) ?_
            refine z_istore (lv' := [(7, .int (nI (n_1 % 8))), (6, .int 1), (5, .int 0), (4, .int (nI n_4)), (0, .ref (x + 132)), (1, .int a), (2, .int b), (3, .int d)]) B dX0_account_143 (Nat.le_of_ble_eq_true rfl) rfl ?_
            refine z_aload_n B dX0_account_145 rfl 4 rfl ?_
            refine z_get (ref := "FlowExporter$Collector") (C := RX0) (T := TX0) (N := 12) (ci := 2) (v := .ref (x + 137)) B hu_X0_account_X0 rfl 5 (Nat.le_of_ble_eq_true rfl) hv_X0_account_26 rfl h_137 rfl dX0_account_146 ?_
            refine z_iload B dX0_account_149 0 rfl ?_
            refine z_iload_n B dX0_account_151 rfl 5 rfl ?_
            obtain ⟨f_29, h_138⟩ := in27 (k := 137) hI58 rfl
            have h_139 : Φ50 (x + 137) = some (ai_ G 8 f_29) := h_138
            refine z_iast B h_139 (Nat.le_trans hx (Nat.le_add_right x 137)) (vp_in_nI (by omega) (by omega)) dX0_account_152 (fun Φ51 hΦ50 => ?_)
            have h_140 : Φ51 (x + 137) = some (ai_ G 8 (upd f_29 (nI (n_1 % 8)).toNatClampNeg a)) := fset_at hΦ50
            have hI59 : In G x (ca) Φ51 := In.put (k := 137) hI58 hΦ50 (ok27 (k := 137) rfl ⟨_, rfl⟩)
            refine z_aload_n B dX0_account_153 rfl 4 rfl ?_
            have h_141 : Φ51 (x + 132) = some (o_ 2 [.ref (x + 3), .ref (x + 121), .ref (x + 133), .ref (x + 134), .ref (x + 135), .ref (x + 137), .ref (x + 138), .ref (x + 139), .ref (x + 140), .int (nI n_1), .int v_1, .int v_2]) := ((fset_fr hΦ50 (ne_off (x := x) (i := 132) (j := 137) rfl)).trans h_137)
            refine z_get (ref := "FlowExporter$Collector") (C := RX0) (T := TX0) (N := 12) (ci := 2) (v := .ref (x + 138)) B hu_X0_account_X0 rfl 6 (Nat.le_of_ble_eq_true rfl) hv_X0_account_29 rfl h_141 rfl dX0_account_154 ?_
            refine z_iload B dX0_account_157 0 rfl ?_
            refine z_iload_n B dX0_account_159 rfl 6 rfl ?_
            obtain ⟨f_30, h_142⟩ := in27 (k := 138) hI59 rfl
            have h_143 : Φ51 (x + 138) = some (ai_ G 8 f_30) := h_142
            refine z_iast B h_143 (Nat.le_trans hx (Nat.le_add_right x 138)) (vp_in_nI (by omega) (by omega)) dX0_account_160 (fun Φ52 hΦ51 => ?_)
            have h_144 : Φ52 (x + 138) = some (ai_ G 8 (upd f_30 (nI (n_1 % 8)).toNatClampNeg b)) := fset_at hΦ51
            have hI60 : In G x (ca) Φ52 := In.put (k := 138) hI59 hΦ51 (ok27 (k := 138) rfl ⟨_, rfl⟩)
            have hI61 : In G x (ca + 1) Φ52 := In.mono hI60 (by omega)
            refine z_aload_n B dX0_account_161 rfl 4 rfl ?_
            refine z_dup B dX0_account_162 rfl ?_
            have h_145 : Φ52 (x + 132) = some (o_ 2 [.ref (x + 3), .ref (x + 121), .ref (x + 133), .ref (x + 134), .ref (x + 135), .ref (x + 137), .ref (x + 138), .ref (x + 139), .ref (x + 140), .int (nI n_1), .int v_1, .int v_2]) := ((fset_fr hΦ51 (ne_off (x := x) (i := 132) (j := 138) rfl)).trans h_141)
            refine z_get (ref := "FlowExporter$Collector") (C := RX0) (T := TX0) (N := 12) (ci := 2) (v := .int (nI n_1)) B hu_X0_account_X0 rfl 9 (Nat.le_of_ble_eq_true rfl) hv_X0_account_39 rfl h_145 rfl dX0_account_163 ?_
            refine z_iconst (v := 1) B dX0_account_166 rfl ?_
            refine z_iadd B dX0_account_167 ?_
            refine z_top (st1 := [.int (nI (n_1 + 1)), .ref (x + 132)]) (congrArg (fun w9 : Int32 => ([.int w9, .ref (x + 132)] : List Value)) (nI_add n_1 1)) ?_
            refine z_put (ref := "FlowExporter$Collector") (C := RX0) (T := TX0) (N := 12) (ci := 2) (v := .int (nI (n_1 + 1))) B hu_X0_account_X0 tyX0 tyX0_ok nmX0 rfl 9 (Nat.le_of_ble_eq_true rfl) hv_X0_account_39 rfl (Or.inl rfl) h_145 (Nat.le_trans hx (Nat.le_add_right x 132)) rfl rfl (Nat.le_of_ble_eq_true rfl) dX0_account_168 (fun Φ53 hΦ52 => ?_)
            have h_146 : Φ53 (x + 132) = some (o_ 2 [.ref (x + 3), .ref (x + 121), .ref (x + 133), .ref (x + 134), .ref (x + 135), .ref (x + 137), .ref (x + 138), .ref (x + 139), .ref (x + 140), .int (nI (n_1 + 1)), .int v_1, .int v_2]) := fset_at hΦ52
            have hI62 : In G x (ca + 1) Φ53 := In.put (k := 132) hI61 hΦ52 (ok25 (k := 132) rfl ⟨n_1 + 1, v_1, v_2, rfl, (show n_1 + 1 ≤ ca + 1 by omega)⟩)
            refine z_aload_n B dX0_account_171 rfl 4 rfl ?_
            refine z_iload_n B dX0_account_172 rfl 6 rfl ?_
            refine z_put (ref := "FlowExporter$Collector") (C := RX0) (T := TX0) (N := 12) (ci := 2) (v := .int b) B hu_X0_account_X0 tyX0 tyX0_ok nmX0 rfl 10 (Nat.le_of_ble_eq_true rfl) hv_X0_account_43 rfl (Or.inl rfl) h_146 (Nat.le_trans hx (Nat.le_add_right x 132)) rfl rfl (Nat.le_of_ble_eq_true rfl) dX0_account_173 (fun Φ54 hΦ53 => ?_)
            have h_147 : Φ54 (x + 132) = some (o_ 2 [.ref (x + 3), .ref (x + 121), .ref (x + 133), .ref (x + 134), .ref (x + 135), .ref (x + 137), .ref (x + 138), .ref (x + 139), .ref (x + 140), .int (nI (n_1 + 1)), .int b, .int v_2]) := fset_at hΦ53
            have hI63 : In G x (ca + 1) Φ54 := In.put (k := 132) hI62 hΦ53 (ok25 (k := 132) rfl ⟨n_1 + 1, b, v_2, rfl, (show n_1 + 1 ≤ ca + 1 by omega)⟩)
            exact z_ret_v B dX0_account_176 ⟨rfl, rfl, hI63, (fun b9 h9 => ((fset_fr hΦ53 (fun h8 => h9 (132) h8 (show 132 ≤ 132 ∧ 132 < 140 by decide))).trans ((fset_fr hΦ52 (fun h8 => h9 (132) h8 (show 132 ≤ 132 ∧ 132 < 140 by decide))).trans ((fset_fr hΦ51 (fun h8 => h9 (138) h8 (show 132 ≤ 138 ∧ 138 < 140 by decide))).trans ((fset_fr hΦ50 (fun h8 => h9 (137) h8 (show 132 ≤ 137 ∧ 137 < 140 by decide))).trans ((fset_fr hΦ49 (fun h8 => h9 (139) h8 (show 132 ≤ 139 ∧ 139 < 140 by decide))).trans ((fset_fr hΦ48 (fun h8 => h9 (139) h8 (show 132 ≤ 139 ∧ 139 < 140 by decide))).trans ((fset_fr hΦ47 (fun h8 => h9 (139) h8 (show 132 ≤ 139 ∧ 139 < 140 by decide))).trans ((hF1 b9 (fun j9 h8 h7 => (show False from h7).elim)).trans rfl)))))))))⟩
      · refine z_iload_n B dX0_account_28 rfl 3 rfl ?_
        refine z_aload_n B dX0_account_29 rfl 1 rfl ?_
        refine z_get (ref := "FlowExporter$Collector") (C := RX0) (T := TX0) (N := 12) (ci := 2) (v := .int v_1) B hu_X0_account_X0 rfl 10 (Nat.le_of_ble_eq_true rfl) hv_X0_account_43 rfl h_15 rfl dX0_account_30 ?_
        refine z_icmp_le (tgt := 40) B dX0_account_33 rfl (fun c_33 => ?_) (fun c_33 => ?_)
        · refine z_iconst (v := 0) B dX0_account_40 rfl ?_
          refine z_istore (lv' := [(5, .int 0), (4, .int v_5), (0, .ref (x + 132)), (1, .int a), (2, .int b), (3, .int d)]) B dX0_account_41 (Nat.le_of_ble_eq_true rfl) rfl ?_
          refine z_iload B dX0_account_43 1 rfl ?_
          refine z_if_ge (tgt := 57) B dX0_account_45 rfl (fun c_34 => ?_) (fun c_34 => ?_)
          · obtain ⟨n_5, e_13, rfl⟩ := nI_of (Int32.not_lt.mpr c_34)
            refine z_iconst (v := 0) B dX0_account_57 rfl ?_
            refine z_istore (lv' := [(6, .int 0), (5, .int 0), (4, .int (nI n_5)), (0, .ref (x + 132)), (1, .int a), (2, .int b), (3, .int d)]) B dX0_account_58 (Nat.le_of_ble_eq_true rfl) rfl ?_
            refine z_iload B dX0_account_60 2 rfl ?_
            refine z_if_le (tgt := 77) B dX0_account_62 rfl (fun c_35 => ?_) (fun c_35 => ?_)
            · have e_14 : n_5 ≤ 0 := (nI_leI (a := n_5) (b := 0) (by omega) (by omega)).mp c_35
              refine z_iload B dX0_account_77 1 rfl ?_
              refine z_if_eq (tgt := 92) B dX0_account_79 rfl (fun c_36 => ?_) (fun h9 => absurd (by decide) h9)
              refine z_iload B dX0_account_92 0 rfl ?_
              refine z_if_eq (tgt := 129) B dX0_account_94 rfl (fun c_37 => ?_) (fun h9 => absurd (by decide) h9)
              refine z_aload_n B dX0_account_129 rfl 3 rfl ?_
              refine z_iload_n B dX0_account_130 rfl 4 rfl ?_
              refine z_iload_n B dX0_account_131 rfl 6 rfl ?_
              refine z_iadd B dX0_account_132 ?_
              refine z_fi (fun v_46 => ?_)
              refine z_put (ref := "FlowExporter$Collector") (C := RX0) (T := TX0) (N := 12) (ci := 2) (v := .int v_46) B hu_X0_account_X0 tyX0 tyX0_ok nmX0 rfl 11 (Nat.le_of_ble_eq_true rfl) hv_X0_account_46 rfl (Or.inl rfl) h_15 (Nat.le_trans hx (Nat.le_add_right x 132)) rfl rfl (Nat.le_of_ble_eq_true rfl) dX0_account_133 (fun Φ55 hΦ54 => ?_)
              have h_148 : Φ55 (x + 132) = some (o_ 2 [.ref (x + 3), .ref (x + 121), .ref (x + 133), .ref (x + 134), .ref (x + 135), .ref (x + 137), .ref (x + 138), .ref (x + 139), .ref (x + 140), .int (nI n_1), .int v_1, .int v_46]) := fset_at hΦ54
              have hI64 : In G x (ca) Φ55 := In.put (k := 132) hI1 hΦ54 (ok25 (k := 132) rfl ⟨n_1, v_1, v_46, rfl, (show n_1 ≤ ca by omega)⟩)
              refine z_aload_n B dX0_account_136 rfl 3 rfl ?_
              refine z_get (ref := "FlowExporter$Collector") (C := RX0) (T := TX0) (N := 12) (ci := 2) (v := .int (nI n_1)) B hu_X0_account_X0 rfl 9 (Nat.le_of_ble_eq_true rfl) hv_X0_account_39 rfl h_148 rfl dX0_account_137 ?_
              refine z_bipush (v := 8) B dX0_account_140 rfl ?_
              refine z_irem B dX0_account_142 (by decide) ?_
              refine z_top (st1 := [.int (nI (n_1 % 8))]) (congrArg (fun w9 : Int32 => ([.int w9] : List Value)) (nI_rem8 (show n_1 < 2 ^ 31 by omega))) ?_
              refine z_istore (lv' := [(7, .int (nI (n_1 % 8))), (6, .int 0), (5, .int 0), (4, .int (nI n_5)), (0, .ref (x + 132)), (1, .int a), (2, .int b), (3, .int d)]) B dX0_account_143 (Nat.le_of_ble_eq_true rfl) rfl ?_
              refine z_aload_n B dX0_account_145 rfl 4 rfl ?_
              refine z_get (ref := "FlowExporter$Collector") (C := RX0) (T := TX0) (N := 12) (ci := 2) (v := .ref (x + 137)) B hu_X0_account_X0 rfl 5 (Nat.le_of_ble_eq_true rfl) hv_X0_account_26 rfl h_148 rfl dX0_account_146 ?_
              refine z_iload B dX0_account_149 0 rfl ?_
              refine z_iload_n B dX0_account_151 rfl 5 rfl ?_
              obtain ⟨f_31, h_149⟩ := in27 (k := 137) hI64 rfl
              have h_150 : Φ55 (x + 137) = some (ai_ G 8 f_31) := h_149
              refine z_iast B h_150 (Nat.le_trans hx (Nat.le_add_right x 137)) (vp_in_nI (by omega) (by omega)) dX0_account_152 (fun Φ56 hΦ55 => ?_)
              have h_151 : Φ56 (x + 137) = some (ai_ G 8 (upd f_31 (nI (n_1 % 8)).toNatClampNeg a)) := fset_at hΦ55
              have hI65 : In G x (ca) Φ56 := In.put (k := 137) hI64 hΦ55 (ok27 (k := 137) rfl ⟨_, rfl⟩)
              refine z_aload_n B dX0_account_153 rfl 4 rfl ?_
              have h_152 : Φ56 (x + 132) = some (o_ 2 [.ref (x + 3), .ref (x + 121), .ref (x + 133), .ref (x + 134), .ref (x + 135), .ref (x + 137), .ref (x + 138), .ref (x + 139), .ref (x + 140), .int (nI n_1), .int v_1, .int v_46]) := ((fset_fr hΦ55 (ne_off (x := x) (i := 132) (j := 137) rfl)).trans h_148)
              refine z_get (ref := "FlowExporter$Collector") (C := RX0) (T := TX0) (N := 12) (ci := 2) (v := .ref (x + 138)) B hu_X0_account_X0 rfl 6 (Nat.le_of_ble_eq_true rfl) hv_X0_account_29 rfl h_152 rfl dX0_account_154 ?_
              refine z_iload B dX0_account_157 0 rfl ?_
              refine z_iload_n B dX0_account_159 rfl 6 rfl ?_
              obtain ⟨f_32, h_153⟩ := in27 (k := 138) hI65 rfl
              have h_154 : Φ56 (x + 138) = some (ai_ G 8 f_32) := h_153
              refine z_iast B h_154 (Nat.le_trans hx (Nat.le_add_right x 138)) (vp_in_nI (by omega) (by omega)) dX0_account_160 (fun Φ57 hΦ56 => ?_)
              have h_155 : Φ57 (x + 138) = some (ai_ G 8 (upd f_32 (nI (n_1 % 8)).toNatClampNeg b)) := fset_at hΦ56
              have hI66 : In G x (ca) Φ57 := In.put (k := 138) hI65 hΦ56 (ok27 (k := 138) rfl ⟨_, rfl⟩)
              have hI67 : In G x (ca + 1) Φ57 := In.mono hI66 (by omega)
              refine z_aload_n B dX0_account_161 rfl 4 rfl ?_
              refine z_dup B dX0_account_162 rfl ?_
              have h_156 : Φ57 (x + 132) = some (o_ 2 [.ref (x + 3), .ref (x + 121), .ref (x + 133), .ref (x + 134), .ref (x + 135), .ref (x + 137), .ref (x + 138), .ref (x + 139), .ref (x + 140), .int (nI n_1), .int v_1, .int v_46]) := ((fset_fr hΦ56 (ne_off (x := x) (i := 132) (j := 138) rfl)).trans h_152)
              refine z_get (ref := "FlowExporter$Collector") (C := RX0) (T := TX0) (N := 12) (ci := 2) (v := .int (nI n_1)) B hu_X0_account_X0 rfl 9 (Nat.le_of_ble_eq_true rfl) hv_X0_account_39 rfl h_156 rfl dX0_account_163 ?_
              refine z_iconst (v := 1) B dX0_account_166 rfl ?_
              refine z_iadd B dX0_account_167 ?_
              refine z_top (st1 := [.int (nI (n_1 + 1)), .ref (x + 132)]) (congrArg (fun w9 : Int32 => ([.int w9, .ref (x + 132)] : List Value)) (nI_add n_1 1)) ?_
              refine z_put (ref := "FlowExporter$Collector") (C := RX0) (T := TX0) (N := 12) (ci := 2) (v := .int (nI (n_1 + 1))) B hu_X0_account_X0 tyX0 tyX0_ok nmX0 rfl 9 (Nat.le_of_ble_eq_true rfl) hv_X0_account_39 rfl (Or.inl rfl) h_156 (Nat.le_trans hx (Nat.le_add_right x 132)) rfl rfl (Nat.le_of_ble_eq_true rfl) dX0_account_168 (fun Φ58 hΦ57 => ?_)
              have h_157 : Φ58 (x + 132) = some (o_ 2 [.ref (x + 3), .ref (x + 121), .ref (x + 133), .ref (x + 134), .ref (x + 135), .ref (x + 137), .ref (x + 138), .ref (x + 139), .ref (x + 140), .int (nI (n_1 + 1)), .int v_1, .int v_46]) := fset_at hΦ57
              have hI68 : In G x (ca + 1) Φ58 := In.put (k := 132) hI67 hΦ57 (ok25 (k := 132) rfl ⟨n_1 + 1, v_1, v_46, rfl, (show n_1 + 1 ≤ ca + 1 by omega)⟩)
              refine z_aload_n B dX0_account_171 rfl 4 rfl ?_
              refine z_iload_n B dX0_account_172 rfl 6 rfl ?_
              refine z_put (ref := "FlowExporter$Collector") (C := RX0) (T := TX0) (N := 12) (ci := 2) (v := .int b) B hu_X0_account_X0 tyX0 tyX0_ok nmX0 rfl 10 (Nat.le_of_ble_eq_true rfl) hv_X0_account_43 rfl (Or.inl rfl) h_157 (Nat.le_trans hx (Nat.le_add_right x 132)) rfl rfl (Nat.le_of_ble_eq_true rfl) dX0_account_173 (fun Φ59 hΦ58 => ?_)
              have h_158 : Φ59 (x + 132) = some (o_ 2 [.ref (x + 3), .ref (x + 121), .ref (x + 133), .ref (x + 134), .ref (x + 135), .ref (x + 137), .ref (x + 138), .ref (x + 139), .ref (x + 140), .int (nI (n_1 + 1)), .int b, .int v_46]) := fset_at hΦ58
              have hI69 : In G x (ca + 1) Φ59 := In.put (k := 132) hI68 hΦ58 (ok25 (k := 132) rfl ⟨n_1 + 1, b, v_46, rfl, (show n_1 + 1 ≤ ca + 1 by omega)⟩)
              exact z_ret_v B dX0_account_176 ⟨rfl, rfl, hI69, (fun b9 h9 => ((fset_fr hΦ58 (fun h8 => h9 (132) h8 (show 132 ≤ 132 ∧ 132 < 140 by decide))).trans ((fset_fr hΦ57 (fun h8 => h9 (132) h8 (show 132 ≤ 132 ∧ 132 < 140 by decide))).trans ((fset_fr hΦ56 (fun h8 => h9 (138) h8 (show 132 ≤ 138 ∧ 138 < 140 by decide))).trans ((fset_fr hΦ55 (fun h8 => h9 (137) h8 (show 132 ≤ 137 ∧ 137 < 140 by decide))).trans ((fset_fr hΦ54 (fun h8 => h9 (132) h8 (show 132 ≤ 132 ∧ 132 < 140 by decide))).trans ((hF1 b9 (fun j9 h8 h7 => (show False from h7).elim)).trans rfl)))))))⟩
            · have e_15 : ¬ (n_5 ≤ 0) := fun h9 => c_35 ((nI_leI (a := n_5) (b := 0) (by omega) (by omega)).mpr h9)
              refine z_aload_n B dX0_account_65 rfl 3 rfl ?_
              refine z_get (ref := "FlowExporter$Collector") (C := RX0) (T := TX0) (N := 12) (ci := 2) (v := .ref (x + 139)) B hu_X0_account_X0 rfl 7 (Nat.le_of_ble_eq_true rfl) hv_X0_account_32 rfl h_15 rfl dX0_account_66 ?_
              refine z_iconst (v := 0) B dX0_account_69 rfl ?_
              refine z_dup2_11 B dX0_account_70 rfl rfl ?_
              obtain ⟨f_33, h_159⟩ := in28 (k := 139) hI1 rfl
              have h_160 : Φ1 (x + 139) = some (al_ G 9 f_33) := h_159
              refine z_lald B h_160 (vin rfl) dX0_account_71 ?_
              refine z_fl (fun v_47 => ?_)
              refine z_iload B dX0_account_72 2 rfl ?_
              refine z_i2l (v := (nI n_5).toInt64) B dX0_account_74 rfl ?_
              refine z_fl (fun v_48 => ?_)
              refine z_ladd B dX0_account_75 ?_
              refine z_fl (fun v_49 => ?_)
              refine z_last B h_160 (Nat.le_trans hx (Nat.le_add_right x 139)) (vin rfl) dX0_account_76 (fun Φ60 hΦ59 => ?_)
              have h_161 : Φ60 (x + 139) = some (al_ G 9 (vp_updL f_33 (0 : Int32).toNatClampNeg v_49)) := fset_at hΦ59
              have hI70 : In G x (ca) Φ60 := In.put (k := 139) hI1 hΦ59 (ok28 (k := 139) rfl ⟨_, rfl⟩)
              refine z_iload B dX0_account_77 1 rfl ?_
              refine z_if_eq (tgt := 92) B dX0_account_79 rfl (fun c_38 => ?_) (fun h9 => absurd (by decide) h9)
              refine z_iload B dX0_account_92 0 rfl ?_
              refine z_if_eq (tgt := 129) B dX0_account_94 rfl (fun c_39 => ?_) (fun h9 => absurd (by decide) h9)
              refine z_aload_n B dX0_account_129 rfl 3 rfl ?_
              refine z_iload_n B dX0_account_130 rfl 4 rfl ?_
              refine z_iload_n B dX0_account_131 rfl 6 rfl ?_
              refine z_iadd B dX0_account_132 ?_
              refine z_fi (fun v_50 => ?_)
              have h_162 : Φ60 (x + 132) = some (o_ 2 [.ref (x + 3), .ref (x + 121), .ref (x + 133), .ref (x + 134), .ref (x + 135), .ref (x + 137), .ref (x + 138), .ref (x + 139), .ref (x + 140), .int (nI n_1), .int v_1, .int v_2]) := ((fset_fr hΦ59 (ne_off (x := x) (i := 132) (j := 139) rfl)).trans h_15)
              refine z_put (ref := "FlowExporter$Collector") (C := RX0) (T := TX0) (N := 12) (ci := 2) (v := .int v_50) B hu_X0_account_X0 tyX0 tyX0_ok nmX0 rfl 11 (Nat.le_of_ble_eq_true rfl) hv_X0_account_46 rfl (Or.inl rfl) h_162 (Nat.le_trans hx (Nat.le_add_right x 132)) rfl rfl (Nat.le_of_ble_eq_true rfl) dX0_account_133 (fun Φ61 hΦ60 => ?_)
              have h_163 : Φ61 (x + 132) = some (o_ 2 [.ref (x + 3), .ref (x + 121), .ref (x + 133), .ref (x + 134), .ref (x + 135), .ref (x + 137), .ref (x + 138), .ref (x + 139), .ref (x + 140), .int (nI n_1), .int v_1, .int v_50]) := fset_at hΦ60
              have hI71 : In G x (ca) Φ61 := In.put (k := 132) hI70 hΦ60 (ok25 (k := 132) rfl ⟨n_1, v_1, v_50, rfl, (show n_1 ≤ ca by omega)⟩)
              refine z_aload_n B dX0_account_136 rfl 3 rfl ?_
              refine z_get (ref := "FlowExporter$Collector") (C := RX0) (T := TX0) (N := 12) (ci := 2) (v := .int (nI n_1)) B hu_X0_account_X0 rfl 9 (Nat.le_of_ble_eq_true rfl) hv_X0_account_39 rfl h_163 rfl dX0_account_137 ?_
              refine z_bipush (v := 8) B dX0_account_140 rfl ?_
              refine z_irem B dX0_account_142 (by decide) ?_
              refine z_top (st1 := [.int (nI (n_1 % 8))]) (congrArg (fun w9 : Int32 => ([.int w9] : List Value)) (nI_rem8 (show n_1 < 2 ^ 31 by omega))) ?_
              refine z_istore (lv' := [(7, .int (nI (n_1 % 8))), (6, .int 0), (5, .int 0), (4, .int (nI n_5)), (0, .ref (x + 132)), (1, .int a), (2, .int b), (3, .int d)]) B dX0_account_143 (Nat.le_of_ble_eq_true rfl) rfl ?_
              refine z_aload_n B dX0_account_145 rfl 4 rfl ?_
              refine z_get (ref := "FlowExporter$Collector") (C := RX0) (T := TX0) (N := 12) (ci := 2) (v := .ref (x + 137)) B hu_X0_account_X0 rfl 5 (Nat.le_of_ble_eq_true rfl) hv_X0_account_26 rfl h_163 rfl dX0_account_146 ?_
              refine z_iload B dX0_account_149 0 rfl ?_
              refine z_iload_n B dX0_account_151 rfl 5 rfl ?_
              obtain ⟨f_34, h_164⟩ := in27 (k := 137) hI71 rfl
              have h_165 : Φ61 (x + 137) = some (ai_ G 8 f_34) := h_164
              refine z_iast B h_165 (Nat.le_trans hx (Nat.le_add_right x 137)) (vp_in_nI (by omega) (by omega)) dX0_account_152 (fun Φ62 hΦ61 => ?_)
              have h_166 : Φ62 (x + 137) = some (ai_ G 8 (upd f_34 (nI (n_1 % 8)).toNatClampNeg a)) := fset_at hΦ61
              have hI72 : In G x (ca) Φ62 := In.put (k := 137) hI71 hΦ61 (ok27 (k := 137) rfl ⟨_, rfl⟩)
              refine z_aload_n B dX0_account_153 rfl 4 rfl ?_
              have h_167 : Φ62 (x + 132) = some (o_ 2 [.ref (x + 3), .ref (x + 121), .ref (x + 133), .ref (x + 134), .ref (x + 135), .ref (x + 137), .ref (x + 138), .ref (x + 139), .ref (x + 140), .int (nI n_1), .int v_1, .int v_50]) := ((fset_fr hΦ61 (ne_off (x := x) (i := 132) (j := 137) rfl)).trans h_163)
              refine z_get (ref := "FlowExporter$Collector") (C := RX0) (T := TX0) (N := 12) (ci := 2) (v := .ref (x + 138)) B hu_X0_account_X0 rfl 6 (Nat.le_of_ble_eq_true rfl) hv_X0_account_29 rfl h_167 rfl dX0_account_154 ?_
              refine z_iload B dX0_account_157 0 rfl ?_
              refine z_iload_n B dX0_account_159 rfl 6 rfl ?_
              obtain ⟨f_35, h_168⟩ := in27 (k := 138) hI72 rfl
              have h_169 : Φ62 (x + 138) = some (ai_ G 8 f_35) := h_168
              refine z_iast B h_169 (Nat.le_trans hx (Nat.le_add_right x 138)) (vp_in_nI (by omega) (by omega)) dX0_account_160 (fun Φ63 hΦ62 => ?_)
              have h_170 : Φ63 (x + 138) = some (ai_ G 8 (upd f_35 (nI (n_1 % 8)).toNatClampNeg b)) := fset_at hΦ62
              have hI73 : In G x (ca) Φ63 := In.put (k := 138) hI72 hΦ62 (ok27 (k := 138) rfl ⟨_, rfl⟩)
              have hI74 : In G x (ca + 1) Φ63 := In.mono hI73 (by omega)
              refine z_aload_n B dX0_account_161 rfl 4 rfl ?_
              refine z_dup B dX0_account_162 rfl ?_
              have h_171 : Φ63 (x + 132) = some (o_ 2 [.ref (x + 3), .ref (x + 121), .ref (x + 133), .ref (x + 134), .ref (x + 135), .ref (x + 137), .ref (x + 138), .ref (x + 139), .ref (x + 140), .int (nI n_1), .int v_1, .int v_50]) := ((fset_fr hΦ62 (ne_off (x := x) (i := 132) (j := 138) rfl)).trans h_167)
              refine z_get (ref := "FlowExporter$Collector") (C := RX0) (T := TX0) (N := 12) (ci := 2) (v := .int (nI n_1)) B hu_X0_account_X0 rfl 9 (Nat.le_of_ble_eq_true rfl) hv_X0_account_39 rfl h_171 rfl dX0_account_163 ?_
              refine z_iconst (v := 1) B dX0_account_166 rfl ?_
              refine z_iadd B dX0_account_167 ?_
              refine z_top (st1 := [.int (nI (n_1 + 1)), .ref (x + 132)]) (congrArg (fun w9 : Int32 => ([.int w9, .ref (x + 132)] : List Value)) (nI_add n_1 1)) ?_
              refine z_put (ref := "FlowExporter$Collector") (C := RX0) (T := TX0) (N := 12) (ci := 2) (v := .int (nI (n_1 + 1))) B hu_X0_account_X0 tyX0 tyX0_ok nmX0 rfl 9 (Nat.le_of_ble_eq_true rfl) hv_X0_account_39 rfl (Or.inl rfl) h_171 (Nat.le_trans hx (Nat.le_add_right x 132)) rfl rfl (Nat.le_of_ble_eq_true rfl) dX0_account_168 (fun Φ64 hΦ63 => ?_)
              have h_172 : Φ64 (x + 132) = some (o_ 2 [.ref (x + 3), .ref (x + 121), .ref (x + 133), .ref (x + 134), .ref (x + 135), .ref (x + 137), .ref (x + 138), .ref (x + 139), .ref (x + 140), .int (nI (n_1 + 1)), .int v_1, .int v_50]) := fset_at hΦ63
              have hI75 : In G x (ca + 1) Φ64 := In.put (k := 132) hI74 hΦ63 (ok25 (k := 132) rfl ⟨n_1 + 1, v_1, v_50, rfl, (show n_1 + 1 ≤ ca + 1 by omega)⟩)
              refine z_aload_n B dX0_account_171 rfl 4 rfl ?_
              refine z_iload_n B dX0_account_172 rfl 6 rfl ?_
              refine z_put (ref := "FlowExporter$Collector") (C := RX0) (T := TX0) (N := 12) (ci := 2) (v := .int b) B hu_X0_account_X0 tyX0 tyX0_ok nmX0 rfl 10 (Nat.le_of_ble_eq_true rfl) hv_X0_account_43 rfl (Or.inl rfl) h_172 (Nat.le_trans hx (Nat.le_add_right x 132)) rfl rfl (Nat.le_of_ble_eq_true rfl) dX0_account_173 (fun Φ65 hΦ64 => ?_)
              have h_173 : Φ65 (x + 132) = some (o_ 2 [.ref (x + 3), .ref (x + 121), .ref (x + 133), .ref (x + 134), .ref (x + 135), .ref (x + 137), .ref (x + 138), .ref (x + 139), .ref (x + 140), .int (nI (n_1 + 1)), .int b, .int v_50]) := fset_at hΦ64
              have hI76 : In G x (ca + 1) Φ65 := In.put (k := 132) hI75 hΦ64 (ok25 (k := 132) rfl ⟨n_1 + 1, b, v_50, rfl, (show n_1 + 1 ≤ ca + 1 by omega)⟩)
              exact z_ret_v B dX0_account_176 ⟨rfl, rfl, hI76, (fun b9 h9 => ((fset_fr hΦ64 (fun h8 => h9 (132) h8 (show 132 ≤ 132 ∧ 132 < 140 by decide))).trans ((fset_fr hΦ63 (fun h8 => h9 (132) h8 (show 132 ≤ 132 ∧ 132 < 140 by decide))).trans ((fset_fr hΦ62 (fun h8 => h9 (138) h8 (show 132 ≤ 138 ∧ 138 < 140 by decide))).trans ((fset_fr hΦ61 (fun h8 => h9 (137) h8 (show 132 ≤ 137 ∧ 137 < 140 by decide))).trans ((fset_fr hΦ60 (fun h8 => h9 (132) h8 (show 132 ≤ 132 ∧ 132 < 140 by decide))).trans ((fset_fr hΦ59 (fun h8 => h9 (139) h8 (show 132 ≤ 139 ∧ 139 < 140 by decide))).trans ((hF1 b9 (fun j9 h8 h7 => (show False from h7).elim)).trans rfl))))))))⟩
          · refine z_iload B dX0_account_48 0 rfl ?_
            refine z_if_ne (tgt := 57) B dX0_account_50 rfl (fun h9 => absurd (by decide) h9) (fun c_40 => ?_)
            refine z_iconst (v := 1) B dX0_account_53 rfl ?_
            refine z_goto (tgt := 58) B dX0_account_54 rfl ?_
            refine z_istore (lv' := [(6, .int 1), (5, .int 0), (4, .int v_5), (0, .ref (x + 132)), (1, .int a), (2, .int b), (3, .int d)]) B dX0_account_58 (Nat.le_of_ble_eq_true rfl) rfl ?_
            refine z_iload B dX0_account_60 2 rfl ?_
            refine z_if_le (tgt := 77) B dX0_account_62 rfl (fun c_41 => ?_) (fun c_41 => ?_)
            · refine z_iload B dX0_account_77 1 rfl ?_
              refine z_if_eq (tgt := 92) B dX0_account_79 rfl (fun c_42 => ?_) (fun h9 => absurd (by decide) h9)
              refine z_iload B dX0_account_92 0 rfl ?_
              refine z_if_eq (tgt := 129) B dX0_account_94 rfl (fun h9 => absurd h9 (by decide)) (fun c_43 => ?_)
              refine z_aload_n B dX0_account_97 rfl 3 rfl ?_
              refine z_get (ref := "FlowExporter$Collector") (C := RX0) (T := TX0) (N := 12) (ci := 2) (v := .ref (x + 139)) B hu_X0_account_X0 rfl 7 (Nat.le_of_ble_eq_true rfl) hv_X0_account_32 rfl h_15 rfl dX0_account_98 ?_
              refine z_iconst (v := 1) B dX0_account_101 rfl ?_
              refine z_dup2_11 B dX0_account_102 rfl rfl ?_
              obtain ⟨f_36, h_174⟩ := in28 (k := 139) hI1 rfl
              have h_175 : Φ1 (x + 139) = some (al_ G 9 f_36) := h_174
              refine z_lald B h_175 (vin rfl) dX0_account_103 ?_
              refine z_fl (fun v_51 => ?_)
              refine z_lconst (v := 1) B dX0_account_104 rfl ?_
              refine z_ladd B dX0_account_105 ?_
              refine z_fl (fun v_52 => ?_)
              refine z_last B h_175 (Nat.le_trans hx (Nat.le_add_right x 139)) (vin rfl) dX0_account_106 (fun Φ66 hΦ65 => ?_)
              have h_176 : Φ66 (x + 139) = some (al_ G 9 (vp_updL f_36 (1 : Int32).toNatClampNeg v_52)) := fset_at hΦ65
              have hI77 : In G x (ca) Φ66 := In.put (k := 139) hI1 hΦ65 (ok28 (k := 139) rfl ⟨_, rfl⟩)
              refine z_aload_n B dX0_account_107 rfl 3 rfl ?_
              have h_177 : Φ66 (x + 132) = some (o_ 2 [.ref (x + 3), .ref (x + 121), .ref (x + 133), .ref (x + 134), .ref (x + 135), .ref (x + 137), .ref (x + 138), .ref (x + 139), .ref (x + 140), .int (nI n_1), .int v_1, .int v_2]) := ((fset_fr hΦ65 (ne_off (x := x) (i := 132) (j := 139) rfl)).trans h_15)
              refine z_get (ref := "FlowExporter$Collector") (C := RX0) (T := TX0) (N := 12) (ci := 2) (v := .ref (x + 139)) B hu_X0_account_X0 rfl 7 (Nat.le_of_ble_eq_true rfl) hv_X0_account_32 rfl h_177 rfl dX0_account_108 ?_
              refine z_iconst (v := 0) B dX0_account_111 rfl ?_
              refine z_lconst (v := 0) B dX0_account_112 rfl ?_
              refine z_aload_n B dX0_account_113 rfl 3 rfl ?_
              refine z_get (ref := "FlowExporter$Collector") (C := RX0) (T := TX0) (N := 12) (ci := 2) (v := .ref (x + 139)) B hu_X0_account_X0 rfl 7 (Nat.le_of_ble_eq_true rfl) hv_X0_account_32 rfl h_177 rfl dX0_account_114 ?_
              refine z_iconst (v := 0) B dX0_account_117 rfl ?_
              obtain ⟨f_37, h_178⟩ := in28 (k := 139) hI77 rfl
              have h_179 : Φ66 (x + 139) = some (al_ G 9 f_37) := h_178
              refine z_lald B h_179 (vin rfl) dX0_account_118 ?_
              refine z_fl (fun v_53 => ?_)
              refine z_iload_n B dX0_account_119 rfl 6 rfl ?_
              refine z_i2l (v := d.toInt64) B dX0_account_120 rfl ?_
              refine z_fl (fun v_54 => ?_)
              refine z_lsub B dX0_account_121 ?_
              refine z_fl (fun v_55 => ?_)
              refine z_mmaxl B (by decide +kernel) (by decide +kernel) (by decide +kernel) (by decide +kernel) ⟨Nat.le_of_ble_eq_true rfl, Nat.le_of_ble_eq_true rfl⟩ ⟨Nat.le_of_ble_eq_true rfl, Nat.le_of_ble_eq_true rfl⟩ dX0_account_122 (fun v_56 => ?_)
              refine z_last B h_179 (Nat.le_trans hx (Nat.le_add_right x 139)) (vin rfl) dX0_account_125 (fun Φ67 hΦ66 => ?_)
              have h_180 : Φ67 (x + 139) = some (al_ G 9 (vp_updL f_37 (0 : Int32).toNatClampNeg v_56)) := fset_at hΦ66
              have hI78 : In G x (ca) Φ67 := In.put (k := 139) hI77 hΦ66 (ok28 (k := 139) rfl ⟨_, rfl⟩)
              refine z_goto (tgt := 136) B dX0_account_126 rfl ?_
              refine z_aload_n B dX0_account_136 rfl 3 rfl ?_
              have h_181 : Φ67 (x + 132) = some (o_ 2 [.ref (x + 3), .ref (x + 121), .ref (x + 133), .ref (x + 134), .ref (x + 135), .ref (x + 137), .ref (x + 138), .ref (x + 139), .ref (x + 140), .int (nI n_1), .int v_1, .int v_2]) := ((fset_fr hΦ66 (ne_off (x := x) (i := 132) (j := 139) rfl)).trans h_177)
              refine z_get (ref := "FlowExporter$Collector") (C := RX0) (T := TX0) (N := 12) (ci := 2) (v := .int (nI n_1)) B hu_X0_account_X0 rfl 9 (Nat.le_of_ble_eq_true rfl) hv_X0_account_39 rfl h_181 rfl dX0_account_137 ?_
              refine z_bipush (v := 8) B dX0_account_140 rfl ?_
              refine z_irem B dX0_account_142 (by decide) ?_
              refine z_top (st1 := [.int (nI (n_1 % 8))]) (congrArg (fun w9 : Int32 => ([.int w9] : List Value)) (nI_rem8 (show n_1 < 2 ^ 31 by omega))) ?_
              refine z_istore (lv' := [(7, .int (nI (n_1 % 8))), (6, .int 1), (5, .int 0), (4, .int v_5), (0, .ref (x + 132)), (1, .int a), (2, .int b), (3, .int d)]) B dX0_account_143 (Nat.le_of_ble_eq_true rfl) rfl ?_
              refine z_aload_n B dX0_account_145 rfl 4 rfl ?_
              refine z_get (ref := "FlowExporter$Collector") (C := RX0) (T := TX0) (N := 12) (ci := 2) (v := .ref (x + 137)) B hu_X0_account_X0 rfl 5 (Nat.le_of_ble_eq_true rfl) hv_X0_account_26 rfl h_181 rfl dX0_account_146 ?_
              refine z_iload B dX0_account_149 0 rfl ?_
              refine z_iload_n B dX0_account_151 rfl 5 rfl ?_
              obtain ⟨f_38, h_182⟩ := in27 (k := 137) hI78 rfl
              have h_183 : Φ67 (x + 137) = some (ai_ G 8 f_38) := h_182
              refine z_iast B h_183 (Nat.le_trans hx (Nat.le_add_right x 137)) (vp_in_nI (by omega) (by omega)) dX0_account_152 (fun Φ68 hΦ67 => ?_)
              have h_184 : Φ68 (x + 137) = some (ai_ G 8 (upd f_38 (nI (n_1 % 8)).toNatClampNeg a)) := fset_at hΦ67
              have hI79 : In G x (ca) Φ68 := In.put (k := 137) hI78 hΦ67 (ok27 (k := 137) rfl ⟨_, rfl⟩)
              refine z_aload_n B dX0_account_153 rfl 4 rfl ?_
              have h_185 : Φ68 (x + 132) = some (o_ 2 [.ref (x + 3), .ref (x + 121), .ref (x + 133), .ref (x + 134), .ref (x + 135), .ref (x + 137), .ref (x + 138), .ref (x + 139), .ref (x + 140), .int (nI n_1), .int v_1, .int v_2]) := ((fset_fr hΦ67 (ne_off (x := x) (i := 132) (j := 137) rfl)).trans h_181)
              refine z_get (ref := "FlowExporter$Collector") (C := RX0) (T := TX0) (N := 12) (ci := 2) (v := .ref (x + 138)) B hu_X0_account_X0 rfl 6 (Nat.le_of_ble_eq_true rfl) hv_X0_account_29 rfl h_185 rfl dX0_account_154 ?_
              refine z_iload B dX0_account_157 0 rfl ?_
              refine z_iload_n B dX0_account_159 rfl 6 rfl ?_
              obtain ⟨f_39, h_186⟩ := in27 (k := 138) hI79 rfl
              have h_187 : Φ68 (x + 138) = some (ai_ G 8 f_39) := h_186
              refine z_iast B h_187 (Nat.le_trans hx (Nat.le_add_right x 138)) (vp_in_nI (by omega) (by omega)) dX0_account_160 (fun Φ69 hΦ68 => ?_)
              have h_188 : Φ69 (x + 138) = some (ai_ G 8 (upd f_39 (nI (n_1 % 8)).toNatClampNeg b)) := fset_at hΦ68
              have hI80 : In G x (ca) Φ69 := In.put (k := 138) hI79 hΦ68 (ok27 (k := 138) rfl ⟨_, rfl⟩)
              have hI81 : In G x (ca + 1) Φ69 := In.mono hI80 (by omega)
              refine z_aload_n B dX0_account_161 rfl 4 rfl ?_
              refine z_dup B dX0_account_162 rfl ?_
              have h_189 : Φ69 (x + 132) = some (o_ 2 [.ref (x + 3), .ref (x + 121), .ref (x + 133), .ref (x + 134), .ref (x + 135), .ref (x + 137), .ref (x + 138), .ref (x + 139), .ref (x + 140), .int (nI n_1), .int v_1, .int v_2]) := ((fset_fr hΦ68 (ne_off (x := x) (i := 132) (j := 138) rfl)).trans h_185)
              refine z_get (ref := "FlowExporter$Collector") (C := RX0) (T := TX0) (N := 12) (ci := 2) (v := .int (nI n_1)) B hu_X0_account_X0 rfl 9 (Nat.le_of_ble_eq_true rfl) hv_X0_account_39 rfl h_189 rfl dX0_account_163 ?_
              refine z_iconst (v := 1) B dX0_account_166 rfl ?_
              refine z_iadd B dX0_account_167 ?_
              refine z_top (st1 := [.int (nI (n_1 + 1)), .ref (x + 132)]) (congrArg (fun w9 : Int32 => ([.int w9, .ref (x + 132)] : List Value)) (nI_add n_1 1)) ?_
              refine z_put (ref := "FlowExporter$Collector") (C := RX0) (T := TX0) (N := 12) (ci := 2) (v := .int (nI (n_1 + 1))) B hu_X0_account_X0 tyX0 tyX0_ok nmX0 rfl 9 (Nat.le_of_ble_eq_true rfl) hv_X0_account_39 rfl (Or.inl rfl) h_189 (Nat.le_trans hx (Nat.le_add_right x 132)) rfl rfl (Nat.le_of_ble_eq_true rfl) dX0_account_168 (fun Φ70 hΦ69 => ?_)
              have h_190 : Φ70 (x + 132) = some (o_ 2 [.ref (x + 3), .ref (x + 121), .ref (x + 133), .ref (x + 134), .ref (x + 135), .ref (x + 137), .ref (x + 138), .ref (x + 139), .ref (x + 140), .int (nI (n_1 + 1)), .int v_1, .int v_2]) := fset_at hΦ69
              have hI82 : In G x (ca + 1) Φ70 := In.put (k := 132) hI81 hΦ69 (ok25 (k := 132) rfl ⟨n_1 + 1, v_1, v_2, rfl, (show n_1 + 1 ≤ ca + 1 by omega)⟩)
              refine z_aload_n B dX0_account_171 rfl 4 rfl ?_
              refine z_iload_n B dX0_account_172 rfl 6 rfl ?_
              refine z_put (ref := "FlowExporter$Collector") (C := RX0) (T := TX0) (N := 12) (ci := 2) (v := .int b) B hu_X0_account_X0 tyX0 tyX0_ok nmX0 rfl 10 (Nat.le_of_ble_eq_true rfl) hv_X0_account_43 rfl (Or.inl rfl) h_190 (Nat.le_trans hx (Nat.le_add_right x 132)) rfl rfl (Nat.le_of_ble_eq_true rfl) dX0_account_173 (fun Φ71 hΦ70 => ?_)
              have h_191 : Φ71 (x + 132) = some (o_ 2 [.ref (x + 3), .ref (x + 121), .ref (x + 133), .ref (x + 134), .ref (x + 135), .ref (x + 137), .ref (x + 138), .ref (x + 139), .ref (x + 140), .int (nI (n_1 + 1)), .int b, .int v_2]) := fset_at hΦ70
              have hI83 : In G x (ca + 1) Φ71 := In.put (k := 132) hI82 hΦ70 (ok25 (k := 132) rfl ⟨n_1 + 1, b, v_2, rfl, (show n_1 + 1 ≤ ca + 1 by omega)⟩)
              exact z_ret_v B dX0_account_176 ⟨rfl, rfl, hI83, (fun b9 h9 => ((fset_fr hΦ70 (fun h8 => h9 (132) h8 (show 132 ≤ 132 ∧ 132 < 140 by decide))).trans ((fset_fr hΦ69 (fun h8 => h9 (132) h8 (show 132 ≤ 132 ∧ 132 < 140 by decide))).trans ((fset_fr hΦ68 (fun h8 => h9 (138) h8 (show 132 ≤ 138 ∧ 138 < 140 by decide))).trans ((fset_fr hΦ67 (fun h8 => h9 (137) h8 (show 132 ≤ 137 ∧ 137 < 140 by decide))).trans ((fset_fr hΦ66 (fun h8 => h9 (139) h8 (show 132 ≤ 139 ∧ 139 < 140 by decide))).trans ((fset_fr hΦ65 (fun h8 => h9 (139) h8 (show 132 ≤ 139 ∧ 139 < 140 by decide))).trans ((hF1 b9 (fun j9 h8 h7 => (show False from h7).elim)).trans rfl))))))))⟩
            · obtain ⟨n_6, e_17, e_16, rfl⟩ := nI_ofp c_41
              refine z_aload_n B dX0_account_65 rfl 3 rfl ?_
              refine z_get (ref := "FlowExporter$Collector") (C := RX0) (T := TX0) (N := 12) (ci := 2) (v := .ref (x + 139)) B hu_X0_account_X0 rfl 7 (Nat.le_of_ble_eq_true rfl) hv_X0_account_32 rfl h_15 rfl dX0_account_66 ?_
              refine z_iconst (v := 0) B dX0_account_69 rfl ?_
              refine z_dup2_11 B dX0_account_70 rfl rfl ?_
              obtain ⟨f_40, h_192⟩ := in28 (k := 139) hI1 rfl
              have h_193 : Φ1 (x + 139) = some (al_ G 9 f_40) := h_192
              refine z_lald B h_193 (vin rfl) dX0_account_71 ?_
              refine z_fl (fun v_57 => ?_)
              refine z_iload B dX0_account_72 2 rfl ?_
              refine z_i2l (v := (nI n_6).toInt64) B dX0_account_74 rfl ?_
              refine z_fl (fun v_58 => ?_)
              refine z_ladd B dX0_account_75 ?_
              refine z_fl (fun v_59 => ?_)
              refine z_last B h_193 (Nat.le_trans hx (Nat.le_add_right x 139)) (vin rfl) dX0_account_76 (fun Φ72 hΦ71 => ?_)
              have h_194 : Φ72 (x + 139) = some (al_ G 9 (vp_updL f_40 (0 : Int32).toNatClampNeg v_59)) := fset_at hΦ71
              have hI84 : In G x (ca) Φ72 := In.put (k := 139) hI1 hΦ71 (ok28 (k := 139) rfl ⟨_, rfl⟩)
              refine z_iload B dX0_account_77 1 rfl ?_
              refine z_if_eq (tgt := 92) B dX0_account_79 rfl (fun c_44 => ?_) (fun h9 => absurd (by decide) h9)
              refine z_iload B dX0_account_92 0 rfl ?_
              refine z_if_eq (tgt := 129) B dX0_account_94 rfl (fun h9 => absurd h9 (by decide)) (fun c_45 => ?_)
              refine z_aload_n B dX0_account_97 rfl 3 rfl ?_
              have h_195 : Φ72 (x + 132) = some (o_ 2 [.ref (x + 3), .ref (x + 121), .ref (x + 133), .ref (x + 134), .ref (x + 135), .ref (x + 137), .ref (x + 138), .ref (x + 139), .ref (x + 140), .int (nI n_1), .int v_1, .int v_2]) := ((fset_fr hΦ71 (ne_off (x := x) (i := 132) (j := 139) rfl)).trans h_15)
              refine z_get (ref := "FlowExporter$Collector") (C := RX0) (T := TX0) (N := 12) (ci := 2) (v := .ref (x + 139)) B hu_X0_account_X0 rfl 7 (Nat.le_of_ble_eq_true rfl) hv_X0_account_32 rfl h_195 rfl dX0_account_98 ?_
              refine z_iconst (v := 1) B dX0_account_101 rfl ?_
              refine z_dup2_11 B dX0_account_102 rfl rfl ?_
              obtain ⟨f_41, h_196⟩ := in28 (k := 139) hI84 rfl
              have h_197 : Φ72 (x + 139) = some (al_ G 9 f_41) := h_196
              refine z_lald B h_197 (vin rfl) dX0_account_103 ?_
              refine z_fl (fun v_60 => ?_)
              refine z_lconst (v := 1) B dX0_account_104 rfl ?_
              refine z_ladd B dX0_account_105 ?_
              refine z_fl (fun v_61 => ?_)
              refine z_last B h_197 (Nat.le_trans hx (Nat.le_add_right x 139)) (vin rfl) dX0_account_106 (fun Φ73 hΦ72 => ?_)
              have h_198 : Φ73 (x + 139) = some (al_ G 9 (vp_updL f_41 (1 : Int32).toNatClampNeg v_61)) := fset_at hΦ72
              have hI85 : In G x (ca) Φ73 := In.put (k := 139) hI84 hΦ72 (ok28 (k := 139) rfl ⟨_, rfl⟩)
              refine z_aload_n B dX0_account_107 rfl 3 rfl ?_
              have h_199 : Φ73 (x + 132) = some (o_ 2 [.ref (x + 3), .ref (x + 121), .ref (x + 133), .ref (x + 134), .ref (x + 135), .ref (x + 137), .ref (x + 138), .ref (x + 139), .ref (x + 140), .int (nI n_1), .int v_1, .int v_2]) := ((fset_fr hΦ72 (ne_off (x := x) (i := 132) (j := 139) rfl)).trans h_195)
              refine z_get (ref := "FlowExporter$Collector") (C := RX0) (T := TX0) (N := 12) (ci := 2) (v := .ref (x + 139)) B hu_X0_account_X0 rfl 7 (Nat.le_of_ble_eq_true rfl) hv_X0_account_32 rfl h_199 rfl dX0_account_108 ?_
              refine z_iconst (v := 0) B dX0_account_111 rfl ?_
              refine z_lconst (v := 0) B dX0_account_112 rfl ?_
              refine z_aload_n B dX0_account_113 rfl 3 rfl ?_
              refine z_get (ref := "FlowExporter$Collector") (C := RX0) (T := TX0) (N := 12) (ci := 2) (v := .ref (x + 139)) B hu_X0_account_X0 rfl 7 (Nat.le_of_ble_eq_true rfl) hv_X0_account_32 rfl h_199 rfl dX0_account_114 ?_
              refine z_iconst (v := 0) B dX0_account_117 rfl ?_
              obtain ⟨f_42, h_200⟩ := in28 (k := 139) hI85 rfl
              have h_201 : Φ73 (x + 139) = some (al_ G 9 f_42) := h_200
              refine z_lald B h_201 (vin rfl) dX0_account_118 ?_
              refine z_fl (fun v_62 => ?_)
              refine z_iload_n B dX0_account_119 rfl 6 rfl ?_
              refine z_i2l (v := d.toInt64) B dX0_account_120 rfl ?_
              refine z_fl (fun v_63 => ?_)
              refine z_lsub B dX0_account_121 ?_
              refine z_fl (fun v_64 => ?_)
              refine z_mmaxl B (by decide +kernel) (by decide +kernel) (by decide +kernel) (by decide +kernel) ⟨Nat.le_of_ble_eq_true rfl, Nat.le_of_ble_eq_true rfl⟩ ⟨Nat.le_of_ble_eq_true rfl, Nat.le_of_ble_eq_true rfl⟩ dX0_account_122 (fun v_65 => ?_)
              refine z_last B h_201 (Nat.le_trans hx (Nat.le_add_right x 139)) (vin rfl) dX0_account_125 (fun Φ74 hΦ73 => ?_)
              have h_202 : Φ74 (x + 139) = some (al_ G 9 (vp_updL f_42 (0 : Int32).toNatClampNeg v_65)) := fset_at hΦ73
              have hI86 : In G x (ca) Φ74 := In.put (k := 139) hI85 hΦ73 (ok28 (k := 139) rfl ⟨_, rfl⟩)
              refine z_goto (tgt := 136) B dX0_account_126 rfl ?_
              refine z_aload_n B dX0_account_136 rfl 3 rfl ?_
              have h_203 : Φ74 (x + 132) = some (o_ 2 [.ref (x + 3), .ref (x + 121), .ref (x + 133), .ref (x + 134), .ref (x + 135), .ref (x + 137), .ref (x + 138), .ref (x + 139), .ref (x + 140), .int (nI n_1), .int v_1, .int v_2]) := ((fset_fr hΦ73 (ne_off (x := x) (i := 132) (j := 139) rfl)).trans h_199)
              refine z_get (ref := "FlowExporter$Collector") (C := RX0) (T := TX0) (N := 12) (ci := 2) (v := .int (nI n_1)) B hu_X0_account_X0 rfl 9 (Nat.le_of_ble_eq_true rfl) hv_X0_account_39 rfl h_203 rfl dX0_account_137 ?_
              refine z_bipush (v := 8) B dX0_account_140 rfl ?_
              refine z_irem B dX0_account_142 (by decide) ?_
              refine z_top (st1 := [.int (nI (n_1 % 8))]) (congrArg (fun w9 : Int32 => ([.int w9] : List Value)) (nI_rem8 (show n_1 < 2 ^ 31 by omega))) ?_
              refine z_istore (lv' := [(7, .int (nI (n_1 % 8))), (6, .int 1), (5, .int 0), (4, .int (nI n_6)), (0, .ref (x + 132)), (1, .int a), (2, .int b), (3, .int d)]) B dX0_account_143 (Nat.le_of_ble_eq_true rfl) rfl ?_
              refine z_aload_n B dX0_account_145 rfl 4 rfl ?_
              refine z_get (ref := "FlowExporter$Collector") (C := RX0) (T := TX0) (N := 12) (ci := 2) (v := .ref (x + 137)) B hu_X0_account_X0 rfl 5 (Nat.le_of_ble_eq_true rfl) hv_X0_account_26 rfl h_203 rfl dX0_account_146 ?_
              refine z_iload B dX0_account_149 0 rfl ?_
              refine z_iload_n B dX0_account_151 rfl 5 rfl ?_
              obtain ⟨f_43, h_204⟩ := in27 (k := 137) hI86 rfl
              have h_205 : Φ74 (x + 137) = some (ai_ G 8 f_43) := h_204
              refine z_iast B h_205 (Nat.le_trans hx (Nat.le_add_right x 137)) (vp_in_nI (by omega) (by omega)) dX0_account_152 (fun Φ75 hΦ74 => ?_)
              have h_206 : Φ75 (x + 137) = some (ai_ G 8 (upd f_43 (nI (n_1 % 8)).toNatClampNeg a)) := fset_at hΦ74
              have hI87 : In G x (ca) Φ75 := In.put (k := 137) hI86 hΦ74 (ok27 (k := 137) rfl ⟨_, rfl⟩)
              refine z_aload_n B dX0_account_153 rfl 4 rfl ?_
              have h_207 : Φ75 (x + 132) = some (o_ 2 [.ref (x + 3), .ref (x + 121), .ref (x + 133), .ref (x + 134), .ref (x + 135), .ref (x + 137), .ref (x + 138), .ref (x + 139), .ref (x + 140), .int (nI n_1), .int v_1, .int v_2]) := ((fset_fr hΦ74 (ne_off (x := x) (i := 132) (j := 137) rfl)).trans h_203)
              refine z_get (ref := "FlowExporter$Collector") (C := RX0) (T := TX0) (N := 12) (ci := 2) (v := .ref (x + 138)) B hu_X0_account_X0 rfl 6 (Nat.le_of_ble_eq_true rfl) hv_X0_account_29 rfl h_207 rfl dX0_account_154 ?_
              refine z_iload B dX0_account_157 0 rfl ?_
              refine z_iload_n B dX0_account_159 rfl 6 rfl ?_
              obtain ⟨f_44, h_208⟩ := in27 (k := 138) hI87 rfl
              have h_209 : Φ75 (x + 138) = some (ai_ G 8 f_44) := h_208
              refine z_iast B h_209 (Nat.le_trans hx (Nat.le_add_right x 138)) (vp_in_nI (by omega) (by omega)) dX0_account_160 (fun Φ76 hΦ75 => ?_)
              have h_210 : Φ76 (x + 138) = some (ai_ G 8 (upd f_44 (nI (n_1 % 8)).toNatClampNeg b)) := fset_at hΦ75
              have hI88 : In G x (ca) Φ76 := In.put (k := 138) hI87 hΦ75 (ok27 (k := 138) rfl ⟨_, rfl⟩)
              have hI89 : In G x (ca + 1) Φ76 := In.mono hI88 (by omega)
              refine z_aload_n B dX0_account_161 rfl 4 rfl ?_
              refine z_dup B dX0_account_162 rfl ?_
              have h_211 : Φ76 (x + 132) = some (o_ 2 [.ref (x + 3), .ref (x + 121), .ref (x + 133), .ref (x + 134), .ref (x + 135), .ref (x + 137), .ref (x + 138), .ref (x + 139), .ref (x + 140), .int (nI n_1), .int v_1, .int v_2]) := ((fset_fr hΦ75 (ne_off (x := x) (i := 132) (j := 138) rfl)).trans h_207)
              refine z_get (ref := "FlowExporter$Collector") (C := RX0) (T := TX0) (N := 12) (ci := 2) (v := .int (nI n_1)) B hu_X0_account_X0 rfl 9 (Nat.le_of_ble_eq_true rfl) hv_X0_account_39 rfl h_211 rfl dX0_account_163 ?_
              refine z_iconst (v := 1) B dX0_account_166 rfl ?_
              refine z_iadd B dX0_account_167 ?_
              refine z_top (st1 := [.int (nI (n_1 + 1)), .ref (x + 132)]) (congrArg (fun w9 : Int32 => ([.int w9, .ref (x + 132)] : List Value)) (nI_add n_1 1)) ?_
              refine z_put (ref := "FlowExporter$Collector") (C := RX0) (T := TX0) (N := 12) (ci := 2) (v := .int (nI (n_1 + 1))) B hu_X0_account_X0 tyX0 tyX0_ok nmX0 rfl 9 (Nat.le_of_ble_eq_true rfl) hv_X0_account_39 rfl (Or.inl rfl) h_211 (Nat.le_trans hx (Nat.le_add_right x 132)) rfl rfl (Nat.le_of_ble_eq_true rfl) dX0_account_168 (fun Φ77 hΦ76 => ?_)
              have h_212 : Φ77 (x + 132) = some (o_ 2 [.ref (x + 3), .ref (x + 121), .ref (x + 133), .ref (x + 134), .ref (x + 135), .ref (x + 137), .ref (x + 138), .ref (x + 139), .ref (x + 140), .int (nI (n_1 + 1)), .int v_1, .int v_2]) := fset_at hΦ76
              have hI90 : In G x (ca + 1) Φ77 := In.put (k := 132) hI89 hΦ76 (ok25 (k := 132) rfl ⟨n_1 + 1, v_1, v_2, rfl, (show n_1 + 1 ≤ ca + 1 by omega)⟩)
              refine z_aload_n B dX0_account_171 rfl 4 rfl ?_
              refine z_iload_n B dX0_account_172 rfl 6 rfl ?_
              refine z_put (ref := "FlowExporter$Collector") (C := RX0) (T := TX0) (N := 12) (ci := 2) (v := .int b) B hu_X0_account_X0 tyX0 tyX0_ok nmX0 rfl 10 (Nat.le_of_ble_eq_true rfl) hv_X0_account_43 rfl (Or.inl rfl) h_212 (Nat.le_trans hx (Nat.le_add_right x 132)) rfl rfl (Nat.le_of_ble_eq_true rfl) dX0_account_173 (fun Φ78 hΦ77 => ?_)
              have h_213 : Φ78 (x + 132) = some (o_ 2 [.ref (x + 3), .ref (x + 121), .ref (x + 133), .ref (x + 134), .ref (x + 135), .ref (x + 137), .ref (x + 138), .ref (x + 139), .ref (x + 140), .int (nI (n_1 + 1)), .int b, .int v_2]) := fset_at hΦ77
              have hI91 : In G x (ca + 1) Φ78 := In.put (k := 132) hI90 hΦ77 (ok25 (k := 132) rfl ⟨n_1 + 1, b, v_2, rfl, (show n_1 + 1 ≤ ca + 1 by omega)⟩)
              exact z_ret_v B dX0_account_176 ⟨rfl, rfl, hI91, (fun b9 h9 => ((fset_fr hΦ77 (fun h8 => h9 (132) h8 (show 132 ≤ 132 ∧ 132 < 140 by decide))).trans ((fset_fr hΦ76 (fun h8 => h9 (132) h8 (show 132 ≤ 132 ∧ 132 < 140 by decide))).trans ((fset_fr hΦ75 (fun h8 => h9 (138) h8 (show 132 ≤ 138 ∧ 138 < 140 by decide))).trans ((fset_fr hΦ74 (fun h8 => h9 (137) h8 (show 132 ≤ 137 ∧ 137 < 140 by decide))).trans ((fset_fr hΦ73 (fun h8 => h9 (139) h8 (show 132 ≤ 139 ∧ 139 < 140 by decide))).trans ((fset_fr hΦ72 (fun h8 => h9 (139) h8 (show 132 ≤ 139 ∧ 139 < 140 by decide))).trans ((fset_fr hΦ71 (fun h8 => h9 (139) h8 (show 132 ≤ 139 ∧ 139 < 140 by decide))).trans ((hF1 b9 (fun j9 h8 h7 => (show False from h7).elim)).trans rfl)))))))))⟩
        · refine z_iconst (v := 1) B dX0_account_36 rfl ?_
          refine z_goto (tgt := 41) B dX0_account_37 rfl ?_
          refine z_istore (lv' := [(5, .int 1), (4, .int v_5), (0, .ref (x + 132)), (1, .int a), (2, .int b), (3, .int d)]) B dX0_account_41 (Nat.le_of_ble_eq_true rfl) rfl ?_
          refine z_iload B dX0_account_43 1 rfl ?_
          refine z_if_ge (tgt := 57) B dX0_account_45 rfl (fun c_46 => ?_) (fun c_46 => ?_)
          · obtain ⟨n_7, e_18, rfl⟩ := nI_of (Int32.not_lt.mpr c_46)
            refine z_iconst (v := 0) B dX0_account_57 rfl ?_
            refine z_istore (lv' := [(6, .int 0), (5, .int 1), (4, .int (nI n_7)), (0, .ref (x + 132)), (1, .int a), (2, .int b), (3, .int d)]) B dX0_account_58 (Nat.le_of_ble_eq_true rfl) rfl ?_
            refine z_iload B dX0_account_60 2 rfl ?_
            refine z_if_le (tgt := 77) B dX0_account_62 rfl (fun c_47 => ?_) (fun c_47 => ?_)
            · have e_19 : n_7 ≤ 0 := (nI_leI (a := n_7) (b := 0) (by omega) (by omega)).mp c_47
              refine z_iload B dX0_account_77 1 rfl ?_
              refine z_if_eq (tgt := 92) B dX0_account_79 rfl (fun h9 => absurd h9 (by decide)) (fun c_48 => ?_)
              refine z_aload_n B dX0_account_82 rfl 3 rfl ?_
              refine z_get (ref := "FlowExporter$Collector") (C := RX0) (T := TX0) (N := 12) (ci := 2) (v := .ref (x + 139)) B hu_X0_account_X0 rfl 7 (Nat.le_of_ble_eq_true rfl) hv_X0_account_32 rfl h_15 rfl dX0_account_83 ?_
              refine z_iconst (v := 5) B dX0_account_86 rfl ?_
              refine z_dup2_11 B dX0_account_87 rfl rfl ?_
              obtain ⟨f_45, h_214⟩ := in28 (k := 139) hI1 rfl
              have h_215 : Φ1 (x + 139) = some (al_ G 9 f_45) := h_214
              refine z_lald B h_215 (vin rfl) dX0_account_88 ?_
              refine z_fl (fun v_66 => ?_)
              refine z_lconst (v := 1) B dX0_account_89 rfl ?_
              refine z_ladd B dX0_account_90 ?_
              refine z_fl (fun v_67 => ?_)
              refine z_last B h_215 (Nat.le_trans hx (Nat.le_add_right x 139)) (vin rfl) dX0_account_91 (fun Φ79 hΦ78 => ?_)
              have h_216 : Φ79 (x + 139) = some (al_ G 9 (vp_updL f_45 (5 : Int32).toNatClampNeg v_67)) := fset_at hΦ78
              have hI92 : In G x (ca) Φ79 := In.put (k := 139) hI1 hΦ78 (ok28 (k := 139) rfl ⟨_, rfl⟩)
              refine z_iload B dX0_account_92 0 rfl ?_
              refine z_if_eq (tgt := 129) B dX0_account_94 rfl (fun c_49 => ?_) (fun h9 => absurd (by decide) h9)
              refine z_aload_n B dX0_account_129 rfl 3 rfl ?_
              refine z_iload_n B dX0_account_130 rfl 4 rfl ?_
              refine z_iload_n B dX0_account_131 rfl 6 rfl ?_
              refine z_iadd B dX0_account_132 ?_
              refine z_fi (fun v_68 => ?_)
              have h_217 : Φ79 (x + 132) = some (o_ 2 [.ref (x + 3), .ref (x + 121), .ref (x + 133), .ref (x + 134), .ref (x + 135), .ref (x + 137), .ref (x + 138), .ref (x + 139), .ref (x + 140), .int (nI n_1), .int v_1, .int v_2]) := ((fset_fr hΦ78 (ne_off (x := x) (i := 132) (j := 139) rfl)).trans h_15)
              refine z_put (ref := "FlowExporter$Collector") (C := RX0) (T := TX0) (N := 12) (ci := 2) (v := .int v_68) B hu_X0_account_X0 tyX0 tyX0_ok nmX0 rfl 11 (Nat.le_of_ble_eq_true rfl) hv_X0_account_46 rfl (Or.inl rfl) h_217 (Nat.le_trans hx (Nat.le_add_right x 132)) rfl rfl (Nat.le_of_ble_eq_true rfl) dX0_account_133 (fun Φ80 hΦ79 => ?_)
              have h_218 : Φ80 (x + 132) = some (o_ 2 [.ref (x + 3), .ref (x + 121), .ref (x + 133), .ref (x + 134), .ref (x + 135), .ref (x + 137), .ref (x + 138), .ref (x + 139), .ref (x + 140), .int (nI n_1), .int v_1, .int v_68]) := fset_at hΦ79
              have hI93 : In G x (ca) Φ80 := In.put (k := 132) hI92 hΦ79 (ok25 (k := 132) rfl ⟨n_1, v_1, v_68, rfl, (show n_1 ≤ ca by omega)⟩)
              refine z_aload_n B dX0_account_136 rfl 3 rfl ?_
              refine z_get (ref := "FlowExporter$Collector") (C := RX0) (T := TX0) (N := 12) (ci := 2) (v := .int (nI n_1)) B hu_X0_account_X0 rfl 9 (Nat.le_of_ble_eq_true rfl) hv_X0_account_39 rfl h_218 rfl dX0_account_137 ?_
              refine z_bipush (v := 8) B dX0_account_140 rfl ?_
              refine z_irem B dX0_account_142 (by decide) ?_
              refine z_top (st1 := [.int (nI (n_1 % 8))]) (congrArg (fun w9 : Int32 => ([.int w9] : List Value)) (nI_rem8 (show n_1 < 2 ^ 31 by omega))) ?_
              refine z_istore (lv' := [(7, .int (nI (n_1 % 8))), (6, .int 0), (5, .int 1), (4, .int (nI n_7)), (0, .ref (x + 132)), (1, .int a), (2, .int b), (3, .int d)]) B dX0_account_143 (Nat.le_of_ble_eq_true rfl) rfl ?_
              refine z_aload_n B dX0_account_145 rfl 4 rfl ?_
              refine z_get (ref := "FlowExporter$Collector") (C := RX0) (T := TX0) (N := 12) (ci := 2) (v := .ref (x + 137)) B hu_X0_account_X0 rfl 5 (Nat.le_of_ble_eq_true rfl) hv_X0_account_26 rfl h_218 rfl dX0_account_146 ?_
              refine z_iload B dX0_account_149 0 rfl ?_
              refine z_iload_n B dX0_account_151 rfl 5 rfl ?_
              obtain ⟨f_46, h_219⟩ := in27 (k := 137) hI93 rfl
              have h_220 : Φ80 (x + 137) = some (ai_ G 8 f_46) := h_219
              refine z_iast B h_220 (Nat.le_trans hx (Nat.le_add_right x 137)) (vp_in_nI (by omega) (by omega)) dX0_account_152 (fun Φ81 hΦ80 => ?_)
              have h_221 : Φ81 (x + 137) = some (ai_ G 8 (upd f_46 (nI (n_1 % 8)).toNatClampNeg a)) := fset_at hΦ80
              have hI94 : In G x (ca) Φ81 := In.put (k := 137) hI93 hΦ80 (ok27 (k := 137) rfl ⟨_, rfl⟩)
              refine z_aload_n B dX0_account_153 rfl 4 rfl ?_
              have h_222 : Φ81 (x + 132) = some (o_ 2 [.ref (x + 3), .ref (x + 121), .ref (x + 133), .ref (x + 134), .ref (x + 135), .ref (x + 137), .ref (x + 138), .ref (x + 139), .ref (x + 140), .int (nI n_1), .int v_1, .int v_68]) := ((fset_fr hΦ80 (ne_off (x := x) (i := 132) (j := 137) rfl)).trans h_218)
              refine z_get (ref := "FlowExporter$Collector") (C := RX0) (T := TX0) (N := 12) (ci := 2) (v := .ref (x + 138)) B hu_X0_account_X0 rfl 6 (Nat.le_of_ble_eq_true rfl) hv_X0_account_29 rfl h_222 rfl dX0_account_154 ?_
              refine z_iload B dX0_account_157 0 rfl ?_
              refine z_iload_n B dX0_account_159 rfl 6 rfl ?_
              obtain ⟨f_47, h_223⟩ := in27 (k := 138) hI94 rfl
              have h_224 : Φ81 (x + 138) = some (ai_ G 8 f_47) := h_223
              refine z_iast B h_224 (Nat.le_trans hx (Nat.le_add_right x 138)) (vp_in_nI (by omega) (by omega)) dX0_account_160 (fun Φ82 hΦ81 => ?_)
              have h_225 : Φ82 (x + 138) = some (ai_ G 8 (upd f_47 (nI (n_1 % 8)).toNatClampNeg b)) := fset_at hΦ81
              have hI95 : In G x (ca) Φ82 := In.put (k := 138) hI94 hΦ81 (ok27 (k := 138) rfl ⟨_, rfl⟩)
              have hI96 : In G x (ca + 1) Φ82 := In.mono hI95 (by omega)
              refine z_aload_n B dX0_account_161 rfl 4 rfl ?_
              refine z_dup B dX0_account_162 rfl ?_
              have h_226 : Φ82 (x + 132) = some (o_ 2 [.ref (x + 3), .ref (x + 121), .ref (x + 133), .ref (x + 134), .ref (x + 135), .ref (x + 137), .ref (x + 138), .ref (x + 139), .ref (x + 140), .int (nI n_1), .int v_1, .int v_68]) := ((fset_fr hΦ81 (ne_off (x := x) (i := 132) (j := 138) rfl)).trans h_222)
              refine z_get (ref := "FlowExporter$Collector") (C := RX0) (T := TX0) (N := 12) (ci := 2) (v := .int (nI n_1)) B hu_X0_account_X0 rfl 9 (Nat.le_of_ble_eq_true rfl) hv_X0_account_39 rfl h_226 rfl dX0_account_163 ?_
              refine z_iconst (v := 1) B dX0_account_166 rfl ?_
              refine z_iadd B dX0_account_167 ?_
              refine z_top (st1 := [.int (nI (n_1 + 1)), .ref (x + 132)]) (congrArg (fun w9 : Int32 => ([.int w9, .ref (x + 132)] : List Value)) (nI_add n_1 1)) ?_
              refine z_put (ref := "FlowExporter$Collector") (C := RX0) (T := TX0) (N := 12) (ci := 2) (v := .int (nI (n_1 + 1))) B hu_X0_account_X0 tyX0 tyX0_ok nmX0 rfl 9 (Nat.le_of_ble_eq_true rfl) hv_X0_account_39 rfl (Or.inl rfl) h_226 (Nat.le_trans hx (Nat.le_add_right x 132)) rfl rfl (Nat.le_of_ble_eq_true rfl) dX0_account_168 (fun Φ83 hΦ82 => ?_)
              have h_227 : Φ83 (x + 132) = some (o_ 2 [.ref (x + 3), .ref (x + 121), .ref (x + 133), .ref (x + 134), .ref (x + 135), .ref (x + 137), .ref (x + 138), .ref (x + 139), .ref (x + 140), .int (nI (n_1 + 1)), .int v_1, .int v_68]) := fset_at hΦ82
              have hI97 : In G x (ca + 1) Φ83 := In.put (k := 132) hI96 hΦ82 (ok25 (k := 132) rfl ⟨n_1 + 1, v_1, v_68, rfl, (show n_1 + 1 ≤ ca + 1 by omega)⟩)
              refine z_aload_n B dX0_account_171 rfl 4 rfl ?_
              refine z_iload_n B dX0_account_172 rfl 6 rfl ?_
              refine z_put (ref := "FlowExporter$Collector") (C := RX0) (T := TX0) (N := 12) (ci := 2) (v := .int b) B hu_X0_account_X0 tyX0 tyX0_ok nmX0 rfl 10 (Nat.le_of_ble_eq_true rfl) hv_X0_account_43 rfl (Or.inl rfl) h_227 (Nat.le_trans hx (Nat.le_add_right x 132)) rfl rfl (Nat.le_of_ble_eq_true rfl) dX0_account_173 (fun Φ84 hΦ83 => ?_)
              have h_228 : Φ84 (x + 132) = some (o_ 2 [.ref (x + 3), .ref (x + 121), .ref (x + 133), .ref (x + 134), .ref (x + 135), .ref (x + 137), .ref (x + 138), .ref (x + 139), .ref (x + 140), .int (nI (n_1 + 1)), .int b, .int v_68]) := fset_at hΦ83
              have hI98 : In G x (ca + 1) Φ84 := In.put (k := 132) hI97 hΦ83 (ok25 (k := 132) rfl ⟨n_1 + 1, b, v_68, rfl, (show n_1 + 1 ≤ ca + 1 by omega)⟩)
              exact z_ret_v B dX0_account_176 ⟨rfl, rfl, hI98, (fun b9 h9 => ((fset_fr hΦ83 (fun h8 => h9 (132) h8 (show 132 ≤ 132 ∧ 132 < 140 by decide))).trans ((fset_fr hΦ82 (fun h8 => h9 (132) h8 (show 132 ≤ 132 ∧ 132 < 140 by decide))).trans ((fset_fr hΦ81 (fun h8 => h9 (138) h8 (show 132 ≤ 138 ∧ 138 < 140 by decide))).trans ((fset_fr hΦ80 (fun h8 => h9 (137) h8 (show 132 ≤ 137 ∧ 137 < 140 by decide))).trans ((fset_fr hΦ79 (fun h8 => h9 (132) h8 (show 132 ≤ 132 ∧ 132 < 140 by decide))).trans ((fset_fr hΦ78 (fun h8 => h9 (139) h8 (show 132 ≤ 139 ∧ 139 < 140 by decide))).trans ((hF1 b9 (fun j9 h8 h7 => (show False from h7).elim)).trans rfl))))))))⟩
            · have e_20 : ¬ (n_7 ≤ 0) := fun h9 => c_47 ((nI_leI (a := n_7) (b := 0) (by omega) (by omega)).mpr h9)
              refine z_aload_n B dX0_account_65 rfl 3 rfl ?_
              refine z_get (ref := "FlowExporter$Collector") (C := RX0) (T := TX0) (N := 12) (ci := 2) (v := .ref (x + 139)) B hu_X0_account_X0 rfl 7 (Nat.le_of_ble_eq_true rfl) hv_X0_account_32 rfl h_15 rfl dX0_account_66 ?_
              refine z_iconst (v := 0) B dX0_account_69 rfl ?_
              refine z_dup2_11 B dX0_account_70 rfl rfl ?_
              obtain ⟨f_48, h_229⟩ := in28 (k := 139) hI1 rfl
              have h_230 : Φ1 (x + 139) = some (al_ G 9 f_48) := h_229
              refine z_lald B h_230 (vin rfl) dX0_account_71 ?_
              refine z_fl (fun v_69 => ?_)
              refine z_iload B dX0_account_72 2 rfl ?_
              refine z_i2l (v := (nI n_7).toInt64) B dX0_account_74 rfl ?_
              refine z_fl (fun v_70 => ?_)
              refine z_ladd B dX0_account_75 ?_
              refine z_fl (fun v_71 => ?_)
              refine z_last B h_230 (Nat.le_trans hx (Nat.le_add_right x 139)) (vin rfl) dX0_account_76 (fun Φ85 hΦ84 => ?_)
              have h_231 : Φ85 (x + 139) = some (al_ G 9 (vp_updL f_48 (0 : Int32).toNatClampNeg v_71)) := fset_at hΦ84
              have hI99 : In G x (ca) Φ85 := In.put (k := 139) hI1 hΦ84 (ok28 (k := 139) rfl ⟨_, rfl⟩)
              refine z_iload B dX0_account_77 1 rfl ?_
              refine z_if_eq (tgt := 92) B dX0_account_79 rfl (fun h9 => absurd h9 (by decide)) (fun c_50 => ?_)
              refine z_aload_n B dX0_account_82 rfl 3 rfl ?_
              have h_232 : Φ85 (x + 132) = some (o_ 2 [.ref (x + 3), .ref (x + 121), .ref (x + 133), .ref (x + 134), .ref (x + 135), .ref (x + 137), .ref (x + 138), .ref (x + 139), .ref (x + 140), .int (nI n_1), .int v_1, .int v_2]) := ((fset_fr hΦ84 (ne_off (x := x) (i := 132) (j := 139) rfl)).trans h_15)
              refine z_get (ref := "FlowExporter$Collector") (C := RX0) (T := TX0) (N := 12) (ci := 2) (v := .ref (x + 139)) B hu_X0_account_X0 rfl 7 (Nat.le_of_ble_eq_true rfl) hv_X0_account_32 rfl h_232 rfl dX0_account_83 ?_
              refine z_iconst (v := 5) B dX0_account_86 rfl ?_
              refine z_dup2_11 B dX0_account_87 rfl rfl ?_
              obtain ⟨f_49, h_233⟩ := in28 (k := 139) hI99 rfl
              have h_234 : Φ85 (x + 139) = some (al_ G 9 f_49) := h_233
              refine z_lald B h_234 (vin rfl) dX0_account_88 ?_
              refine z_fl (fun v_72 => ?_)
              refine z_lconst (v := 1) B dX0_account_89 rfl ?_
              refine z_ladd B dX0_account_90 ?_
              refine z_fl (fun v_73 => ?_)
              refine z_last B h_234 (Nat.le_trans hx (Nat.le_add_right x 139)) (vin rfl) dX0_account_91 (fun Φ86 hΦ85 => ?_)
              have h_235 : Φ86 (x + 139) = some (al_ G 9 (vp_updL f_49 (5 : Int32).toNatClampNeg v_73)) := fset_at hΦ85
              have hI100 : In G x (ca) Φ86 := In.put (k := 139) hI99 hΦ85 (ok28 (k := 139) rfl ⟨_, rfl⟩)
              refine z_iload B dX0_account_92 0 rfl ?_
              refine z_if_eq (tgt := 129) B dX0_account_94 rfl (fun c_51 => ?_) (fun h9 => absurd (by decide) h9)
              refine z_aload_n B dX0_account_129 rfl 3 rfl ?_
              refine z_iload_n B dX0_account_130 rfl 4 rfl ?_
              refine z_iload_n B dX0_account_131 rfl 6 rfl ?_
              refine z_iadd B dX0_account_132 ?_
              refine z_fi (fun v_74 => ?_)
              have h_236 : Φ86 (x + 132) = some (o_ 2 [.ref (x + 3), .ref (x + 121), .ref (x + 133), .ref (x + 134), .ref (x + 135), .ref (x + 137), .ref (x + 138), .ref (x + 139), .ref (x + 140), .int (nI n_1), .int v_1, .int v_2]) := ((fset_fr hΦ85 (ne_off (x := x) (i := 132) (j := 139) rfl)).trans h_232)
              refine z_put (ref := "FlowExporter$Collector") (C := RX0) (T := TX0) (N := 12) (ci := 2) (v := .int v_74) B hu_X0_account_X0 tyX0 tyX0_ok nmX0 rfl 11 (Nat.le_of_ble_eq_true rfl) hv_X0_account_46 rfl (Or.inl rfl) h_236 (Nat.le_trans hx (Nat.le_add_right x 132)) rfl rfl (Nat.le_of_ble_eq_true rfl) dX0_account_133 (fun Φ87 hΦ86 => ?_)
              have h_237 : Φ87 (x + 132) = some (o_ 2 [.ref (x + 3), .ref (x + 121), .ref (x + 133), .ref (x + 134), .ref (x + 135), .ref (x + 137), .ref (x + 138), .ref (x + 139), .ref (x + 140), .int (nI n_1), .int v_1, .int v_74]) := fset_at hΦ86
              have hI101 : In G x (ca) Φ87 := In.put (k := 132) hI100 hΦ86 (ok25 (k := 132) rfl ⟨n_1, v_1, v_74, rfl, (show n_1 ≤ ca by omega)⟩)
              refine z_aload_n B dX0_account_136 rfl 3 rfl ?_
              refine z_get (ref := "FlowExporter$Collector") (C := RX0) (T := TX0) (N := 12) (ci := 2) (v := .int (nI n_1)) B hu_X0_account_X0 rfl 9 (Nat.le_of_ble_eq_true rfl) hv_X0_account_39 rfl h_237 rfl dX0_account_137 ?_
              refine z_bipush (v := 8) B dX0_account_140 rfl ?_
              refine z_irem B dX0_account_142 (by decide) ?_
              refine z_top (st1 := [.int (nI (n_1 % 8))]) (congrArg (fun w9 : Int32 => ([.int w9] : List Value)) (nI_rem8 (show n_1 < 2 ^ 31 by omega))) ?_
              refine z_istore (lv' := [(7, .int (nI (n_1 % 8))), (6, .int 0), (5, .int 1), (4, .int (nI n_7)), (0, .ref (x + 132)), (1, .int a), (2, .int b), (3, .int d)]) B dX0_account_143 (Nat.le_of_ble_eq_true rfl) rfl ?_
              refine z_aload_n B dX0_account_145 rfl 4 rfl ?_
              refine z_get (ref := "FlowExporter$Collector") (C := RX0) (T := TX0) (N := 12) (ci := 2) (v := .ref (x + 137)) B hu_X0_account_X0 rfl 5 (Nat.le_of_ble_eq_true rfl) hv_X0_account_26 rfl h_237 rfl dX0_account_146 ?_
              refine z_iload B dX0_account_149 0 rfl ?_
              refine z_iload_n B dX0_account_151 rfl 5 rfl ?_
              obtain ⟨f_50, h_238⟩ := in27 (k := 137) hI101 rfl
              have h_239 : Φ87 (x + 137) = some (ai_ G 8 f_50) := h_238
              refine z_iast B h_239 (Nat.le_trans hx (Nat.le_add_right x 137)) (vp_in_nI (by omega) (by omega)) dX0_account_152 (fun Φ88 hΦ87 => ?_)
              have h_240 : Φ88 (x + 137) = some (ai_ G 8 (upd f_50 (nI (n_1 % 8)).toNatClampNeg a)) := fset_at hΦ87
              have hI102 : In G x (ca) Φ88 := In.put (k := 137) hI101 hΦ87 (ok27 (k := 137) rfl ⟨_, rfl⟩)
              refine z_aload_n B dX0_account_153 rfl 4 rfl ?_
              have h_241 : Φ88 (x + 132) = some (o_ 2 [.ref (x + 3), .ref (x + 121), .ref (x + 133), .ref (x + 134), .ref (x + 135), .ref (x + 137), .ref (x + 138), .ref (x + 139), .ref (x + 140), .int (nI n_1), .int v_1, .int v_74]) := ((fset_fr hΦ87 (ne_off (x := x) (i := 132) (j := 137) rfl)).trans h_237)
              refine z_get (ref := "FlowExporter$Collector") (C := RX0) (T := TX0) (N := 12) (ci := 2) (v := .ref (x + 138)) B hu_X0_account_X0 rfl 6 (Nat.le_of_ble_eq_true rfl) hv_X0_account_29 rfl h_241 rfl dX0_account_154 ?_
              refine z_iload B dX0_account_157 0 rfl ?_
              refine z_iload_n B dX0_account_159 rfl 6 rfl ?_
              obtain ⟨f_51, h_242⟩ := in27 (k := 138) hI102 rfl
              have h_243 : Φ88 (x + 138) = some (ai_ G 8 f_51) := h_242
              refine z_iast B h_243 (Nat.le_trans hx (Nat.le_add_right x 138)) (vp_in_nI (by omega) (by omega)) dX0_account_160 (fun Φ89 hΦ88 => ?_)
              have h_244 : Φ89 (x + 138) = some (ai_ G 8 (upd f_51 (nI (n_1 % 8)).toNatClampNeg b)) := fset_at hΦ88
              have hI103 : In G x (ca) Φ89 := In.put (k := 138) hI102 hΦ88 (ok27 (k := 138) rfl ⟨_, rfl⟩)
              have hI104 : In G x (ca + 1) Φ89 := In.mono hI103 (by omega)
              refine z_aload_n B dX0_account_161 rfl 4 rfl ?_
              refine z_dup B dX0_account_162 rfl ?_
              have h_245 : Φ89 (x + 132) = some (o_ 2 [.ref (x + 3), .ref (x + 121), .ref (x + 133), .ref (x + 134), .ref (x + 135), .ref (x + 137), .ref (x + 138), .ref (x + 139), .ref (x + 140), .int (nI n_1), .int v_1, .int v_74]) := ((fset_fr hΦ88 (ne_off (x := x) (i := 132) (j := 138) rfl)).trans h_241)
              refine z_get (ref := "FlowExporter$Collector") (C := RX0) (T := TX0) (N := 12) (ci := 2) (v := .int (nI n_1)) B hu_X0_account_X0 rfl 9 (Nat.le_of_ble_eq_true rfl) hv_X0_account_39 rfl h_245 rfl dX0_account_163 ?_
              refine z_iconst (v := 1) B dX0_account_166 rfl ?_
              refine z_iadd B dX0_account_167 ?_
              refine z_top (st1 := [.int (nI (n_1 + 1)), .ref (x + 132)]) (congrArg (fun w9 : Int32 => ([.int w9, .ref (x + 132)] : List Value)) (nI_add n_1 1)) ?_
              refine z_put (ref := "FlowExporter$Collector") (C := RX0) (T := TX0) (N := 12) (ci := 2) (v := .int (nI (n_1 + 1))) B hu_X0_account_X0 tyX0 tyX0_ok nmX0 rfl 9 (Nat.le_of_ble_eq_true rfl) hv_X0_account_39 rfl (Or.inl rfl) h_245 (Nat.le_trans hx (Nat.le_add_right x 132)) rfl rfl (Nat.le_of_ble_eq_true rfl) dX0_account_168 (fun Φ90 hΦ89 => ?_)
              have h_246 : Φ90 (x + 132) = some (o_ 2 [.ref (x + 3), .ref (x + 121), .ref (x + 133), .ref (x + 134), .ref (x + 135), .ref (x + 137), .ref (x + 138), .ref (x + 139), .ref (x + 140), .int (nI (n_1 + 1)), .int v_1, .int v_74]) := fset_at hΦ89
              have hI105 : In G x (ca + 1) Φ90 := In.put (k := 132) hI104 hΦ89 (ok25 (k := 132) rfl ⟨n_1 + 1, v_1, v_74, rfl, (show n_1 + 1 ≤ ca + 1 by omega)⟩)
              refine z_aload_n B dX0_account_171 rfl 4 rfl ?_
              refine z_iload_n B dX0_account_172 rfl 6 rfl ?_
              refine z_put (ref := "FlowExporter$Collector") (C := RX0) (T := TX0) (N := 12) (ci := 2) (v := .int b) B hu_X0_account_X0 tyX0 tyX0_ok nmX0 rfl 10 (Nat.le_of_ble_eq_true rfl) hv_X0_account_43 rfl (Or.inl rfl) h_246 (Nat.le_trans hx (Nat.le_add_right x 132)) rfl rfl (Nat.le_of_ble_eq_true rfl) dX0_account_173 (fun Φ91 hΦ90 => ?_)
              have h_247 : Φ91 (x + 132) = some (o_ 2 [.ref (x + 3), .ref (x + 121), .ref (x + 133), .ref (x + 134), .ref (x + 135), .ref (x + 137), .ref (x + 138), .ref (x + 139), .ref (x + 140), .int (nI (n_1 + 1)), .int b, .int v_74]) := fset_at hΦ90
              have hI106 : In G x (ca + 1) Φ91 := In.put (k := 132) hI105 hΦ90 (ok25 (k := 132) rfl ⟨n_1 + 1, b, v_74, rfl, (show n_1 + 1 ≤ ca + 1 by omega)⟩)
              exact z_ret_v B dX0_account_176 ⟨rfl, rfl, hI106, (fun b9 h9 => ((fset_fr hΦ90 (fun h8 => h9 (132) h8 (show 132 ≤ 132 ∧ 132 < 140 by decide))).trans ((fset_fr hΦ89 (fun h8 => h9 (132) h8 (show 132 ≤ 132 ∧ 132 < 140 by decide))).trans ((fset_fr hΦ88 (fun h8 => h9 (138) h8 (show 132 ≤ 138 ∧ 138 < 140 by decide))).trans ((fset_fr hΦ87 (fun h8 => h9 (137) h8 (show 132 ≤ 137 ∧ 137 < 140 by decide))).trans ((fset_fr hΦ86 (fun h8 => h9 (132) h8 (show 132 ≤ 132 ∧ 132 < 140 by decide))).trans ((fset_fr hΦ85 (fun h8 => h9 (139) h8 (show 132 ≤ 139 ∧ 139 < 140 by decide))).trans ((fset_fr hΦ84 (fun h8 => h9 (139) h8 (show 132 ≤ 139 ∧ 139 < 140 by decide))).trans ((hF1 b9 (fun j9 h8 h7 => (show False from h7).elim)).trans rfl)))))))))⟩
          · refine z_iload B dX0_account_48 0 rfl ?_
            refine z_if_ne (tgt := 57) B dX0_account_50 rfl (fun c_52 => ?_) (fun h9 => absurd h9 (by decide))
            refine z_iconst (v := 0) B dX0_account_57 rfl ?_
            refine z_istore (lv' := [(6, .int 0), (5, .int 1), (4, .int v_5), (0, .ref (x + 132)), (1, .int a), (2, .int b), (3, .int d)]) B dX0_account_58 (Nat.le_of_ble_eq_true rfl) rfl ?_
            refine z_iload B dX0_account_60 2 rfl ?_
            refine z_if_le (tgt := 77) B dX0_account_62 rfl (fun c_53 => ?_) (fun c_53 => ?_)
            · refine z_iload B dX0_account_77 1 rfl ?_
              refine z_if_eq (tgt := 92) B dX0_account_79 rfl (fun h9 => absurd h9 (by decide)) (fun c_54 => ?_)
              refine z_aload_n B dX0_account_82 rfl 3 rfl ?_
              refine z_get (ref := "FlowExporter$Collector") (C := RX0) (T := TX0) (N := 12) (ci := 2) (v := .ref (x + 139)) B hu_X0_account_X0 rfl 7 (Nat.le_of_ble_eq_true rfl) hv_X0_account_32 rfl h_15 rfl dX0_account_83 ?_
              refine z_iconst (v := 5) B dX0_account_86 rfl ?_
              refine z_dup2_11 B dX0_account_87 rfl rfl ?_
              obtain ⟨f_52, h_248⟩ := in28 (k := 139) hI1 rfl
              have h_249 : Φ1 (x + 139) = some (al_ G 9 f_52) := h_248
              refine z_lald B h_249 (vin rfl) dX0_account_88 ?_
              refine z_fl (fun v_75 => ?_)
              refine z_lconst (v := 1) B dX0_account_89 rfl ?_
              refine z_ladd B dX0_account_90 ?_
              refine z_fl (fun v_76 => ?_)
              refine z_last B h_249 (Nat.le_trans hx (Nat.le_add_right x 139)) (vin rfl) dX0_account_91 (fun Φ92 hΦ91 => ?_)
              have h_250 : Φ92 (x + 139) = some (al_ G 9 (vp_updL f_52 (5 : Int32).toNatClampNeg v_76)) := fset_at hΦ91
              have hI107 : In G x (ca) Φ92 := In.put (k := 139) hI1 hΦ91 (ok28 (k := 139) rfl ⟨_, rfl⟩)
              refine z_iload B dX0_account_92 0 rfl ?_
              refine z_if_eq (tgt := 129) B dX0_account_94 rfl (fun c_55 => ?_) (fun h9 => absurd (by decide) h9)
              refine z_aload_n B dX0_account_129 rfl 3 rfl ?_
              refine z_iload_n B dX0_account_130 rfl 4 rfl ?_
              refine z_iload_n B dX0_account_131 rfl 6 rfl ?_
              refine z_iadd B dX0_account_132 ?_
              refine z_fi (fun v_77 => ?_)
              have h_251 : Φ92 (x + 132) = some (o_ 2 [.ref (x + 3), .ref (x + 121), .ref (x + 133), .ref (x + 134), .ref (x + 135), .ref (x + 137), .ref (x + 138), .ref (x + 139), .ref (x + 140), .int (nI n_1), .int v_1, .int v_2]) := ((fset_fr hΦ91 (ne_off (x := x) (i := 132) (j := 139) rfl)).trans h_15)
              refine z_put (ref := "FlowExporter$Collector") (C := RX0) (T := TX0) (N := 12) (ci := 2) (v := .int v_77) B hu_X0_account_X0 tyX0 tyX0_ok nmX0 rfl 11 (Nat.le_of_ble_eq_true rfl) hv_X0_account_46 rfl (Or.inl rfl) h_251 (Nat.le_trans hx (Nat.le_add_right x 132)) rfl rfl (Nat.le_of_ble_eq_true rfl) dX0_account_133 (fun Φ93 hΦ92 => ?_)
              have h_252 : Φ93 (x + 132) = some (o_ 2 [.ref (x + 3), .ref (x + 121), .ref (x + 133), .ref (x + 134), .ref (x + 135), .ref (x + 137), .ref (x + 138), .ref (x + 139), .ref (x + 140), .int (nI n_1), .int v_1, .int v_77]) := fset_at hΦ92
              have hI108 : In G x (ca) Φ93 := In.put (k := 132) hI107 hΦ92 (ok25 (k := 132) rfl ⟨n_1, v_1, v_77, rfl, (show n_1 ≤ ca by omega)⟩)
              refine z_aload_n B dX0_account_136 rfl 3 rfl ?_
              refine z_get (ref := "FlowExporter$Collector") (C := RX0) (T := TX0) (N := 12) (ci := 2) (v := .int (nI n_1)) B hu_X0_account_X0 rfl 9 (Nat.le_of_ble_eq_true rfl) hv_X0_account_39 rfl h_252 rfl dX0_account_137 ?_
              refine z_bipush (v := 8) B dX0_account_140 rfl ?_
              refine z_irem B dX0_account_142 (by decide) ?_
              refine z_top (st1 := [.int (nI (n_1 % 8))]) (congrArg (fun w9 : Int32 => ([.int w9] : List Value)) (nI_rem8 (show n_1 < 2 ^ 31 by omega))) ?_
              refine z_istore (lv' := [(7, .int (nI (n_1 % 8))), (6, .int 0), (5, .int 1), (4, .int v_5), (0, .ref (x + 132)), (1, .int a), (2, .int b), (3, .int d)]) B dX0_account_143 (Nat.le_of_ble_eq_true rfl) rfl ?_
              refine z_aload_n B dX0_account_145 rfl 4 rfl ?_
              refine z_get (ref := "FlowExporter$Collector") (C := RX0) (T := TX0) (N := 12) (ci := 2) (v := .ref (x + 137)) B hu_X0_account_X0 rfl 5 (Nat.le_of_ble_eq_true rfl) hv_X0_account_26 rfl h_252 rfl dX0_account_146 ?_
              refine z_iload B dX0_account_149 0 rfl ?_
              refine z_iload_n B dX0_account_151 rfl 5 rfl ?_
              obtain ⟨f_53, h_253⟩ := in27 (k := 137) hI108 rfl
              have h_254 : Φ93 (x + 137) = some (ai_ G 8 f_53) := h_253
              refine z_iast B h_254 (Nat.le_trans hx (Nat.le_add_right x 137)) (vp_in_nI (by omega) (by omega)) dX0_account_152 (fun Φ94 hΦ93 => ?_)
              have h_255 : Φ94 (x + 137) = some (ai_ G 8 (upd f_53 (nI (n_1 % 8)).toNatClampNeg a)) := fset_at hΦ93
              have hI109 : In G x (ca) Φ94 := In.put (k := 137) hI108 hΦ93 (ok27 (k := 137) rfl ⟨_, rfl⟩)
              refine z_aload_n B dX0_account_153 rfl 4 rfl ?_
              have h_256 : Φ94 (x + 132) = some (o_ 2 [.ref (x + 3), .ref (x + 121), .ref (x + 133), .ref (x + 134), .ref (x + 135), .ref (x + 137), .ref (x + 138), .ref (x + 139), .ref (x + 140), .int (nI n_1), .int v_1, .int v_77]) := ((fset_fr hΦ93 (ne_off (x := x) (i := 132) (j := 137) rfl)).trans h_252)
              refine z_get (ref := "FlowExporter$Collector") (C := RX0) (T := TX0) (N := 12) (ci := 2) (v := .ref (x + 138)) B hu_X0_account_X0 rfl 6 (Nat.le_of_ble_eq_true rfl) hv_X0_account_29 rfl h_256 rfl dX0_account_154 ?_
              refine z_iload B dX0_account_157 0 rfl ?_
              refine z_iload_n B dX0_account_159 rfl 6 rfl ?_
              obtain ⟨f_54, h_257⟩ := in27 (k := 138) hI109 rfl
              have h_258 : Φ94 (x + 138) = some (ai_ G 8 f_54) := h_257
              refine z_iast B h_258 (Nat.le_trans hx (Nat.le_add_right x 138)) (vp_in_nI (by omega) (by omega)) dX0_account_160 (fun Φ95 hΦ94 => ?_)
              have h_259 : Φ95 (x + 138) = some (ai_ G 8 (upd f_54 (nI (n_1 % 8)).toNatClampNeg b)) := fset_at hΦ94
              have hI110 : In G x (ca) Φ95 := In.put (k := 138) hI109 hΦ94 (ok27 (k := 138) rfl ⟨_, rfl⟩)
              have hI111 : In G x (ca + 1) Φ95 := In.mono hI110 (by omega)
              refine z_aload_n B dX0_account_161 rfl 4 rfl ?_
              refine z_dup B dX0_account_162 rfl ?_
              have h_260 : Φ95 (x + 132) = some (o_ 2 [.ref (x + 3), .ref (x + 121), .ref (x + 133), .ref (x + 134), .ref (x + 135), .ref (x + 137), .ref (x + 138), .ref (x + 139), .ref (x + 140), .int (nI n_1), .int v_1, .int v_77]) := ((fset_fr hΦ94 (ne_off (x := x) (i := 132) (j := 138) rfl)).trans h_256)
              refine z_get (ref := "FlowExporter$Collector") (C := RX0) (T := TX0) (N := 12) (ci := 2) (v := .int (nI n_1)) B hu_X0_account_X0 rfl 9 (Nat.le_of_ble_eq_true rfl) hv_X0_account_39 rfl h_260 rfl dX0_account_163 ?_
              refine z_iconst (v := 1) B dX0_account_166 rfl ?_
              refine z_iadd B dX0_account_167 ?_
              refine z_top (st1 := [.int (nI (n_1 + 1)), .ref (x + 132)]) (congrArg (fun w9 : Int32 => ([.int w9, .ref (x + 132)] : List Value)) (nI_add n_1 1)) ?_
              refine z_put (ref := "FlowExporter$Collector") (C := RX0) (T := TX0) (N := 12) (ci := 2) (v := .int (nI (n_1 + 1))) B hu_X0_account_X0 tyX0 tyX0_ok nmX0 rfl 9 (Nat.le_of_ble_eq_true rfl) hv_X0_account_39 rfl (Or.inl rfl) h_260 (Nat.le_trans hx (Nat.le_add_right x 132)) rfl rfl (Nat.le_of_ble_eq_true rfl) dX0_account_168 (fun Φ96 hΦ95 => ?_)
              have h_261 : Φ96 (x + 132) = some (o_ 2 [.ref (x + 3), .ref (x + 121), .ref (x + 133), .ref (x + 134), .ref (x + 135), .ref (x + 137), .ref (x + 138), .ref (x + 139), .ref (x + 140), .int (nI (n_1 + 1)), .int v_1, .int v_77]) := fset_at hΦ95
              have hI112 : In G x (ca + 1) Φ96 := In.put (k := 132) hI111 hΦ95 (ok25 (k := 132) rfl ⟨n_1 + 1, v_1, v_77, rfl, (show n_1 + 1 ≤ ca + 1 by omega)⟩)
              refine z_aload_n B dX0_account_171 rfl 4 rfl ?_
              refine z_iload_n B dX0_account_172 rfl 6 rfl ?_
              refine z_put (ref := "FlowExporter$Collector") (C := RX0) (T := TX0) (N := 12) (ci := 2) (v := .int b) B hu_X0_account_X0 tyX0 tyX0_ok nmX0 rfl 10 (Nat.le_of_ble_eq_true rfl) hv_X0_account_43 rfl (Or.inl rfl) h_261 (Nat.le_trans hx (Nat.le_add_right x 132)) rfl rfl (Nat.le_of_ble_eq_true rfl) dX0_account_173 (fun Φ97 hΦ96 => ?_)
              have h_262 : Φ97 (x + 132) = some (o_ 2 [.ref (x + 3), .ref (x + 121), .ref (x + 133), .ref (x + 134), .ref (x + 135), .ref (x + 137), .ref (x + 138), .ref (x + 139), .ref (x + 140), .int (nI (n_1 + 1)), .int b, .int v_77]) := fset_at hΦ96
              have hI113 : In G x (ca + 1) Φ97 := In.put (k := 132) hI112 hΦ96 (ok25 (k := 132) rfl ⟨n_1 + 1, b, v_77, rfl, (show n_1 + 1 ≤ ca + 1 by omega)⟩)
              exact z_ret_v B dX0_account_176 ⟨rfl, rfl, hI113, (fun b9 h9 => ((fset_fr hΦ96 (fun h8 => h9 (132) h8 (show 132 ≤ 132 ∧ 132 < 140 by decide))).trans ((fset_fr hΦ95 (fun h8 => h9 (132) h8 (show 132 ≤ 132 ∧ 132 < 140 by decide))).trans ((fset_fr hΦ94 (fun h8 => h9 (138) h8 (show 132 ≤ 138 ∧ 138 < 140 by decide))).trans ((fset_fr hΦ93 (fun h8 => h9 (137) h8 (show 132 ≤ 137 ∧ 137 < 140 by decide))).trans ((fset_fr hΦ92 (fun h8 => h9 (132) h8 (show 132 ≤ 132 ∧ 132 < 140 by decide))).trans ((fset_fr hΦ91 (fun h8 => h9 (139) h8 (show 132 ≤ 139 ∧ 139 < 140 by decide))).trans ((hF1 b9 (fun j9 h8 h7 => (show False from h7).elim)).trans rfl))))))))⟩
            · obtain ⟨n_8, e_22, e_21, rfl⟩ := nI_ofp c_53
              refine z_aload_n B dX0_account_65 rfl 3 rfl ?_
              refine z_get (ref := "FlowExporter$Collector") (C := RX0) (T := TX0) (N := 12) (ci := 2) (v := .ref (x + 139)) B hu_X0_account_X0 rfl 7 (Nat.le_of_ble_eq_true rfl) hv_X0_account_32 rfl h_15 rfl dX0_account_66 ?_
              refine z_iconst (v := 0) B dX0_account_69 rfl ?_
              refine z_dup2_11 B dX0_account_70 rfl rfl ?_
              obtain ⟨f_55, h_263⟩ := in28 (k := 139) hI1 rfl
              have h_264 : Φ1 (x + 139) = some (al_ G 9 f_55) := h_263
              refine z_lald B h_264 (vin rfl) dX0_account_71 ?_
              refine z_fl (fun v_78 => ?_)
              refine z_iload B dX0_account_72 2 rfl ?_
              refine z_i2l (v := (nI n_8).toInt64) B dX0_account_74 rfl ?_
              refine z_fl (fun v_79 => ?_)
              refine z_ladd B dX0_account_75 ?_
              refine z_fl (fun v_80 => ?_)
              refine z_last B h_264 (Nat.le_trans hx (Nat.le_add_right x 139)) (vin rfl) dX0_account_76 (fun Φ98 hΦ97 => ?_)
              have h_265 : Φ98 (x + 139) = some (al_ G 9 (vp_updL f_55 (0 : Int32).toNatClampNeg v_80)) := fset_at hΦ97
              have hI114 : In G x (ca) Φ98 := In.put (k := 139) hI1 hΦ97 (ok28 (k := 139) rfl ⟨_, rfl⟩)
              refine z_iload B dX0_account_77 1 rfl ?_
              refine z_if_eq (tgt := 92) B dX0_account_79 rfl (fun h9 => absurd h9 (by decide)) (fun c_56 => ?_)
              refine z_aload_n B dX0_account_82 rfl 3 rfl ?_
              have h_266 : Φ98 (x + 132) = some (o_ 2 [.ref (x + 3), .ref (x + 121), .ref (x + 133), .ref (x + 134), .ref (x + 135), .ref (x + 137), .ref (x + 138), .ref (x + 139), .ref (x + 140), .int (nI n_1), .int v_1, .int v_2]) := ((fset_fr hΦ97 (ne_off (x := x) (i := 132) (j := 139) rfl)).trans h_15)
              refine z_get (ref := "FlowExporter$Collector") (C := RX0) (T := TX0) (N := 12) (ci := 2) (v := .ref (x + 139)) B hu_X0_account_X0 rfl 7 (Nat.le_of_ble_eq_true rfl) hv_X0_account_32 rfl h_266 rfl dX0_account_83 ?_
              refine z_iconst (v := 5) B dX0_account_86 rfl ?_
              refine z_dup2_11 B dX0_account_87 rfl rfl ?_
              obtain ⟨f_56, h_267⟩ := in28 (k := 139) hI114 rfl
              have h_268 : Φ98 (x + 139) = some (al_ G 9 f_56) := h_267
              refine z_lald B h_268 (vin rfl) dX0_account_88 ?_
              refine z_fl (fun v_81 => ?_)
              refine z_lconst (v := 1) B dX0_account_89 rfl ?_
              refine z_ladd B dX0_account_90 ?_
              refine z_fl (fun v_82 => ?_)
              refine z_last B h_268 (Nat.le_trans hx (Nat.le_add_right x 139)) (vin rfl) dX0_account_91 (fun Φ99 hΦ98 => ?_)
              have h_269 : Φ99 (x + 139) = some (al_ G 9 (vp_updL f_56 (5 : Int32).toNatClampNeg v_82)) := fset_at hΦ98
              have hI115 : In G x (ca) Φ99 := In.put (k := 139) hI114 hΦ98 (ok28 (k := 139) rfl ⟨_, rfl⟩)
              refine z_iload B dX0_account_92 0 rfl ?_
              refine z_if_eq (tgt := 129) B dX0_account_94 rfl (fun c_57 => ?_) (fun h9 => absurd (by decide) h9)
              refine z_aload_n B dX0_account_129 rfl 3 rfl ?_
              refine z_iload_n B dX0_account_130 rfl 4 rfl ?_
              refine z_iload_n B dX0_account_131 rfl 6 rfl ?_
              refine z_iadd B dX0_account_132 ?_
              refine z_fi (fun v_83 => ?_)
              have h_270 : Φ99 (x + 132) = some (o_ 2 [.ref (x + 3), .ref (x + 121), .ref (x + 133), .ref (x + 134), .ref (x + 135), .ref (x + 137), .ref (x + 138), .ref (x + 139), .ref (x + 140), .int (nI n_1), .int v_1, .int v_2]) := ((fset_fr hΦ98 (ne_off (x := x) (i := 132) (j := 139) rfl)).trans h_266)
              refine z_put (ref := "FlowExporter$Collector") (C := RX0) (T := TX0) (N := 12) (ci := 2) (v := .int v_83) B hu_X0_account_X0 tyX0 tyX0_ok nmX0 rfl 11 (Nat.le_of_ble_eq_true rfl) hv_X0_account_46 rfl (Or.inl rfl) h_270 (Nat.le_trans hx (Nat.le_add_right x 132)) rfl rfl (Nat.le_of_ble_eq_true rfl) dX0_account_133 (fun Φ100 hΦ99 => ?_)
              have h_271 : Φ100 (x + 132) = some (o_ 2 [.ref (x + 3), .ref (x + 121), .ref (x + 133), .ref (x + 134), .ref (x + 135), .ref (x + 137), .ref (x + 138), .ref (x + 139), .ref (x + 140), .int (nI n_1), .int v_1, .int v_83]) := fset_at hΦ99
              have hI116 : In G x (ca) Φ100 := In.put (k := 132) hI115 hΦ99 (ok25 (k := 132) rfl ⟨n_1, v_1, v_83, rfl, (show n_1 ≤ ca by omega)⟩)
              refine z_aload_n B dX0_account_136 rfl 3 rfl ?_
              refine z_get (ref := "FlowExporter$Collector") (C := RX0) (T := TX0) (N := 12) (ci := 2) (v := .int (nI n_1)) B hu_X0_account_X0 rfl 9 (Nat.le_of_ble_eq_true rfl) hv_X0_account_39 rfl h_271 rfl dX0_account_137 ?_
              refine z_bipush (v := 8) B dX0_account_140 rfl ?_
              refine z_irem B dX0_account_142 (by decide) ?_
              refine z_top (st1 := [.int (nI (n_1 % 8))]) (congrArg (fun w9 : Int32 => ([.int w9] : List Value)) (nI_rem8 (show n_1 < 2 ^ 31 by omega))) ?_
              refine z_istore (lv' := [(7, .int (nI (n_1 % 8))), (6, .int 0), (5, .int 1), (4, .int (nI n_8)), (0, .ref (x + 132)), (1, .int a), (2, .int b), (3, .int d)]) B dX0_account_143 (Nat.le_of_ble_eq_true rfl) rfl ?_
              refine z_aload_n B dX0_account_145 rfl 4 rfl ?_
              refine z_get (ref := "FlowExporter$Collector") (C := RX0) (T := TX0) (N := 12) (ci := 2) (v := .ref (x + 137)) B hu_X0_account_X0 rfl 5 (Nat.le_of_ble_eq_true rfl) hv_X0_account_26 rfl h_271 rfl dX0_account_146 ?_
              refine z_iload B dX0_account_149 0 rfl ?_
              refine z_iload_n B dX0_account_151 rfl 5 rfl ?_
              obtain ⟨f_57, h_272⟩ := in27 (k := 137) hI116 rfl
              have h_273 : Φ100 (x + 137) = some (ai_ G 8 f_57) := h_272
              refine z_iast B h_273 (Nat.le_trans hx (Nat.le_add_right x 137)) (vp_in_nI (by omega) (by omega)) dX0_account_152 (fun Φ101 hΦ100 => ?_)
              have h_274 : Φ101 (x + 137) = some (ai_ G 8 (upd f_57 (nI (n_1 % 8)).toNatClampNeg a)) := fset_at hΦ100
              have hI117 : In G x (ca) Φ101 := In.put (k := 137) hI116 hΦ100 (ok27 (k := 137) rfl ⟨_, rfl⟩)
              refine z_aload_n B dX0_account_153 rfl 4 rfl ?_
              have h_275 : Φ101 (x + 132) = some (o_ 2 [.ref (x + 3), .ref (x + 121), .ref (x + 133), .ref (x + 134), .ref (x + 135), .ref (x + 137), .ref (x + 138), .ref (x + 139), .ref (x + 140), .int (nI n_1), .int v_1, .int v_83]) := ((fset_fr hΦ100 (ne_off (x := x) (i := 132) (j := 137) rfl)).trans h_271)
              refine z_get (ref := "FlowExporter$Collector") (C := RX0) (T := TX0) (N := 12) (ci := 2) (v := .ref (x + 138)) B hu_X0_account_X0 rfl 6 (Nat.le_of_ble_eq_true rfl) hv_X0_account_29 rfl h_275 rfl dX0_account_154 ?_
              refine z_iload B dX0_account_157 0 rfl ?_
              refine z_iload_n B dX0_account_159 rfl 6 rfl ?_
              obtain ⟨f_58, h_276⟩ := in27 (k := 138) hI117 rfl
              have h_277 : Φ101 (x + 138) = some (ai_ G 8 f_58) := h_276
              refine z_iast B h_277 (Nat.le_trans hx (Nat.le_add_right x 138)) (vp_in_nI (by omega) (by omega)) dX0_account_160 (fun Φ102 hΦ101 => ?_)
              have h_278 : Φ102 (x + 138) = some (ai_ G 8 (upd f_58 (nI (n_1 % 8)).toNatClampNeg b)) := fset_at hΦ101
              have hI118 : In G x (ca) Φ102 := In.put (k := 138) hI117 hΦ101 (ok27 (k := 138) rfl ⟨_, rfl⟩)
              have hI119 : In G x (ca + 1) Φ102 := In.mono hI118 (by omega)
              refine z_aload_n B dX0_account_161 rfl 4 rfl ?_
              refine z_dup B dX0_account_162 rfl ?_
              have h_279 : Φ102 (x + 132) = some (o_ 2 [.ref (x + 3), .ref (x + 121), .ref (x + 133), .ref (x + 134), .ref (x + 135), .ref (x + 137), .ref (x + 138), .ref (x + 139), .ref (x + 140), .int (nI n_1), .int v_1, .int v_83]) := ((fset_fr hΦ101 (ne_off (x := x) (i := 132) (j := 138) rfl)).trans h_275)
              refine z_get (ref := "FlowExporter$Collector") (C := RX0) (T := TX0) (N := 12) (ci := 2) (v := .int (nI n_1)) B hu_X0_account_X0 rfl 9 (Nat.le_of_ble_eq_true rfl) hv_X0_account_39 rfl h_279 rfl dX0_account_163 ?_
              refine z_iconst (v := 1) B dX0_account_166 rfl ?_
              refine z_iadd B dX0_account_167 ?_
              refine z_top (st1 := [.int (nI (n_1 + 1)), .ref (x + 132)]) (congrArg (fun w9 : Int32 => ([.int w9, .ref (x + 132)] : List Value)) (nI_add n_1 1)) ?_
              refine z_put (ref := "FlowExporter$Collector") (C := RX0) (T := TX0) (N := 12) (ci := 2) (v := .int (nI (n_1 + 1))) B hu_X0_account_X0 tyX0 tyX0_ok nmX0 rfl 9 (Nat.le_of_ble_eq_true rfl) hv_X0_account_39 rfl (Or.inl rfl) h_279 (Nat.le_trans hx (Nat.le_add_right x 132)) rfl rfl (Nat.le_of_ble_eq_true rfl) dX0_account_168 (fun Φ103 hΦ102 => ?_)
              have h_280 : Φ103 (x + 132) = some (o_ 2 [.ref (x + 3), .ref (x + 121), .ref (x + 133), .ref (x + 134), .ref (x + 135), .ref (x + 137), .ref (x + 138), .ref (x + 139), .ref (x + 140), .int (nI (n_1 + 1)), .int v_1, .int v_83]) := fset_at hΦ102
              have hI120 : In G x (ca + 1) Φ103 := In.put (k := 132) hI119 hΦ102 (ok25 (k := 132) rfl ⟨n_1 + 1, v_1, v_83, rfl, (show n_1 + 1 ≤ ca + 1 by omega)⟩)
              refine z_aload_n B dX0_account_171 rfl 4 rfl ?_
              refine z_iload_n B dX0_account_172 rfl 6 rfl ?_
              refine z_put (ref := "FlowExporter$Collector") (C := RX0) (T := TX0) (N := 12) (ci := 2) (v := .int b) B hu_X0_account_X0 tyX0 tyX0_ok nmX0 rfl 10 (Nat.le_of_ble_eq_true rfl) hv_X0_account_43 rfl (Or.inl rfl) h_280 (Nat.le_trans hx (Nat.le_add_right x 132)) rfl rfl (Nat.le_of_ble_eq_true rfl) dX0_account_173 (fun Φ104 hΦ103 => ?_)
              have h_281 : Φ104 (x + 132) = some (o_ 2 [.ref (x + 3), .ref (x + 121), .ref (x + 133), .ref (x + 134), .ref (x + 135), .ref (x + 137), .ref (x + 138), .ref (x + 139), .ref (x + 140), .int (nI (n_1 + 1)), .int b, .int v_83]) := fset_at hΦ103
              have hI121 : In G x (ca + 1) Φ104 := In.put (k := 132) hI120 hΦ103 (ok25 (k := 132) rfl ⟨n_1 + 1, b, v_83, rfl, (show n_1 + 1 ≤ ca + 1 by omega)⟩)
              exact z_ret_v B dX0_account_176 ⟨rfl, rfl, hI121, (fun b9 h9 => ((fset_fr hΦ103 (fun h8 => h9 (132) h8 (show 132 ≤ 132 ∧ 132 < 140 by decide))).trans ((fset_fr hΦ102 (fun h8 => h9 (132) h8 (show 132 ≤ 132 ∧ 132 < 140 by decide))).trans ((fset_fr hΦ101 (fun h8 => h9 (138) h8 (show 132 ≤ 138 ∧ 138 < 140 by decide))).trans ((fset_fr hΦ100 (fun h8 => h9 (137) h8 (show 132 ≤ 137 ∧ 137 < 140 by decide))).trans ((fset_fr hΦ99 (fun h8 => h9 (132) h8 (show 132 ≤ 132 ∧ 132 < 140 by decide))).trans ((fset_fr hΦ98 (fun h8 => h9 (139) h8 (show 132 ≤ 139 ∧ 139 < 140 by decide))).trans ((fset_fr hΦ97 (fun h8 => h9 (139) h8 (show 132 ≤ 139 ∧ 139 < 140 by decide))).trans ((hF1 b9 (fun j9 h8 h7 => (show False from h7).elim)).trans rfl)))))))))⟩

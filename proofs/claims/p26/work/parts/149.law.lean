/-! THE CLAIM OUT OF ONE WALK OF THE LAW'S BODY. Your part is whole_start (and what it stands on); all else here is the same for every law, but numbers. -/
def R_law : String := "FlowExporterLaw"
def lw_P (b : Addr) (xs : List Int32) (args : Array Value) (s : State) : Prop := args = #[.ref b] ∧ s.IntsAt b xs ∧ xs.length ≤ 3584 ∧ (Jvm.Cond.and given_1 narrow_1).before args s = true
/-- what a walk over the start with the record d0 says of its end, said of the start itself -/
theorem lw_closed {s t : State} {o : Outcome} {d0 : Drawn} {L : List Loc} {k n : Nat} (hd0 : s.drawn.sameBut d0 lw_cs) (hv : ∃ v, o = .returned v) (hW : (s.setDrawn d0).WarmedH t.vm) (hs : (s.setDrawn d0).sameButNew ({ t with vm := s.vm } : State) L k n) : State.butDraws s t lw_cs (fun t1 => Framed s o t1 L k n) := by
  have h2 : t.drawn = d0 := congrArg State.drawn hs.1
  refine ⟨⟨hv, hW, State.sameButNew.setDrawn hs s.drawn⟩, ?_, by decide⟩
  rw [h2]
  exact hd0
def lw_Q (_ : Array Value) (s : State) (o : Outcome) (t : State) : Prop := o = .returned (some (.int 1)) ∧ State.butDraws s t lw_cs (fun t1 => Framed s o t1 [] 603072 7198826)
def lw_Z (below : List Frame) (a : Array Value) (s : State) : State → Prop := fun t => ∃ o, t.status = .running ∧ Ended t below o ∧ lw_Q a s o t
/-- the law's own end, with 1 on the stack, nothing written that was there before, its room as the claim has it; d0: the record of draws at this point (at the entry s.drawn: begin with 'refine W.base ?_' and 'have hd0 := Drawn.sameBut.refl s.drawn lw_cs') -/
theorem lw_ret {p : Program} {l : Launch} {e : Env} {s : State} {m : MethodId} {below : List Frame} {meth : Method} {c : Code} {b : Nat} {d0 : Drawn} (hd0 : s.drawn.sameBut d0 lw_cs) (hx : p.tables.exec = Jvm.exec) (hb : c.code = code) (hr : meth.sig.returnType = ret) (hlocks : meth.locks = false) {pc : Nat} {H : Heap} {ls : Array Slot} (hdg : decode code pc = .ok (.ireturn, 1)) : W p l e room_1 (s.setDrawn d0) m #[Value.ref b] below meth c H [] 603072 7198826 (lw_Z below #[Value.ref b] s) (F0 m pc ls [.int 1]) := by
  intro T hT X
  obtain ⟨fs, hret, hrun, hended, hW, hframe⟩ := X.leave (v := some (.int 1)) (hlocks := hlocks) (fun h => by rw [hr] at h; cases h)
  have hmeth' : T.vm.method? m = some meth := X.method'
  refine ⟨T.setFrames fs, ?_, .returned (some (.int 1)), hrun, hended, rfl, lw_closed hd0 ⟨_, rfl⟩ hW hframe⟩
  jvm_step X.here [X.here.top, hx, hb, hdg, hmeth', hr, ret, narrow_b1]
  (try refine ⟨rfl, ?_⟩); (try refine ⟨rfl, ?_⟩)
  first | (intro acts; rw [hret _ acts rfl rfl rfl]) | rw [hret _ _ rfl rfl rfl]
  exact Steps.refl _
/-- what holds at the law's entry: the machine, the code, the tables' words (any of lw_tbl by 'hts w (by decide +kernel)'), the script of L ints xs at the cell b, what the Statement gives of the start (any of its parts by flat_of_before) -/
def lw_At (p : Program) (s : State) (m : MethodId) (meth : Method) (c : Code) (b L : Nat) (xs : Nat → Int32) : Prop :=
  p.tables.exec = Jvm.exec ∧ c.code = code ∧ meth.sig.returnType = ret ∧ c.maxLocals = 9 ∧ s.vm.findClass R_law = some m.cls ∧ (∀ w ∈ lw_tbl, w.before #[Value.ref b] s = true) ∧ va_X b L xs s s.heap ∧ b < s.heap.size ∧ meth.locks = false ∧ (Jvm.Cond.and given_1 narrow_1).before #[Value.ref b] s = true
theorem z_lawret {nm9 : String} {p : Program} {l : Launch} {e : Env} {s : State} {m : MethodId} {below : List Frame} {meth : Method} {c : Code} {b : Nat} {G : EnvG} {pc : Nat} {lv : List (Nat × Value)} {Φ : Hm} {sz cells slots : Nat} {d0 : Drawn} (hd0 : s.drawn.sameBut d0 lw_cs) (B : Bd p (s.setDrawn d0) m #[Value.ref b] meth c G code 9 RL wsL_law ret nm9) (hn0 : G.2.2.2 = s.heap.size) (hc : cells ≤ 603072) (hs : slots ≤ 7198826) (hdg : decode code pc = .ok (.ireturn, 1)) : Z p l e room_1 (s.setDrawn d0) m #[Value.ref b] below meth c (lw_Z below #[Value.ref b] s) G 9 pc lv [.int 1] Φ sz cells slots := by
  intro H locs ls hl hP hS
  have hn1 : G.2.2.2 = (s.setDrawn d0).heap.size := hn0
  refine va_forget (fun q hq => by rw [← hn1]; exact hS.2.2 q hq) ?_
  refine W.widen (k := 603072) (n := 7198826) hc hs ?_
  exact lw_ret hd0 B.1.1 B.1.2.1 B.2.1 B.2.2.1 hdg
set_option maxHeartbeats 4000000 in
set_option maxRecDepth 100000 in
theorem law_loop {p9 : Program} {e9 : Env} {s9 : State} {m9 : MethodId} {w9 : List Frame} {t9 : Method} {k9 : Code} {nm9 : String} (G : EnvG) (l : Launch) (hl9 : l.stackTraces = false) (b : Nat) (B0 : Bd p9 s9 m9 #[Value.ref b] t9 k9 G code 9 RL wsL_law ret nm9) (hn0 : G.2.2.2 = s9.heap.size) (L : Nat) (xs : Nat → Int32) (hL : L ≤ 3584) (hX0 : va_X b L xs s9 s9.heap) (hbn : b < G.2.2.2) (x y o d : Nat) (hna : G.2.2.2 ≤ x) (hD : Ds x y o d) : ∀ (n : Nat) (d0 : Drawn), s9.drawn.sameBut d0 lw_cs → ∀ (i : Nat) (Φ : Hm) (sz : Nat), 4000 - i = n → i ≤ 3591 → JJ G x y o d (2 * i) Φ → Z p9 l e9 room_1 (s9.setDrawn d0) m9 #[Value.ref b] w9 t9 k9 (lw_Z w9 #[Value.ref b] s9) G 9 28 [(5, .int (nI i)), (4, .ref d), (3, .ref o), (2, .ref y), (1, .ref x), (0, .ref b)] [] Φ sz (200 + i) (21000 + 2 * i) := by
  intro n
  induction n using Nat.strongRecOn with
  | _ n ih =>
    intro d0 hd0 i Φ sz hn hi hJ
    have B : Bd p9 (s9.setDrawn d0) m9 #[Value.ref b] t9 k9 G code 9 RL wsL_law ret nm9 := Bd.drawn B0 d0
    have hX : va_X b L xs (s9.setDrawn d0) (s9.setDrawn d0).heap := va_X.moved (U := s9.setDrawn d0) (Vm.Alike.refl s9.vm) hX0
    refine z_iload B dL_law_28 0 rfl ?_
    refine z_aload_n B dL_law_30 rfl 5 rfl ?_
    refine z_slen (v := nI L) B hX hbn rfl dL_law_31 ?_
    refine z_bipush (v := 7) B dL_law_32 rfl ?_
    refine z_isub B dL_law_34 ?_
    refine z_icmp_gt (tgt := 2007) B dL_law_35 rfl (fun c_1 => ?_) (fun c_1 => ?_)
    · refine z_iconst (v := 1) B dL_law_2007 rfl ?_
      exact z_lawret hd0 B hn0 (by omega) (by omega) dL_law_2008
    · have h7 := law_cmp hL hi c_1
      refine z_aload_n B dL_law_38 rfl 5 rfl ?_
      refine z_iload B dL_law_39 0 rfl ?_
      refine z_sald B hX hbn (vinL0 (by omega) hL) dL_law_41 ?_
      refine z_bipush (v := 63) B dL_law_42 rfl ?_
      refine z_iand B dL_law_44 ?_
      refine law_sw G l hl9 hd0 B Φ sz b L i xs hX hbn hL h7 x y o d (2 * i) (200 + i) (21000 + 2 * i) hna hD (by omega) (by omega) (by omega) hJ (fun d1 hd1 Φ1 sz1 hJ1 => ?_) _
      have B1 : Bd p9 (s9.setDrawn d1) m9 #[Value.ref b] t9 k9 G code 9 RL wsL_law ret nm9 := Bd.drawn B0 d1
      refine z_iinc (k := 0) (v := nI (i + 7)) (lv' := [(5, .int (nI (i + 7))), (4, .ref d), (3, .ref o), (2, .ref y), (1, .ref x), (0, .ref b)]) B1 dL_law_2001 rfl (Int32.ofNat_add i 7).symm (Nat.le_of_ble_eq_true rfl) rfl ?_
      refine z_goto (tgt := 28) B1 dL_law_2004 rfl ?_
      refine z_widen (k := 200 + (i + 7)) (n := 21000 + 2 * (i + 7)) (by omega) (by omega) ?_
      exact ih (4000 - (i + 7)) (by omega) d1 hd1 (i + 7) Φ1 sz1 rfl (by omega) (JJ.up hJ1 (by omega))
set_option maxHeartbeats 8000000 in
set_option maxRecDepth 100000 in
theorem law_main {p9 : Program} {e9 : Env} {s9 : State} {m9 : MethodId} {w9 : List Frame} {t9 : Method} {k9 : Code} {nm9 : String} (G : EnvG) (l : Launch) (hl9 : l.stackTraces = false) (b : Nat) (B : Bd p9 s9 m9 #[Value.ref b] t9 k9 G code 9 RL wsL_law ret nm9) (hn0 : G.2.2.2 = s9.heap.size) (L : Nat) (xs : Nat → Int32) (hL : L ≤ 3584) (hX : va_X b L xs s9 s9.heap) (hbn : b < G.2.2.2) (Φ : Hm) (x : Nat) (hna : G.2.2.2 ≤ x) : Z p9 l e9 room_1 s9 m9 #[Value.ref b] w9 t9 k9 (lw_Z w9 #[Value.ref b] s9) G 9 0 [(0, .ref b)] [] Φ x 0 0 := by
  refine z_new (C := RX11) (T := TX11) (N := 8) (ci := 13) (fs := [.null, .null, .null, .null, .null, .null, .null, .null]) B (by decide +kernel) tyX11 tyX11_ok (by decide +kernel) (by decide +kernel) (by decide +kernel) rfl (by decide +kernel) (Nat.le_of_ble_eq_true rfl) (Nat.le_of_ble_eq_true rfl) dL_law_0 (fun Φ1 hΦ1 hz1 => ?_)
  have h_1 : Φ1 x = some (o_ 13 [.null, .null, .null, .null, .null, .null, .null, .null]) := fset_at hΦ1
  refine z_dup B dL_law_3 rfl ?_
  refine z_callI (As := []) (rest := [.ref x]) B (c_X11_init G l Φ1 (x + 1) x rfl h_1 hz1) (cwI 0 B.1.2.2.2.2 gL_law_X11_init rfl rfl rfl (B.1.2.2.2.2 _ (by decide +kernel)) (B.1.2.2.2.2 _ (by decide +kernel)) (B.1.2.2.2.2 _ (by decide +kernel)) rfl (by decide +kernel) ⟨Nat.le_of_ble_eq_true rfl, Nat.le_of_ble_eq_true rfl⟩) rfl rfl (Nat.le_of_ble_eq_true rfl) dL_law_4 ⟨Nat.le_of_ble_eq_true rfl, Nat.le_of_ble_eq_true rfl⟩ (fun v1 Φ2 sz1 st1 hp1 hs1 => ?_)
  obtain ⟨rfl, hq1, fr1, h_2, h_3, h_4, h_5, h_6, h_7, h_8, h_9, h_10, h_11, h_12, h_13, h_14, h_15, h_16, h_17, h_18, h_19, h_20, h_21, h_22, h_23, h_24, h_25, h_26, h_27, h_28, h_29, h_30, h_31, h_32, h_33, h_34, h_35, h_36, h_37, h_38, h_39, h_40, h_41, h_42, h_43, h_44, h_45, h_46, h_47, h_48, h_49, h_50, h_51, h_52, h_53, h_54, h_55, h_56, h_57, h_58, h_59, h_60, h_61, h_62, h_63, h_64, h_65, h_66, h_67, h_68, h_69, h_70, h_71, h_72, h_73, h_74, h_75, h_76, h_77, h_78, h_79, h_80, h_81, h_82, h_83, h_84, h_85, h_86, h_87, h_88, h_89, h_90, h_91, h_92, h_93, h_94, h_95, h_96, h_97, h_98, h_99, h_100, h_101, h_102, h_103, h_104, h_105, h_106, h_107, h_108, h_109, h_110, h_111, h_112, h_113, h_114, h_115, h_116, h_117, h_118, h_119, h_120, h_121, h_122, h_123, h_124, h_125, h_126, h_127, h_128, h_129, h_130, h_131, h_132, h_133, h_134, h_135, h_136, h_137, h_138, h_139, h_140, h_141, h_142, h_143, h_144, h_145, h_146, h_147, h_148, h_149, h_150⟩ := hp1
  replace hq1 : sz1 = x + 149 := hq1
  subst sz1
  replace hs1 : st1 = [.ref x] := hs1
  subst st1
  have hIn := in_fresh h_2 h_3 h_4 h_5 h_6 h_7 h_8 h_9 h_10 h_11 h_12 h_13 h_14 h_15 h_16 h_17 h_18 h_19 h_20 h_21 h_22 h_23 h_24 h_25 h_26 h_27 h_28 h_29 h_30 h_31 h_32 h_33 h_34 h_35 h_36 h_37 h_38 h_39 h_40 h_41 h_42 h_43 h_44 h_45 h_46 h_47 h_48 h_49 h_50 h_51 h_52 h_53 h_54 h_55 h_56 h_57 h_58 h_59 h_60 h_61 h_62 h_63 h_64 h_65 h_66 h_67 h_68 h_69 h_70 h_71 h_72 h_73 h_74 h_75 h_76 h_77 h_78 h_79 h_80 h_81 h_82 h_83 h_84 h_85 h_86 h_87 h_88 h_89 h_90 h_91 h_92 h_93 h_94 h_95 h_96 h_97 h_98 h_99 h_100 h_101 h_102 h_103 h_104 h_105 h_106 h_107 h_108 h_109 h_110 h_111 h_112 h_113 h_114 h_115 h_116 h_117 h_118 h_119 h_120 h_121 h_122 h_123 h_124 h_125 h_126 h_127 h_128 h_129 h_130 h_131 h_132 h_133 h_134 h_135 h_136 h_137 h_138 h_139 h_140 h_141 h_142 h_143 h_144 h_145 h_146 h_147 h_148 h_149 h_150
  have hCf := cfa_fresh h_5 h_6 h_7 h_8 h_9 h_10 h_11 h_12 h_13 h_14 h_15 h_16 h_17 h_18 h_19 h_20 h_21 h_22 h_23 h_24 h_25
  have hSf := sq_fresh h_48 h_49 h_50 h_51 h_52 h_53 h_54 h_55 h_56 h_57 h_58 h_59 h_60 h_61 h_62 h_63 h_64 h_65 h_66 h_67 h_68 h_69 h_70 h_71 h_72 h_73 h_74 h_75 h_76 h_77 h_78 h_79 h_80 h_81
  have hXf := xc_fresh h_82 h_83 h_84 h_85 h_86 h_87 h_88 h_89 h_90 h_91 h_92 h_93 h_94 h_95 h_96 h_97 h_98 h_99 h_100 h_101 h_102 h_103 h_104 h_105 h_106 h_107 h_108 h_109 h_110 h_111 h_112 h_113 h_114 h_115 h_116 h_117 h_118 h_119 h_120 h_121 h_122
  refine z_astore_n (lv' := [(1, .ref x), (0, .ref b)]) B dL_law_7 rfl (Nat.le_of_ble_eq_true rfl) rfl ?_
  refine z_new (C := RX12) (T := TX12) (N := 54) (ci := 14) (fs := [.int 0, .null, .null, .int 0, .int 0, .int 0, .int 0, .int 0, .null, .null, .int 0, .long 0, .null, .int 0, .int 0, .long 0, .long 0, .long 0, .long 0, .null, .null, .int 0, .null, .int 0, .null, .null, .int 0, .null, .null, .null, .null, .null, .null, .int 0, .long 0, .null, .null, .null, .null, .null, .null, .int 0, .null, .null, .int 0, .null, .int 0, .int 0, .int 0, .int 0, .int 0, .int 0, .int 0, .long 0]) B (by decide +kernel) tyX12 tyX12_ok (by decide +kernel) (by decide +kernel) (by decide +kernel) rfl (by decide +kernel) (Nat.le_of_ble_eq_true rfl) (Nat.le_of_ble_eq_true rfl) dL_law_8 (fun Φ3 hΦ2 hz2 => ?_)
  have h_300 : Φ3 (x + 149) = some (o_ 14 [.int 0, .null, .null, .int 0, .int 0, .int 0, .int 0, .int 0, .null, .null, .int 0, .long 0, .null, .int 0, .int 0, .long 0, .long 0, .long 0, .long 0, .null, .null, .int 0, .null, .int 0, .null, .null, .int 0, .null, .null, .null, .null, .null, .null, .int 0, .long 0, .null, .null, .null, .null, .null, .null, .int 0, .null, .null, .int 0, .null, .int 0, .int 0, .int 0, .int 0, .int 0, .int 0, .int 0, .long 0]) := fset_at hΦ2
  refine z_dup B dL_law_11 rfl ?_
  refine z_callI (As := []) (rest := [.ref (x + 149)]) B (c_X12_init G l Φ3 (x + 150) (x + 149) rfl h_300 hz2) (cwI 0 B.1.2.2.2.2 gL_law_X12_init rfl rfl rfl (B.1.2.2.2.2 _ (by decide +kernel)) (B.1.2.2.2.2 _ (by decide +kernel)) (B.1.2.2.2.2 _ (by decide +kernel)) rfl (by decide +kernel) ⟨Nat.le_of_ble_eq_true rfl, Nat.le_of_ble_eq_true rfl⟩) rfl rfl (Nat.le_of_ble_eq_true rfl) dL_law_12 ⟨Nat.le_of_ble_eq_true rfl, Nat.le_of_ble_eq_true rfl⟩ (fun v2 Φ4 sz2 st2 hp2 hs2 => ?_)
  obtain ⟨rfl, hq2, fr2, g_0, g_1, g_2, g_3, g_4, g_5, g_6, g_7, g_8, g_9, g_10, g_11, g_12, g_13, g_14, g_15, g_16, g_17, g_18, g_19, g_20, g_21, g_22, g_23, g_24, g_25⟩ := hp2
  replace hq2 : sz2 = x + 175 := hq2
  subst sz2
  replace hs2 : st2 = [.ref (x + 149)] := hs2
  subst st2
  have hIm := im_fresh (y := x + 149) g_0 g_1 g_2 g_3 g_4 g_5 g_6 g_7 g_8 g_9 g_10 g_11 g_12 g_13 g_14 g_15 g_16 g_17 g_18 g_19 g_20 g_21 g_22 g_23 g_24 g_25
  refine z_astore_n (lv' := [(2, .ref (x + 149)), (1, .ref x), (0, .ref b)]) B dL_law_15 rfl (Nat.le_of_ble_eq_true rfl) rfl ?_
  refine z_iconst (v := 1) B dL_law_16 rfl ?_
  refine z_newa (atype := .long) (ty := .long) (t := 1) (N' := 1) (a0 := (1, .inr (.inl (fun _ => 0)))) B (by decide +kernel) rfl rfl (fun _ h9 => by cases h9) (fun _ => rfl) (by decide) rfl (Nat.le_of_ble_eq_true rfl) (Nat.le_of_ble_eq_true rfl) (Nat.le_of_ble_eq_true rfl) dL_law_17 (fun Φ5 hΦ3 hz3 => ?_)
  refine z_astore_n (lv' := [(3, .ref (x + 175)), (2, .ref (x + 149)), (1, .ref x), (0, .ref b)]) B dL_law_19 rfl (Nat.le_of_ble_eq_true rfl) rfl ?_
  refine z_iconst (v := 1) B dL_law_20 rfl ?_
  refine z_newa (atype := .double) (ty := .double) (t := 3) (N' := 1) (a0 := (1, .inr (.inr (.inr (.inl (fun _ => 0)))))) B (by decide +kernel) rfl rfl (fun _ h9 => by cases h9) (fun _ => rfl) (by decide) rfl (Nat.le_of_ble_eq_true rfl) (Nat.le_of_ble_eq_true rfl) (Nat.le_of_ble_eq_true rfl) dL_law_21 (fun Φ6 hΦ4 hz4 => ?_)
  refine z_astore (lv' := [(4, .ref (x + 176)), (3, .ref (x + 175)), (2, .ref (x + 149)), (1, .ref x), (0, .ref b)]) B dL_law_23 (Nat.le_of_ble_eq_true rfl) rfl ?_
  refine z_iconst (v := 0) B dL_law_25 rfl ?_
  refine z_istore (lv' := [(5, .int 0), (4, .ref (x + 176)), (3, .ref (x + 175)), (2, .ref (x + 149)), (1, .ref x), (0, .ref b)]) B dL_law_26 (Nat.le_of_ble_eq_true rfl) rfl ?_
  have e1 : ∀ k, k < 149 → Φ4 (x + k) = Φ2 (x + k) := fun k hk => (fr2 (x + k) (by omega) (by omega)).trans (fset_fr hΦ2 (by omega))
  have hJ : JJ G x (x + 149) (x + 175) (x + 176) (2 * 0) Φ6 := by
    refine ⟨0, fun _ => 0, fun _ => 0, 0, -1, (0, 1, 1, 0, 0, 0, 0, 0, (0, Fz), (0, Fz)), (fun _ => 0, fun _ => 0, 0, 0, 0), (0, fun _ => 0, 0), finC cB, ⟨In.eq hIn (fun k hk => (fset_fr hΦ4 (by omega)).trans ((fset_fr hΦ3 (by omega)).trans (e1 k hk))), ⟨⟨_, _, _, _, _, _, _, _, Im.eq hIm (fun k hk => (fset_fr hΦ4 (by omega)).trans (fset_fr hΦ3 (by omega)))⟩, ((fset_fr hΦ4 (by omega)).trans (fset_fr hΦ3 (by omega))).trans g_25⟩, ⟨_, (fset_fr hΦ4 (by omega)).trans (fset_at hΦ3)⟩, ⟨_, fset_at hΦ4⟩, (fset_fr hΦ4 (by omega)).trans ((fset_fr hΦ3 (by omega)).trans ((e1 1 (by omega)).trans h_3)), (fset_fr hΦ4 (by omega)).trans ((fset_fr hΦ3 (by omega)).trans ((e1 2 (by omega)).trans h_4)), ⟨0, 0, 0, 0, (fset_fr hΦ4 (by omega)).trans ((fset_fr hΦ3 (by omega)).trans ((e1 24 (by omega)).trans h_26))⟩, XC.eq hXf (fun k9 q1 q2 => (fset_fr hΦ4 (by omega)).trans ((fset_fr hΦ3 (by omega)).trans (e1 k9 (by omega)))), SQ.eq hSf (fun k9 q1 q2 => (fset_fr hΦ4 (by omega)).trans ((fset_fr hΦ3 (by omega)).trans (e1 k9 (by omega)))), ⟨1, 511, hCf.mv (fun k9 q1 q2 => (fset_fr hΦ4 (by omega)).trans ((fset_fr hΦ3 (by omega)).trans (e1 k9 (by omega))))⟩⟩, finC_G cB_H, fun j hj => rfl⟩
  refine z_widen (k := 200 + 0) (n := 21000 + 2 * 0) (Nat.le_of_ble_eq_true rfl) (Nat.le_of_ble_eq_true rfl) ?_
  exact law_loop G l hl9 b B hn0 L xs hL hX hbn x (x + 149) (x + 175) (x + 176) hna ⟨by omega, by omega, by omega⟩ _ s9.drawn (Drawn.sameBut.refl s9.drawn lw_cs) 0 Φ6 _ rfl (by omega) hJ
set_option maxHeartbeats 4000000 in
set_option maxRecDepth 100000 in
theorem whole_start {p : Program} {e : Env} {s : State} {m : MethodId} {below : List Frame} {meth : Method} {c : Code} (l : Launch) (hflags : l.flags = flags0) {b L : Nat} {xs : Nat → Int32} (hL : L ≤ 3584) (C0 : lw_At p s m meth c b L xs) : W p l e room_1 s m #[Value.ref b] below meth c s.heap [] 0 0 (lw_Z below #[Value.ref b] s) (entryFrame m ([Value.ref b] : List Value).toArray 9) := by
  obtain ⟨hx, hb, hr, hml, hown, hts, hX, hbl, hlocks, hgv⟩ := C0
  obtain ⟨G, hn0, hK, hS⟩ := g_start hts hgv
  have hl9 : l.stackTraces = false := by unfold Launch.stackTraces; rw [hflags]; decide
  have hl := lv_entry ([.ref b]) (n := 9) (Nat.le_of_ble_eq_true rfl)
  rw [lg_entry_eq]
  have hB : Bd p s m #[Value.ref b] meth c G code 9 RL wsL_law ret meth.name := ⟨⟨hx, hb, hml, hown, fun w h => hts w (wsL_law_in w h)⟩, hr, hlocks, rfl, hK, hS, Nat.le_of_eq hn0⟩
  exact law_main G l hl9 b hB hn0 L xs hL hX (by rw [hn0]; exact hbl) (fun _ => none) s.heap.size (Nat.le_of_eq hn0) s.heap [] _ hl ⟨rfl, fun a e h => by cases h⟩ va_S.rf

set_option maxHeartbeats 4000000 in
set_option maxRecDepth 100000 in
theorem s_X2_isSampledX (G : EnvG) (l : Launch) (Φ : Hm) (sz x ca : Nat) (tm : Nat) (r : Nat) (w : Nat) (aq : Int32) (xp : Int32) (xb : Int32) (ob : Int64) (sm : Int64) (un : UN) (hx : G.2.2.2 ≤ x) (hI : In G x ca Φ) (hc0 : Φ (x + 80) = some (o_ 4 [.ref (x + 3), .ref (x + 74), .ref (x + 81), .ref (x + 95), .int (nI tm), .int (nI r), .int (nI w), .int aq, .int xp, .int xb, .long ob, .long sm, .long (un.1)])) (hr : 1 ≤ r ∧ r ≤ 1024) (hw : w < 2147483648) (had : aq = 0 ∨ aq = 1) : Ct G l yX2_isSampled wsX2_isSampled ({ frames := 0, cells := 0, slots := 0, locals := 0 }) 0 0 [.ref (x + 80)] Φ sz (fun v Φ1 sz1 => ((v = some (.int 1) ∧ Φ1 (x + 80) = some (o_ 4 [.ref (x + 3), .ref (x + 74), .ref (x + 81), .ref (x + 95), .int (nI tm), .int (nI r), .int (nI (smW r w)), .int aq, .int xp, .int xb, .long ob, .long sm, .long (un.1)]) ∧ smB r w) ∨ (v = some (.int 0) ∧ Φ1 (x + 80) = some (o_ 4 [.ref (x + 3), .ref (x + 74), .ref (x + 81), .ref (x + 95), .int (nI tm), .int (nI r), .int (nI (smW r w)), .int aq, .int xp, .int xb, .long ob, .long sm, .long (un.1)]) ∧ ¬ smB r w)) ∧ sz1 = sz ∧ In G x (ca) Φ1 ∧ Fr x (fun j9 => j9 = 80) Φ Φ1) := by
  refine Ct.of (cc := cX2_isSampled) (maxL := 1) (ret := (some .boolean)) (by decide) rfl (Nat.le_of_ble_eq_true rfl) ?_
  intro p9 e9 s9 m9 w9 t9 k9 B
  show Z p9 l e9 _ s9 m9 _ w9 t9 k9 _ G 1 0 [(0, .ref (x + 80))] [] Φ sz 0 0
  refine z_aload_n B dX2_isSampled_0 rfl 0 rfl ?_
  refine z_get (ref := "FlowExporter$Exporter") (C := RX2) (T := TX2) (N := 13) (ci := 4) (v := .int (nI r)) B hu_X2_isSampled_X2 rfl 5 (Nat.le_of_ble_eq_true rfl) hv_X2_isSampled_27 rfl hc0 rfl dX2_isSampled_1 ?_
  refine z_iconst (v := 1) B dX2_isSampled_4 rfl ?_
  refine z_icmp_gt (tgt := 10) B dX2_isSampled_5 rfl (fun c_1 => ?_) (fun c_1 => ?_)
  · have e_1 : 1 < r := (nI_ltI (a := 1) (b := r) (by omega) (by omega)).mp c_1
    refine z_aload_n B dX2_isSampled_10 rfl 0 rfl ?_
    refine z_ldc (v := 1103515245) B (by decide +kernel) dX2_isSampled_11 ?_
    refine z_aload_n B dX2_isSampled_13 rfl 0 rfl ?_
    refine z_get (ref := "FlowExporter$Exporter") (C := RX2) (T := TX2) (N := 13) (ci := 4) (v := .int (nI w)) B hu_X2_isSampled_X2 rfl 6 (Nat.le_of_ble_eq_true rfl) hv_X2_isSampled_30 rfl hc0 rfl dX2_isSampled_14 ?_
    refine z_imul B dX2_isSampled_17 ?_
    refine z_sipush (v := 12345) B dX2_isSampled_18 rfl ?_
    refine z_iadd B dX2_isSampled_21 ?_
    refine z_ldc (v := 2147483647) B (by decide +kernel) dX2_isSampled_22 ?_
    refine z_iand B dX2_isSampled_24 ?_
    refine z_top (st1 := [.int (nI (drN w)), .ref (x + 80)]) (congrArg (fun w9 : Int32 => ([.int w9, .ref (x + 80)] : List Value)) (dr_eq w)) ?_
    refine z_put (ref := "FlowExporter$Exporter") (C := RX2) (T := TX2) (N := 13) (ci := 4) (v := .int (nI (drN w))) B hu_X2_isSampled_X2 tyX2 tyX2_ok nmX2 rfl 6 (Nat.le_of_ble_eq_true rfl) hv_X2_isSampled_30 rfl (Or.inl rfl) hc0 (Nat.le_trans hx (Nat.le_add_right x 80)) rfl rfl (Nat.le_of_ble_eq_true rfl) dX2_isSampled_25 (fun Φ1 hΦ1 => ?_)
    have h_1 : Φ1 (x + 80) = some (o_ 4 [.ref (x + 3), .ref (x + 74), .ref (x + 81), .ref (x + 95), .int (nI tm), .int (nI r), .int (nI (drN w)), .int aq, .int xp, .int xb, .long ob, .long sm, .long (un.1)]) := fset_at hΦ1
    have hI1 : In G x (ca) Φ1 := In.put (k := 80) hI hΦ1 (ok16 (k := 80) rfl ⟨nI tm, nI r, nI (drN w), aq, xp, xb, ob, sm, un.1, rfl, had⟩)
    refine z_aload_n B dX2_isSampled_28 rfl 0 rfl ?_
    refine z_get (ref := "FlowExporter$Exporter") (C := RX2) (T := TX2) (N := 13) (ci := 4) (v := .int (nI (drN w))) B hu_X2_isSampled_X2 rfl 6 (Nat.le_of_ble_eq_true rfl) hv_X2_isSampled_30 rfl h_1 rfl dX2_isSampled_29 ?_
    refine z_sipush (v := 256) B dX2_isSampled_32 rfl ?_
    refine z_idiv B dX2_isSampled_35 (by decide) ?_
    have := drN_lt w
    refine z_top (st1 := [.int (nI (drN w / 256))]) (congrArg (fun w9 : Int32 => ([.int w9] : List Value)) (pk_div (a := drN w) (d := 256) (by omega) (by decide) (by decide))) ?_
    refine z_aload_n B dX2_isSampled_36 rfl 0 rfl ?_
    refine z_get (ref := "FlowExporter$Exporter") (C := RX2) (T := TX2) (N := 13) (ci := 4) (v := .int (nI r)) B hu_X2_isSampled_X2 rfl 5 (Nat.le_of_ble_eq_true rfl) hv_X2_isSampled_27 rfl h_1 rfl dX2_isSampled_37 ?_
    refine z_irem B dX2_isSampled_40 (nI_ne0 (by omega) (by omega)) ?_
    have := Nat.mod_lt (drN w / 256) (show 0 < r by omega)
    refine z_top (st1 := [.int (nI (drN w / 256 % r))]) (congrArg (fun w9 : Int32 => ([.int w9] : List Value)) (pk_rem (a := drN w / 256) (d := r) (by omega) (by omega) (by omega))) ?_
    refine z_if_ne (tgt := 48) B dX2_isSampled_41 rfl (fun c_2 => ?_) (fun c_2 => ?_)
    · have e_2 : ¬ (drN w / 256 % r = 0) := fun h9 => c_2 ((nI_eq (a := drN w / 256 % r) (b := 0) (by omega) (by omega)).mpr h9)
      refine z_iconst (v := 0) B dX2_isSampled_48 rfl ?_
      exact z_ret_z B dX2_isSampled_49 (by decide) ⟨(Or.inr ⟨rfl, (h_1.trans (congrArg (fun w9 : Nat => some (o_ 4 [.ref (x + 3), .ref (x + 74), .ref (x + 81), .ref (x + 95), .int (nI tm), .int (nI r), .int (nI w9), .int aq, .int xp, .int xb, .long ob, .long sm, .long (un.1)])) (smW_n (by omega)).symm)), fun h9 => h9.elim (fun h8 => by omega) (fun h8 => by omega)⟩), rfl, hI1, (fun b9 h9 => ((fset_fr hΦ1 (fun h8 => h9 (80) h8 (show 80 = 80 by decide))).trans rfl))⟩
    · have e_3 : drN w / 256 % r = 0 := (nI_eq (a := drN w / 256 % r) (b := 0) (by omega) (by omega)).mp c_2
      refine z_iconst (v := 1) B dX2_isSampled_44 rfl ?_
      refine z_goto (tgt := 49) B dX2_isSampled_45 rfl ?_
      exact z_ret_z B dX2_isSampled_49 (by decide) ⟨(Or.inl ⟨rfl, (h_1.trans (congrArg (fun w9 : Nat => some (o_ 4 [.ref (x + 3), .ref (x + 74), .ref (x + 81), .ref (x + 95), .int (nI tm), .int (nI r), .int (nI w9), .int aq, .int xp, .int xb, .long ob, .long sm, .long (un.1)])) (smW_n (by omega)).symm)), Or.inr (by omega)⟩), rfl, hI1, (fun b9 h9 => ((fset_fr hΦ1 (fun h8 => h9 (80) h8 (show 80 = 80 by decide))).trans rfl))⟩
  · have e_4 : ¬ (1 < r) := fun h9 => c_1 ((nI_ltI (a := 1) (b := r) (by omega) (by omega)).mpr h9)
    refine z_iconst (v := 1) B dX2_isSampled_8 rfl ?_
    exact z_ret_z B dX2_isSampled_9 (by decide) ⟨(Or.inl ⟨rfl, (hc0.trans (congrArg (fun w9 : Nat => some (o_ 4 [.ref (x + 3), .ref (x + 74), .ref (x + 81), .ref (x + 95), .int (nI tm), .int (nI r), .int (nI w9), .int aq, .int xp, .int xb, .long ob, .long sm, .long (un.1)])) (smW_1 (by omega)).symm)), Or.inl (by omega)⟩), rfl, hI, (fun b9 h9 => rfl)⟩

theorem fq_732 {x : Nat} : ∀ j9 : Nat, x + 80 = x + j9 → (j9 = 81 ∨ j9 = 82) → False := by
  intro j9 h1 h2
  omega

theorem fq_733 {x : Nat} : ∀ j9 : Nat, x + 78 = x + j9 → (j9 = 74 ∨ (j9 = 75 ∨ (j9 = 76 ∨ j9 = 77))) → False := by
  intro j9 h1 h2
  omega

theorem fq_734 {x : Nat} : ∀ j9 : Nat, x + 79 = x + j9 → (j9 = 74 ∨ (j9 = 75 ∨ (j9 = 76 ∨ j9 = 77))) → False := by
  intro j9 h1 h2
  omega

theorem fq_735 {x : Nat} : ∀ j9 : Nat, x + 80 = x + j9 → (j9 = 74 ∨ (j9 = 75 ∨ (j9 = 76 ∨ j9 = 77))) → False := by
  intro j9 h1 h2
  omega

theorem fq_736 {x : Nat} : ∀ j9 : Nat, x + 81 = x + j9 → (j9 = 74 ∨ (j9 = 75 ∨ (j9 = 76 ∨ j9 = 77))) → False := by
  intro j9 h1 h2
  omega

theorem fq_737 : ∀ j9 : Nat, (j9 = 74 ∨ (j9 = 75 ∨ (j9 = 76 ∨ j9 = 77))) → ¬ (82 ≤ j9 ∧ j9 < 95) := by
  intro j9 h
  omega

theorem fq_738 : ∀ j9 : Nat, (j9 = 81 ∨ j9 = 82) → (74 ≤ j9 ∧ j9 < 95) := by
  intro j9 h
  omega

theorem fq_739 : ∀ j9 : Nat, (j9 = 74 ∨ (j9 = 75 ∨ (j9 = 76 ∨ j9 = 77))) → (74 ≤ j9 ∧ j9 < 95) := by
  intro j9 h
  omega

set_option maxHeartbeats 4000000 in
set_option maxRecDepth 100000 in
theorem s_X2_exportAtX (G : EnvG) (l : Launch) (Φ : Hm) (sz x ca : Nat) (tm : Nat) (r : Nat) (w : Nat) (aq : Int32) (xp : Int32) (xb : Int32) (ob : Int64) (sm : Int64) (un : UN) (n : Nat) (Fs : Nat → Fl) (pp : Nat → Nat) (t : Nat) (s : Nat) (c : Cf) (sn : SN) (i : Nat) (hx : G.2.2.2 ≤ x) (hI : In G x ca Φ) (hc0 : Φ (x + 80) = some (o_ 4 [.ref (x + 3), .ref (x + 74), .ref (x + 81), .ref (x + 95), .int (nI tm), .int (nI r), .int (nI w), .int aq, .int xp, .int xb, .long ob, .long sm, .long (un.1)])) (hc1 : Φ (x + 81) = some (o_ 6 [.ref (x + 82), .int (nI n)])) (hcf0 : TbC G x n 99 Fs pp Φ) (hcf1 : CfA G x t s c Φ) (hcf2 : SdP G x c sn un Φ) (hi : i < n) (hn : n ≤ 12) (hg : CfG c) (had : aq = 0 ∨ aq = 1) : Ct G l yX2_exportAt wsX2_exportAt ({ frames := 3, cells := 0, slots := 0, locals := 71 }) 0 0 [.ref (x + 80), .int (nI i)] Φ sz (fun v Φ1 sz1 => (v = none ∧ Φ1 (x + 80) = some (o_ 4 [.ref (x + 3), .ref (x + 74), .ref (x + 81), .ref (x + 95), .int (nI tm), .int (nI r), .int (nI w), .int aq, .int (xp + 1), .int xb, .long ob, .long sm, .long ((unE c (Fs i).1 un).1)]) ∧ Φ1 (x + 81) = some (o_ 6 [.ref (x + 82), .int (nI ((n - 1)))]) ∧ TbC G x (n - 1) 99 (shF Fs i) (shP pp n i) Φ1 ∧ SdP G x c sn (unE c (Fs i).1 un) Φ1) ∧ sz1 = sz ∧ In G x (ca) Φ1 ∧ Fr x (fun j9 => 74 ≤ j9 ∧ j9 < 95) Φ Φ1) := by
  refine Ct.of (cc := cX2_exportAt) (maxL := 4) (ret := none) (by decide) rfl (Nat.le_of_ble_eq_true rfl) ?_
  intro p9 e9 s9 m9 w9 t9 k9 B
  show Z p9 l e9 _ s9 m9 _ w9 t9 k9 _ G 4 0 [(0, .ref (x + 80)), (1, .int (nI i))] [] Φ sz 0 0
  refine z_aload_n B dX2_exportAt_0 rfl 0 rfl ?_
  refine z_get (ref := "FlowExporter$Exporter") (C := RX2) (T := TX2) (N := 13) (ci := 4) (v := .ref (x + 81)) B hu_X2_exportAt_X2 rfl 2 (Nat.le_of_ble_eq_true rfl) hv_X2_exportAt_14 rfl hc0 rfl dX2_exportAt_1 ?_
  refine z_iload_n B dX2_exportAt_4 rfl 1 rfl ?_
  have e_1 := TbR.fl hcf0 (show i < n by omega) (show ¬ i = 99 by omega)
  have b_1 : (Fs i).1 < 2 ^ 40 ∧ (Fs i).2.2.2.1 ≤ 1000000 ∧ (Fs i).2.2.2.2 ≤ 1000000 := e_1.1
  have h_1 : Φ (x + (83 + pp i)) = some (o_ 5 [.long (Int64.ofNat (Fs i).1), .long ((Fs i).2.1), .long ((Fs i).2.2.1), .int (nI ((Fs i).2.2.2.1)), .int (nI ((Fs i).2.2.2.2))]) := e_1.2
  refine z_callV (As := [.int (nI i)]) (rest := []) B (s_X4_removeAtX G l Φ sz x (ca) n Fs pp i hx hI hc1 hcf0 (show i < n by omega) (show n ≤ 12 by omega)) (cwV 1 B.1.2.2.2.2 gX2_exportAt_X4_removeAt rfl rfl rfl (by decide +kernel) ⟨Nat.le_of_ble_eq_true rfl, Nat.le_of_ble_eq_true rfl⟩) hc1 rfl rfl rfl rfl (Nat.le_of_ble_eq_true rfl) dX2_exportAt_5 ⟨Nat.le_of_ble_eq_true rfl, Nat.le_of_ble_eq_true rfl⟩ (fun r_1 Φ1 sz1 st1 hp1 hs1 => ?_)
  obtain ⟨⟨rfl, h_2, hcg1⟩, hq1, hI1, hF1⟩ := hp1
  subst sz1
  replace hs1 : st1 = [.ref (x + (83 + pp i))] := hs1
  subst st1
  replace hI1 : In G x (ca) Φ1 := hI1
  refine z_astore_n (lv' := [(2, .ref (x + (83 + pp i))), (0, .ref (x + 80)), (1, .int (nI i))]) B dX2_exportAt_8 rfl (Nat.le_of_ble_eq_true rfl) rfl ?_
  refine z_aload_n B dX2_exportAt_9 rfl 1 rfl ?_
  have h_3 : Φ1 (x + 80) = some (o_ 4 [.ref (x + 3), .ref (x + 74), .ref (x + 81), .ref (x + 95), .int (nI tm), .int (nI r), .int (nI w), .int aq, .int xp, .int xb, .long ob, .long sm, .long (un.1)]) := ((hF1 (x + 80) fq_732).trans hc0)
  refine z_get (ref := "FlowExporter$Exporter") (C := RX2) (T := TX2) (N := 13) (ci := 4) (v := .ref (x + 3)) B hu_X2_exportAt_X2 rfl 0 (Nat.le_of_ble_eq_true rfl) hv_X2_exportAt_53 rfl h_3 rfl dX2_exportAt_10 ?_
  refine z_aload_n B dX2_exportAt_13 rfl 0 rfl ?_
  have h_4 : Φ1 (x + (83 + pp i)) = some (o_ 5 [.long (Int64.ofNat (Fs i).1), .long ((Fs i).2.1), .long ((Fs i).2.2.1), .int (nI ((Fs i).2.2.2.1)), .int (nI ((Fs i).2.2.2.2))]) := ((hF1 (x + (83 + pp i)) (fun j9 h8 h7 => by have h6 : j9 = 81 ∨ j9 = 82 := h7; omega)).trans h_1)
  refine z_get (ref := "FlowExporter$Flow") (C := RX3) (T := TX3) (N := 5) (ci := 5) (v := .long (Int64.ofNat (Fs i).1)) B hu_X2_exportAt_X3 rfl 0 (Nat.le_of_ble_eq_true rfl) hv_X2_exportAt_129 rfl h_4 rfl dX2_exportAt_14 ?_
  refine z_iconst (v := 3) B dX2_exportAt_17 rfl ?_
  refine z_callS (As := [.long (Int64.ofNat (Fs i).1), .int 3]) (rest := [.ref (x + 3)]) B (s_X3_partOf3X G l Φ1 sz x (ca) ((Fs i).1) hx hI1 (show ((Fs i).1) < 2 ^ 40 by omega)) (va_cwS 2 B.1.2.2.2.2 gX2_exportAt_X3_partOf rfl rfl rfl (by decide +kernel) ⟨Nat.le_of_ble_eq_true rfl, Nat.le_of_ble_eq_true rfl⟩) rfl rfl (Nat.le_of_ble_eq_true rfl) dX2_exportAt_18 ⟨Nat.le_of_ble_eq_true rfl, Nat.le_of_ble_eq_true rfl⟩ (fun r_2 Φ2 sz2 st2 hp2 hs2 => ?_)
  obtain ⟨rfl, hq2, hI2, hF2⟩ := hp2
  subst sz2
  replace hs2 : st2 = [.int (nI (((Fs i).1) % 256)), .ref (x + 3)] := hs2
  subst st2
  replace hI2 : In G x (ca) Φ2 := hI2
  obtain ⟨v_1, v_2, h_5⟩ := in3 (k := 3) hI2 rfl
  have h_6 : Φ2 (x + 3) = some (o_ 3 [.ref (x + 4), .ref (x + 5), .ref (x + 6), .ref (x + 7), .int v_1, .int v_2]) := h_5
  have hcg2 : CfA G x t s c Φ2 := (CfA.fr (CfA.fr hcf1 hF1 (fun j9 h7 => by have h6 : j9 = 81 ∨ j9 = 82 := h7; intros; omega)) hF2 (fun j9 h7 => (show False from h7).elim))
  refine z_callV (As := [.int (nI (((Fs i).1) % 256))]) (rest := []) B (s_X1_templateOfX G l Φ2 sz x (ca) t s c (usN c (Fs i).1) (((Fs i).1) % 256) hx hI2 hcg2 (Nat.mod_lt _ (by decide)) (CfG.us hg _).2) (cwV 1 B.1.2.2.2.2 gX2_exportAt_X1_templateOf rfl rfl rfl (by decide +kernel) ⟨Nat.le_of_ble_eq_true rfl, Nat.le_of_ble_eq_true rfl⟩) h_6 rfl rfl rfl rfl (Nat.le_of_ble_eq_true rfl) dX2_exportAt_21 ⟨Nat.le_of_ble_eq_true rfl, Nat.le_of_ble_eq_true rfl⟩ (fun r_3 Φ3 sz3 st3 hp3 hs3 => ?_)
  obtain ⟨rfl, hq3, hI3, hF3⟩ := hp3
  subst sz3
  replace hs3 : st3 = [.int (nI (usN c (Fs i).1))] := hs3
  subst st3
  replace hI3 : In G x (ca) Φ3 := hI3
  refine z_istore_n (lv' := [(3, .int (nI (usN c (Fs i).1))), (2, .ref (x + (83 + pp i))), (0, .ref (x + 80)), (1, .int (nI i))]) B dX2_exportAt_24 rfl (Nat.le_of_ble_eq_true rfl) rfl ?_
  refine z_aload_n B dX2_exportAt_25 rfl 2 rfl ?_
  refine z_dup B dX2_exportAt_26 rfl ?_
  have h_7 : Φ3 (x + 80) = some (o_ 4 [.ref (x + 3), .ref (x + 74), .ref (x + 81), .ref (x + 95), .int (nI tm), .int (nI r), .int (nI w), .int aq, .int xp, .int xb, .long ob, .long sm, .long (un.1)]) := ((hF3 (x + 80) (fun j9 h8 h7 => (show False from h7).elim)).trans ((hF2 (x + 80) (fun j9 h8 h7 => (show False from h7).elim)).trans h_3))
  refine z_get (ref := "FlowExporter$Exporter") (C := RX2) (T := TX2) (N := 13) (ci := 4) (v := .int xp) B hu_X2_exportAt_X2 rfl 8 (Nat.le_of_ble_eq_true rfl) hv_X2_exportAt_37 rfl h_7 rfl dX2_exportAt_27 ?_
  refine z_iconst (v := 1) B dX2_exportAt_30 rfl ?_
  refine z_iadd B dX2_exportAt_31 ?_
  refine z_put (ref := "FlowExporter$Exporter") (C := RX2) (T := TX2) (N := 13) (ci := 4) (v := .int (xp + 1)) B hu_X2_exportAt_X2 tyX2 tyX2_ok nmX2 rfl 8 (Nat.le_of_ble_eq_true rfl) hv_X2_exportAt_37 rfl (Or.inl rfl) h_7 (Nat.le_trans hx (Nat.le_add_right x 80)) rfl rfl (Nat.le_of_ble_eq_true rfl) dX2_exportAt_32 (fun Φ4 hΦ1 => ?_)
  have h_8 : Φ4 (x + 80) = some (o_ 4 [.ref (x + 3), .ref (x + 74), .ref (x + 81), .ref (x + 95), .int (nI tm), .int (nI r), .int (nI w), .int aq, .int (xp + 1), .int xb, .long ob, .long sm, .long (un.1)]) := fset_at hΦ1
  have hI4 : In G x (ca) Φ4 := In.put (k := 80) hI3 hΦ1 (ok16 (k := 80) rfl ⟨nI tm, nI r, nI w, aq, xp + 1, xb, ob, sm, un.1, rfl, had⟩)
  refine z_aload_n B dX2_exportAt_35 rfl 2 rfl ?_
  refine z_get (ref := "FlowExporter$Exporter") (C := RX2) (T := TX2) (N := 13) (ci := 4) (v := .ref (x + 3)) B hu_X2_exportAt_X2 rfl 0 (Nat.le_of_ble_eq_true rfl) hv_X2_exportAt_53 rfl h_8 rfl dX2_exportAt_36 ?_
  refine z_iload_n B dX2_exportAt_39 rfl 0 rfl ?_
  have h_9 : Φ4 (x + 3) = some (o_ 3 [.ref (x + 4), .ref (x + 5), .ref (x + 6), .ref (x + 7), .int v_1, .int v_2]) := ((fset_fr hΦ1 (ne_off (x := x) (i := 3) (j := 80) rfl)).trans ((hF3 (x + 3) (fun j9 h8 h7 => (show False from h7).elim)).trans h_6))
  refine z_callV (As := [.int (nI (usN c (Fs i).1))]) (rest := []) B (s_X1_effective3 G l Φ4 sz x (ca) (usN c (Fs i).1) hx hI4 (Nat.lt_succ_of_le (CfG.us hg _).1)) (cwV 1 B.1.2.2.2.2 gX2_exportAt_X1_effective rfl rfl rfl (by decide +kernel) ⟨Nat.le_of_ble_eq_true rfl, Nat.le_of_ble_eq_true rfl⟩) h_9 rfl rfl rfl rfl (Nat.le_of_ble_eq_true rfl) dX2_exportAt_40 ⟨Nat.le_of_ble_eq_true rfl, Nat.le_of_ble_eq_true rfl⟩ (fun r_4 Φ5 sz4 st4 hp4 hs4 => ?_)
  obtain ⟨rfl, hq4, hI5, hF4⟩ := hp4
  subst sz4
  replace hs4 : st4 = [.ref (x + (10 + 4 * (usN c (Fs i).1)))] := hs4
  subst st4
  replace hI5 : In G x (ca) Φ5 := hI5
  have hcg3 : CfA G x t s c Φ5 := (CfA.fr (CfA.off (k := 80) (CfA.fr hcg2 hF3 (fun j9 h7 => (show False from h7).elim)) hΦ1 (by intros; omega)) hF4 (fun j9 h7 => (show False from h7).elim))
  obtain ⟨m_1, v_3, v_4, b_2, h_10, e_2⟩ := CfA.sz0 (u := usN c (Fs i).1) hcg3 hg (CfG.us hg _).1
  refine z_get (ref := "FlowExporter$Template") (C := RX10) (T := TX10) (N := 4) (ci := 12) (v := .int (nI m_1)) B hu_X2_exportAt_X10 rfl 1 (Nat.le_of_ble_eq_true rfl) hv_X2_exportAt_143 rfl h_10 rfl dX2_exportAt_43 ?_
  refine z_if_ne (tgt := 62) B dX2_exportAt_46 rfl (fun c_1 => ?_) (fun c_1 => ?_)
  · have e_3 : ¬ (m_1 = 0) := fun h9 => c_1 ((nI_eq (a := m_1) (b := 0) (by omega) (by omega)).mpr h9)
    refine z_aload_n B dX2_exportAt_62 rfl 2 rfl ?_
    have h_11 : Φ5 (x + 80) = some (o_ 4 [.ref (x + 3), .ref (x + 74), .ref (x + 81), .ref (x + 95), .int (nI tm), .int (nI r), .int (nI w), .int aq, .int (xp + 1), .int xb, .long ob, .long sm, .long (un.1)]) := ((hF4 (x + 80) (fun j9 h8 h7 => (show False from h7).elim)).trans h_8)
    refine z_get (ref := "FlowExporter$Exporter") (C := RX2) (T := TX2) (N := 13) (ci := 4) (v := .ref (x + 74)) B hu_X2_exportAt_X2 rfl 1 (Nat.le_of_ble_eq_true rfl) hv_X2_exportAt_57 rfl h_11 rfl dX2_exportAt_63 ?_
    refine z_aload_n B dX2_exportAt_66 rfl 1 rfl ?_
    refine z_iload_n B dX2_exportAt_67 rfl 0 rfl ?_
    refine z_aload_n B dX2_exportAt_68 rfl 2 rfl ?_
    refine z_get (ref := "FlowExporter$Exporter") (C := RX2) (T := TX2) (N := 13) (ci := 4) (v := .int (nI r)) B hu_X2_exportAt_X2 rfl 5 (Nat.le_of_ble_eq_true rfl) hv_X2_exportAt_27 rfl h_11 rfl dX2_exportAt_69 ?_
    refine z_callS (As := [.int (nI r)]) (rest := [.int (nI (usN c (Fs i).1)), .ref (x + (83 + pp i)), .ref (x + 74)]) B (s_X2_bitsOfInverse G l Φ5 sz x (ca) (nI r) hx hI5 ) (va_cwS 1 B.1.2.2.2.2 gX2_exportAt_X2_bitsOfInverse rfl rfl rfl (by decide +kernel) ⟨Nat.le_of_ble_eq_true rfl, Nat.le_of_ble_eq_true rfl⟩) rfl rfl (Nat.le_of_ble_eq_true rfl) dX2_exportAt_72 ⟨Nat.le_of_ble_eq_true rfl, Nat.le_of_ble_eq_true rfl⟩ (fun r_5 Φ6 sz5 st5 hp5 hs5 => ?_)
    obtain ⟨⟨v_5, rfl⟩, hq5, hI6, hF5⟩ := hp5
    subst sz5
    replace hs5 : st5 = [.int v_5, .int (nI (usN c (Fs i).1)), .ref (x + (83 + pp i)), .ref (x + 74)] := hs5
    subst st5
    replace hI6 : In G x (ca) Φ6 := hI6
    have hcg4 : SdP G x c sn un Φ6 := (SdP.fr (SdP.fr (SdP.off (k := 80) (SdP.fr (SdP.fr (SdP.fr hcf2 hF1 (fun j9 h7 => by have h6 : j9 = 81 ∨ j9 = 82 := h7; omega)) hF2 (fun j9 h7 => (show False from h7).elim)) hF3 (fun j9 h7 => (show False from h7).elim)) hΦ1 (by omega)) hF4 (fun j9 h7 => (show False from h7).elim)) hF5 (fun j9 h7 => (show False from h7).elim))
    obtain ⟨f_1, h_12, h_13, h_14, h_15, h_16, h_17, h_18⟩ := hcg4
    have hcg5 : CfA G x t s c Φ6 := (CfA.fr hcg3 hF5 (fun j9 h7 => (show False from h7).elim))
    refine z_callV (As := [.ref (x + (83 + pp i)), .int (nI (usN c (Fs i).1)), .int v_5]) (rest := []) B (s_X8_addRecordX G l Φ6 sz x (ca) un.2.1 sn.2.2.1 sn.2.2.2.1 sn.2.2.2.2 (plN c un.2.2 un.2.1) f_1 t s c (83 + pp i) (usN c (Fs i).1) v_5 hx hI6 (kd_f (k := 82) rfl (show pp i < 12 from TbR.lt hcf0 (by omega))) h_12 h_13 h_14 hcg5 (Nat.lt_succ_of_le (CfG.us hg _).1) h_16 (plN_le _ (fun j9 h9 => ((CfA.W hcg5 hg) _ (h_15 j9 h9).2).2.1)) hg) (cwV 3 B.1.2.2.2.2 gX2_exportAt_X8_addRecord rfl rfl rfl (by decide +kernel) ⟨Nat.le_of_ble_eq_true rfl, Nat.le_of_ble_eq_true rfl⟩) h_12 rfl rfl rfl rfl (Nat.le_of_ble_eq_true rfl) dX2_exportAt_75 ⟨Nat.le_of_ble_eq_true rfl, Nat.le_of_ble_eq_true rfl⟩ (fun r_6 Φ7 sz6 st6 hp6 hs6 => ?_)
    obtain ⟨⟨n_1, n_2, f_2, rfl, h_19, h_20, h_21, e_4⟩, hq6, hI7, hF6⟩ := hp6
    subst sz6
    replace hs6 : st6 = [] := hs6
    subst st6
    replace hI7 : In G x (ca) Φ7 := hI7
    replace e_4 : ((un.2.1) < 12 ∧ n_1 = (un.2.1) + 1 ∧ n_2 = (plN c un.2.2 un.2.1) + rlN c (usN c (Fs i).1) ∧ f_2 = upd f_1 (un.2.1) (nI (usN c (Fs i).1))) ∨ (¬ (un.2.1) < 12 ∧ n_1 = (un.2.1) ∧ n_2 = (plN c un.2.2 un.2.1) ∧ f_2 = f_1) := e_4
    have h_22 : Φ7 (x + 78) = some (ai_ G 4 sn.1) := ((hF6 (x + 78) fq_733).trans h_17)
    have h_23 : Φ7 (x + 79) = some (ai_ G 4 sn.2.1) := ((hF6 (x + 79) fq_734).trans h_18)
    have hcg6 : SdP G x c sn (uPu un (usN c (Fs i).1)) Φ7 := SdP.add h_15 h_16 (Nat.lt_succ_of_le (CfG.us hg _).1) h_19 h_20 h_21 h_22 h_23 e_4
    have h_24 : Φ7 (x + 80) = some (o_ 4 [.ref (x + 3), .ref (x + 74), .ref (x + 81), .ref (x + 95), .int (nI tm), .int (nI r), .int (nI w), .int aq, .int (xp + 1), .int xb, .long ob, .long sm, .long (un.1)]) := ((hF6 (x + 80) fq_735).trans ((hF5 (x + 80) (fun j9 h8 h7 => (show False from h7).elim)).trans h_11))
    have h_25 : Φ7 (x + 81) = some (o_ 6 [.ref (x + 82), .int (nI ((n - 1)))]) := ((hF6 (x + 81) fq_736).trans ((hF5 (x + 81) (fun j9 h8 h7 => (show False from h7).elim)).trans ((hF4 (x + 81) (fun j9 h8 h7 => (show False from h7).elim)).trans ((fset_fr hΦ1 (ne_off (x := x) (i := 81) (j := 80) rfl)).trans ((hF3 (x + 81) (fun j9 h8 h7 => (show False from h7).elim)).trans ((hF2 (x + 81) (fun j9 h8 h7 => (show False from h7).elim)).trans h_2))))))
    have hcg7 : TbC G x (n - 1) 99 (shF Fs i) (shP pp n i) Φ7 := (TbC.fr (TbC.fr (TbC.fr (TbC.off (k := 80) (TbC.fr (TbC.fr hcg1 hF2 (fun j9 h7 => (show False from h7).elim)) hF3 (fun j9 h7 => (show False from h7).elim)) hΦ1 (by omega)) hF4 (fun j9 h7 => (show False from h7).elim)) hF5 (fun j9 h7 => (show False from h7).elim)) hF6 (fun j9 h7 => fq_737 j9 h7))
    exact z_ret_v B dX2_exportAt_78 ⟨⟨rfl, (h_24.trans (congrArg (fun w9 : Int64 => some (o_ 4 [.ref (x + 3), .ref (x + 74), .ref (x + 81), .ref (x + 95), .int (nI tm), .int (nI r), .int (nI w), .int aq, .int (xp + 1), .int xb, .long ob, .long sm, .long w9])) ((congrArg Prod.fst (unE_n (fun h9 => by have := e_2.mpr h9; omega))).trans uPu_1).symm)), h_25, hcg7, SdP.eq1 (unE_n (fun h9 => by have := e_2.mpr h9; omega)) hcg6⟩, rfl, hI7, (fun b9 h9 => ((hF6 b9 (fun j9 h8 h7 => h9 j9 h8 (fq_739 j9 h7))).trans ((hF5 b9 (fun j9 h8 h7 => (show False from h7).elim)).trans ((hF4 b9 (fun j9 h8 h7 => (show False from h7).elim)).trans ((fset_fr hΦ1 (fun h8 => h9 (80) h8 (show 74 ≤ 80 ∧ 80 < 95 by decide))).trans ((hF3 b9 (fun j9 h8 h7 => (show False from h7).elim)).trans ((hF2 b9 (fun j9 h8 h7 => (show False from h7).elim)).trans ((hF1 b9 (fun j9 h8 h7 => h9 j9 h8 (fq_738 j9 h7))).trans rfl))))))))⟩
  · have e_5 : m_1 = 0 := (nI_eq (a := m_1) (b := 0) (by omega) (by omega)).mp c_1
    refine z_aload_n B dX2_exportAt_49 rfl 2 rfl ?_
    refine z_dup B dX2_exportAt_50 rfl ?_
    have h_26 : Φ5 (x + 80) = some (o_ 4 [.ref (x + 3), .ref (x + 74), .ref (x + 81), .ref (x + 95), .int (nI tm), .int (nI r), .int (nI w), .int aq, .int (xp + 1), .int xb, .long ob, .long sm, .long (un.1)]) := ((hF4 (x + 80) (fun j9 h8 h7 => (show False from h7).elim)).trans h_8)
    refine z_get (ref := "FlowExporter$Exporter") (C := RX2) (T := TX2) (N := 13) (ci := 4) (v := .long (un.1)) B hu_X2_exportAt_X2 rfl 12 (Nat.le_of_ble_eq_true rfl) hv_X2_exportAt_50 rfl h_26 rfl dX2_exportAt_51 ?_
    refine z_lconst (v := 1) B dX2_exportAt_54 rfl ?_
    refine z_ladd B dX2_exportAt_55 ?_
    refine z_put (ref := "FlowExporter$Exporter") (C := RX2) (T := TX2) (N := 13) (ci := 4) (v := .long (un.1 + 1)) B hu_X2_exportAt_X2 tyX2 tyX2_ok nmX2 rfl 12 (Nat.le_of_ble_eq_true rfl) hv_X2_exportAt_50 rfl (Or.inl rfl) h_26 (Nat.le_trans hx (Nat.le_add_right x 80)) rfl rfl (Nat.le_of_ble_eq_true rfl) dX2_exportAt_56 (fun Φ8 hΦ2 => ?_)
    have h_27 : Φ8 (x + 80) = some (o_ 4 [.ref (x + 3), .ref (x + 74), .ref (x + 81), .ref (x + 95), .int (nI tm), .int (nI r), .int (nI w), .int aq, .int (xp + 1), .int xb, .long ob, .long sm, .long (un.1 + 1)]) := fset_at hΦ2
    have hI8 : In G x (ca) Φ8 := In.put (k := 80) hI5 hΦ2 (ok16 (k := 80) rfl ⟨nI tm, nI r, nI w, aq, xp + 1, xb, ob, sm, un.1 + 1, rfl, had⟩)
    refine z_goto (tgt := 78) B dX2_exportAt_59 rfl ?_
    have hcg8 : SdP G x c sn un Φ8 := (SdP.off (k := 80) (SdP.fr (SdP.off (k := 80) (SdP.fr (SdP.fr (SdP.fr hcf2 hF1 (fun j9 h7 => by have h6 : j9 = 81 ∨ j9 = 82 := h7; omega)) hF2 (fun j9 h7 => (show False from h7).elim)) hF3 (fun j9 h7 => (show False from h7).elim)) hΦ1 (by omega)) hF4 (fun j9 h7 => (show False from h7).elim)) hΦ2 (by omega))
    have h_28 : Φ8 (x + 81) = some (o_ 6 [.ref (x + 82), .int (nI ((n - 1)))]) := ((fset_fr hΦ2 (ne_off (x := x) (i := 81) (j := 80) rfl)).trans ((hF4 (x + 81) (fun j9 h8 h7 => (show False from h7).elim)).trans ((fset_fr hΦ1 (ne_off (x := x) (i := 81) (j := 80) rfl)).trans ((hF3 (x + 81) (fun j9 h8 h7 => (show False from h7).elim)).trans ((hF2 (x + 81) (fun j9 h8 h7 => (show False from h7).elim)).trans h_2)))))
    have hcg9 : TbC G x (n - 1) 99 (shF Fs i) (shP pp n i) Φ8 := (TbC.off (k := 80) (TbC.fr (TbC.off (k := 80) (TbC.fr (TbC.fr hcg1 hF2 (fun j9 h7 => (show False from h7).elim)) hF3 (fun j9 h7 => (show False from h7).elim)) hΦ1 (by omega)) hF4 (fun j9 h7 => (show False from h7).elim)) hΦ2 (by omega))
    exact z_ret_v B dX2_exportAt_78 ⟨⟨rfl, (h_27.trans (congrArg (fun w9 : Int64 => some (o_ 4 [.ref (x + 3), .ref (x + 74), .ref (x + 81), .ref (x + 95), .int (nI tm), .int (nI r), .int (nI w), .int aq, .int (xp + 1), .int xb, .long ob, .long sm, .long w9])) (congrArg Prod.fst (unE_y (e_2.mp (by omega)))).symm)), h_28, hcg9, SdP.eq0 (congrArg Prod.snd (unE_y (e_2.mp (by omega)))) hcg8⟩, rfl, hI8, (fun b9 h9 => ((fset_fr hΦ2 (fun h8 => h9 (80) h8 (show 74 ≤ 80 ∧ 80 < 95 by decide))).trans ((hF4 b9 (fun j9 h8 h7 => (show False from h7).elim)).trans ((fset_fr hΦ1 (fun h8 => h9 (80) h8 (show 74 ≤ 80 ∧ 80 < 95 by decide))).trans ((hF3 b9 (fun j9 h8 h7 => (show False from h7).elim)).trans ((hF2 b9 (fun j9 h8 h7 => (show False from h7).elim)).trans ((hF1 b9 (fun j9 h8 h7 => h9 j9 h8 (fq_738 j9 h7))).trans rfl)))))))⟩

set_option maxHeartbeats 4000000 in
set_option maxRecDepth 100000 in
theorem s_X2_exportAllX (G : EnvG) (l : Launch) (Φ : Hm) (sz x ca : Nat) (tm : Nat) (r : Nat) (w : Nat) (aq : Int32) (xp : Int32) (xb : Int32) (ob : Int64) (sm : Int64) (un : UN) (n : Nat) (Fs : Nat → Fl) (pp : Nat → Nat) (t : Nat) (s : Nat) (c : Cf) (sn : SN) (hx : G.2.2.2 ≤ x) (hI : In G x ca Φ) (hc0 : Φ (x + 80) = some (o_ 4 [.ref (x + 3), .ref (x + 74), .ref (x + 81), .ref (x + 95), .int (nI tm), .int (nI r), .int (nI w), .int aq, .int xp, .int xb, .long ob, .long sm, .long (un.1)])) (hc1 : Φ (x + 81) = some (o_ 6 [.ref (x + 82), .int (nI n)])) (hcf0 : TbC G x n 99 Fs pp Φ) (hcf1 : CfA G x t s c Φ) (hcf2 : SdP G x c sn un Φ) (hn : n ≤ 12) (hg : CfG c) (had : aq = 0 ∨ aq = 1) : Ct G l yX2_exportAll wsX2_exportAll ({ frames := 4, cells := 0, slots := 0, locals := 94 }) 0 0 [.ref (x + 80)] Φ sz (fun v Φ1 sz1 => (∃ (F8 : Nat → Fl) (u8 : UN) (p8 : Nat → Nat), v = none ∧ Φ1 (x + 80) = some (o_ 4 [.ref (x + 3), .ref (x + 74), .ref (x + 81), .ref (x + 95), .int (nI tm), .int (nI r), .int (nI w), .int aq, .int (xp + nI n), .int xb, .long ob, .long sm, .long (u8.1)]) ∧ Φ1 (x + 81) = some (o_ 6 [.ref (x + 82), .int (nI 0)]) ∧ TbC G x 0 99 F8 p8 Φ1 ∧ SdP G x c sn u8 Φ1 ∧ (exI c (n, Fs, un) n = (0, F8, u8))) ∧ sz1 = sz ∧ In G x (ca) Φ1 ∧ Fr x (fun j9 => 74 ≤ j9 ∧ j9 < 95) Φ Φ1) := by
  refine Ct.of (cc := cX2_exportAll) (maxL := 2) (ret := none) (by decide) rfl (Nat.le_of_ble_eq_true rfl) ?_
  intro p9 e9 s9 m9 w9 t9 k9 B
  show Z p9 l e9 _ s9 m9 _ w9 t9 k9 _ G 2 0 [(0, .ref (x + 80))] [] Φ sz 0 0
  refine z_aload_n B dX2_exportAll_0 rfl 0 rfl ?_
  refine z_get (ref := "FlowExporter$Exporter") (C := RX2) (T := TX2) (N := 13) (ci := 4) (v := .ref (x + 81)) B hu_X2_exportAll_X2 rfl 2 (Nat.le_of_ble_eq_true rfl) hv_X2_exportAll_14 rfl hc0 rfl dX2_exportAll_1 ?_
  refine z_get (ref := "FlowExporter$FlowTable") (C := RX4) (T := TX4) (N := 2) (ci := 6) (v := .int (nI n)) B hu_X2_exportAll_X4 rfl 1 (Nat.le_of_ble_eq_true rfl) hv_X2_exportAll_61 rfl hc1 rfl dX2_exportAll_4 ?_
  refine z_istore_n (lv' := [(1, .int (nI n)), (0, .ref (x + 80))]) B dX2_exportAll_7 rfl (Nat.le_of_ble_eq_true rfl) rfl ?_
  refine z_lv [0, 1] rfl ?_
  refine z_loop (α := Nat × (Nat → Fl) × UN × (Nat → Nat)) (fun (a9 : Nat × (Nat → Fl) × UN × (Nat → Nat)) Φi => In G x (ca) Φi ∧ Fr x (fun j9 => 74 ≤ j9 ∧ j9 < 95) Φ Φi ∧ (a9.1 ≤ n) ∧ (exI c (n, Fs, un) (n - a9.1) = (a9.1, a9.2.1, a9.2.2.1)) ∧ (TbC G x a9.1 99 a9.2.1 a9.2.2.2 Φi) ∧ (CfA G x t s c Φi) ∧ (SdP G x c sn a9.2.2.1 Φi) ∧ (Φi (x + 80) = some (o_ 4 [.ref (x + 3), .ref (x + 74), .ref (x + 81), .ref (x + 95), .int (nI tm), .int (nI r), .int (nI w), .int aq, .int (xp + nI (n - a9.1)), .int xb, .long ob, .long sm, .long (a9.2.2.1.1)])) ∧ (Φi (x + 81) = some (o_ 6 [.ref (x + 82), .int (nI (a9.1))])) ∧ True) (fun a9 => [(1, .int (nI (a9.1))), (0, .ref (x + 80))]) (fun a9 => a9.1) ?_ (n, Fs, un, pp) ⟨hI, fun _ _ => rfl, (show n ≤ n by omega), (by rw [Nat.sub_self]; rfl), hcf0, hcf1, hcf2, (hc0.trans (congrArg (fun w9 : Int32 => some (o_ 4 [.ref (x + 3), .ref (x + 74), .ref (x + 81), .ref (x + 95), .int (nI tm), .int (nI r), .int (nI w), .int aq, .int w9, .int xb, .long ob, .long sm, .long (un.1)])) (nadd_0.trans (congrArg (fun w8 : Nat => xp + nI w8) (show 0 = n - n by omega))))), (hc1.trans (congrArg (fun w9 : Nat => some (o_ 6 [.ref (x + 82), .int (nI w9)])) (show n = n by omega))), trivial⟩
  rintro ⟨i_1, i_2, i_3, i_4⟩ Φl1 ⟨hI1, hF1, b_1, b_2, b_3, b_4, b_5, b_6, b_7, -⟩ ih1
  replace hI1 : In G x (ca) Φl1 := hI1
  replace b_1 : i_1 ≤ n := b_1
  replace b_2 : exI c (n, Fs, un) (n - i_1) = (i_1, i_2, i_3) := b_2
  replace b_3 : TbC G x i_1 99 i_2 i_4 Φl1 := b_3
  replace b_4 : CfA G x t s c Φl1 := b_4
  replace b_5 : SdP G x c sn i_3 Φl1 := b_5
  replace b_6 : Φl1 (x + 80) = some (o_ 4 [.ref (x + 3), .ref (x + 74), .ref (x + 81), .ref (x + 95), .int (nI tm), .int (nI r), .int (nI w), .int aq, .int (xp + nI (n - i_1)), .int xb, .long ob, .long sm, .long (i_3.1)]) := b_6
  replace b_7 : Φl1 (x + 81) = some (o_ 6 [.ref (x + 82), .int (nI (i_1))]) := b_7
  show Z p9 l e9 _ s9 m9 _ w9 t9 k9 _ G 2 8 [(1, .int (nI i_1)), (0, .ref (x + 80))] [] Φl1 _ _ _
  refine z_iload_n B dX2_exportAll_8 rfl 0 rfl ?_
  refine z_if_le (tgt := 23) B dX2_exportAll_9 rfl (fun c_1 => ?_) (fun c_1 => ?_)
  · have e_1 : i_1 ≤ 0 := (nI_leI (a := i_1) (b := 0) (by omega) (by omega)).mp c_1
    have hi0 : i_1 = 0 := by omega
    subst hi0
    exact z_ret_v B dX2_exportAll_23 ⟨⟨i_2, i_3, i_4, rfl, b_6, b_7, b_3, b_5, b_2⟩, rfl, hI1, (fun b9 h9 => ((hF1 b9 h9).trans rfl))⟩
  · have e_2 : ¬ (i_1 ≤ 0) := fun h9 => c_1 ((nI_leI (a := i_1) (b := 0) (by omega) (by omega)).mpr h9)
    refine z_aload_n B dX2_exportAll_12 rfl 1 rfl ?_
    refine z_iconst (v := 0) B dX2_exportAll_13 rfl ?_
    refine z_callV (As := [.int 0]) (rest := []) B (s_X2_exportAtX G l Φl1 sz x (ca) tm r w aq (xp + nI (n - i_1)) xb ob sm i_3 i_1 i_2 i_4 t s c sn 0 hx hI1 b_6 b_7 b_3 b_4 b_5 (show 0 < i_1 by omega) (show i_1 ≤ 12 by omega) hg had) (cwV 1 B.1.2.2.2.2 gX2_exportAll_X2_exportAt rfl rfl rfl (by decide +kernel) ⟨Nat.le_of_ble_eq_true rfl, Nat.le_of_ble_eq_true rfl⟩) b_6 rfl rfl rfl rfl (Nat.le_of_ble_eq_true rfl) dX2_exportAll_14 ⟨Nat.le_of_ble_eq_true rfl, Nat.le_of_ble_eq_true rfl⟩ (fun r_1 Φ1 sz1 st1 hp1 hs1 => ?_)
    obtain ⟨⟨rfl, h_1, h_2, hcg1, hcg2⟩, hq1, hI2, hF2⟩ := hp1
    subst sz1
    replace hs1 : st1 = [] := hs1
    subst st1
    replace hI2 : In G x (ca) Φ1 := hI2
    refine z_iinc (k := 0) (v := nI (i_1 - 1)) (lv' := [(1, .int (nI (i_1 - 1))), (0, .ref (x + 80))]) B dX2_exportAll_17 rfl (nI_m1 (show 1 ≤ i_1 by omega)) (Nat.le_of_ble_eq_true rfl) rfl ?_
    refine z_goto (tgt := 8) B dX2_exportAll_20 rfl ?_
    refine z_lv [0, 1] rfl ?_
    have hcg3 : CfA G x t s c Φ1 := (CfA.fr b_4 hF2 (fun j9 h7 => by have h6 : 74 ≤ j9 ∧ j9 < 95 := h7; intros; omega))
    exact ih1 (i_1 - 1, shF i_2 0, unE c (i_2 0).1 i_3, shP i_4 i_1 0) Φ1 (show (i_1 - 1) < i_1 by omega) ⟨hI2, (fun b9 h9 => ((hF2 b9 h9).trans ((hF1 b9 h9).trans rfl))), (show (i_1 - 1) ≤ n by omega), (exI_s b_2 (by omega)), hcg1, hcg3, hcg2, (h_1.trans (congrArg (fun w9 : Int32 => some (o_ 4 [.ref (x + 3), .ref (x + 74), .ref (x + 81), .ref (x + 95), .int (nI tm), .int (nI r), .int (nI w), .int aq, .int w9, .int xb, .long ob, .long sm, .long ((unE c (i_2 0).1 i_3).1)])) ((nadd xp ((n - i_1))).trans (congrArg (fun w8 : Nat => xp + nI w8) (show ((n - i_1)) + 1 = n - (i_1 - 1) by omega))))), h_2, trivial⟩

theorem fq_740 {x : Nat} : ∀ j9 : Nat, x + 80 = x + j9 → (81 ≤ j9 ∧ j9 < 95) → False := by
  intro j9 h1 h2
  omega

theorem fq_741 : ∀ j9 : Nat, (81 ≤ j9 ∧ j9 < 95) → (74 ≤ j9 ∧ j9 < 95) := by
  intro j9 h
  omega

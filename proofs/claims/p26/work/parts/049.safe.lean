set_option maxHeartbeats 4000000 in
set_option maxRecDepth 100000 in
theorem s_X2_takePacketsX (G : EnvG) (l : Launch) (Φ : Hm) (sz x ca : Nat) (tm : Nat) (r : Nat) (w : Nat) (aq : Int32) (xp : Int32) (xb : Int32) (ob : Int64) (sm : Int64) (un : UN) (n : Nat) (Fs : Nat → Fl) (pp : Nat → Nat) (nT : Nat) (Ft : Nat → Fl) (pt : Nat → Nat) (t : Nat) (s : Nat) (c : Cf) (sn : SN) (qn : Nat) (qL : Nat → Nat) (qd : Int32) (qp : Nat → Nat) (K : Nat) (b : Nat) (m : Nat) (hx : G.2.2.2 ≤ x) (hI : In G x ca Φ) (hc0 : Φ (x + 80) = some (o_ 4 [.ref (x + 3), .ref (x + 74), .ref (x + 81), .ref (x + 95), .int (nI tm), .int (nI r), .int (nI w), .int aq, .int xp, .int xb, .long ob, .long sm, .long (un.1)])) (hc1 : Φ (x + 81) = some (o_ 6 [.ref (x + 82), .int (nI n)])) (hc2 : Φ (x + 95) = some (o_ 6 [.ref (x + 96), .int (nI nT)])) (hcf0 : TbC G x n 99 Fs pp Φ) (hcf1 : TbT G x nT 99 Ft pt Φ) (hcf2 : CfA G x t s c Φ) (hcf3 : SdP G x c sn un Φ) (hcf4 : QbR G x qn qL qd qp Φ) (hn : n ≤ 12) (hnT : nT ≤ 24) (hK : K < 2 ^ 40) (htm : tm ≤ 1000000) (hr : 1 ≤ r ∧ r ≤ 1024) (hw : w < 2147483648) (hm : m ≤ 200) (hg : CfG c) (had : aq = 0 ∨ aq = 1) : Ct G l yX2_takePackets wsX2_takePackets ({ frames := 5, cells := 0, slots := 0, locals := 125 }) 0 0 [.ref (x + 80), .long (Int64.ofNat K), .int (nI b), .int (nI m)] Φ sz (fun v Φ1 sz1 => (∃ (n8 : Nat) (F8 : Nat → Fl) (u8 : UN) (w8 : Nat) (k8 : Nat) (d8 : Nat) (p8 : Nat → Nat) (m8 : Nat) (G8 : Nat → Fl) (q8 : Nat → Nat) (s8 : SN) (qn8 : Nat) (qL8 : Nat → Nat) (qd8 : Int32), v = some (.int (nI k8)) ∧ Φ1 (x + 80) = some (o_ 4 [.ref (x + 3), .ref (x + 74), .ref (x + 81), .ref (x + 95), .int (nI tm), .int (nI r), .int (nI w8), .int aq, .int (xp + nI d8), .int xb, .long (ob + (nI m).toInt64), .long (sm + (nI k8).toInt64), .long ((uZ u8).1)]) ∧ Φ1 (x + 81) = some (o_ 6 [.ref (x + 82), .int (nI n8)]) ∧ Φ1 (x + 95) = some (o_ 6 [.ref (x + 96), .int (nI m8)]) ∧ TbC G x n8 99 F8 p8 Φ1 ∧ TbT G x m8 99 G8 q8 Φ1 ∧ SdP G x c s8 (uZ u8) Φ1 ∧ QbR G x qn8 qL8 qd8 qp Φ1 ∧ (tkI c K (nI b).toInt64 tm r ((n, Fs, un), w, 0, 0) m = ((n8, F8, u8), w8, k8, d8)) ∧ (rmS K (nI b).toInt64 m tm (nT, Ft) = (m8, G8)) ∧ (n8 ≤ 12) ∧ (m8 ≤ 24) ∧ (w8 < 2147483648) ∧ (k8 ≤ m) ∧ (spS c (nI tm) u8.2.2 u8.2.1 sn (qn, qL, qd) = (s8, qn8, qL8, qd8))) ∧ sz1 = sz ∧ In G x (ca) Φ1 ∧ Fr x (fun j9 => 46 ≤ j9 ∧ j9 < 121) Φ Φ1) := by
  refine Ct.of (cc := cX2_takePackets) (maxL := 7) (ret := (some .int)) (by decide) rfl (Nat.le_of_ble_eq_true rfl) ?_
  intro p9 e9 s9 m9 w9 t9 k9 B
  show Z p9 l e9 _ s9 m9 _ w9 t9 k9 _ G 7 0 [(0, .ref (x + 80)), (1, .long (Int64.ofNat K)), (3, .int (nI b)), (4, .int (nI m))] [] Φ sz 0 0
  refine z_aload_n B dX2_takePackets_0 rfl 0 rfl ?_
  refine z_dup B dX2_takePackets_1 rfl ?_
  refine z_get (ref := "FlowExporter$Exporter") (C := RX2) (T := TX2) (N := 13) (ci := 4) (v := .long ob) B hu_X2_takePackets_X2 rfl 10 (Nat.le_of_ble_eq_true rfl) hv_X2_takePackets_43 rfl hc0 rfl dX2_takePackets_2 ?_
  refine z_iload B dX2_takePackets_5 3 rfl ?_
  refine z_i2l (v := (nI m).toInt64) B dX2_takePackets_7 rfl ?_
  refine z_ladd B dX2_takePackets_8 ?_
  refine z_put (ref := "FlowExporter$Exporter") (C := RX2) (T := TX2) (N := 13) (ci := 4) (v := .long (ob + ((nI m).toInt64))) B hu_X2_takePackets_X2 tyX2 tyX2_ok nmX2 rfl 10 (Nat.le_of_ble_eq_true rfl) hv_X2_takePackets_43 rfl (Or.inl rfl) hc0 (Nat.le_trans hx (Nat.le_add_right x 80)) rfl rfl (Nat.le_of_ble_eq_true rfl) dX2_takePackets_9 (fun Φ1 hΦ1 => ?_)
  have h_1 : Φ1 (x + 80) = some (o_ 4 [.ref (x + 3), .ref (x + 74), .ref (x + 81), .ref (x + 95), .int (nI tm), .int (nI r), .int (nI w), .int aq, .int xp, .int xb, .long (ob + ((nI m).toInt64)), .long sm, .long (un.1)]) := fset_at hΦ1
  have hI1 : In G x (ca) Φ1 := In.put (k := 80) hI hΦ1 (ok16 (k := 80) rfl ⟨nI tm, nI r, nI w, aq, xp, xb, ob + ((nI m).toInt64), sm, un.1, rfl, had⟩)
  refine z_aload_n B dX2_takePackets_12 rfl 0 rfl ?_
  refine z_lload_n B dX2_takePackets_13 rfl 1 rfl ?_
  refine z_iload_n B dX2_takePackets_14 rfl 2 rfl ?_
  refine z_iload B dX2_takePackets_15 3 rfl ?_
  have h_2 : Φ1 (x + 95) = some (o_ 6 [.ref (x + 96), .int (nI nT)]) := ((fset_fr hΦ1 (ne_off (x := x) (i := 95) (j := 80) rfl)).trans hc2)
  have hcg1 : TbT G x nT 99 Ft pt Φ1 := (TbT.off (k := 80) hcf1 hΦ1 (by omega))
  refine z_callV (As := [.long (Int64.ofNat K), .int (nI b), .int (nI m)]) (rest := []) B (s_X2_rememberX G l Φ1 sz x (ca) tm r w aq xp xb (ob + ((nI m).toInt64)) sm un nT Ft pt K b m hx hI1 h_1 h_2 hcg1 (show nT ≤ 24 by omega) (show K < 2 ^ 40 by omega) (show tm ≤ 1000000 by omega)) (cwV 3 B.1.2.2.2.2 gX2_takePackets_X2_remember rfl rfl rfl (by decide +kernel) ⟨Nat.le_of_ble_eq_true rfl, Nat.le_of_ble_eq_true rfl⟩) h_1 rfl rfl rfl rfl (Nat.le_of_ble_eq_true rfl) dX2_takePackets_17 ⟨Nat.le_of_ble_eq_true rfl, Nat.le_of_ble_eq_true rfl⟩ (fun r_1 Φ2 sz1 st1 hp1 hs1 => ?_)
  obtain ⟨⟨n_1, f_1, f_2, rfl, h_3, hcg2, e_1, e_2⟩, hq1, hI2, hF1⟩ := hp1
  subst sz1
  replace hs1 : st1 = [] := hs1
  subst st1
  replace hI2 : In G x (ca) Φ2 := hI2
  replace e_1 : rmS K (nI b).toInt64 m tm (nT, Ft) = (n_1, f_1) := e_1
  replace e_2 : n_1 ≤ 24 := e_2
  refine z_iconst (v := 0) B dX2_takePackets_20 rfl ?_
  refine z_istore (lv' := [(5, .int 0), (0, .ref (x + 80)), (1, .long (Int64.ofNat K)), (3, .int (nI b)), (4, .int (nI m))]) B dX2_takePackets_21 (Nat.le_of_ble_eq_true rfl) rfl ?_
  refine z_iconst (v := 0) B dX2_takePackets_23 rfl ?_
  refine z_istore (lv' := [(6, .int 0), (5, .int 0), (0, .ref (x + 80)), (1, .long (Int64.ofNat K)), (3, .int (nI b)), (4, .int (nI m))]) B dX2_takePackets_24 (Nat.le_of_ble_eq_true rfl) rfl ?_
  refine z_lv [0, 1, 2, 3, 4, 5] rfl ?_
  have hcg3 : TbC G x n 99 Fs pp Φ2 := (TbC.fr (TbC.off (k := 80) hcf0 hΦ1 (by omega)) hF1 (fun j9 h7 => fq_746 j9 h7))
  have hcg4 : CfA G x t s c Φ2 := (CfA.fr (CfA.off (k := 80) hcf2 hΦ1 (by intros; omega)) hF1 (fun j9 h7 => by have h6 : 95 ≤ j9 ∧ j9 < 121 := h7; intros; omega))
  have hcg5 : SdP G x c sn un Φ2 := (SdP.fr (SdP.off (k := 80) hcf3 hΦ1 (by omega)) hF1 (fun j9 h7 => by have h6 : 95 ≤ j9 ∧ j9 < 121 := h7; omega))
  have h_4 : Φ2 (x + 80) = some (o_ 4 [.ref (x + 3), .ref (x + 74), .ref (x + 81), .ref (x + 95), .int (nI tm), .int (nI r), .int (nI w), .int aq, .int xp, .int xb, .long (ob + ((nI m).toInt64)), .long sm, .long (un.1)]) := ((hF1 (x + 80) fq_270).trans h_1)
  have h_5 : Φ2 (x + 81) = some (o_ 6 [.ref (x + 82), .int (nI n)]) := ((hF1 (x + 81) fq_747).trans ((fset_fr hΦ1 (ne_off (x := x) (i := 81) (j := 80) rfl)).trans hc1))
  refine z_loop (α := Nat × Nat × Nat × (Nat → Fl) × UN × Nat × Nat × (Nat → Nat)) (fun (a9 : Nat × Nat × Nat × (Nat → Fl) × UN × Nat × Nat × (Nat → Nat)) Φi => In G x (ca) Φi ∧ Fr x (fun j9 => 74 ≤ j9 ∧ j9 < 95) Φ2 Φi ∧ (a9.1 ≤ m) ∧ (a9.2.2.1 ≤ 12) ∧ (a9.2.2.2.2.2.1 < 2147483648) ∧ (a9.2.1 ≤ a9.1) ∧ (tkI c K (nI b).toInt64 tm r ((n, Fs, un), w, 0, 0) a9.1 = ((a9.2.2.1, a9.2.2.2.1, a9.2.2.2.2.1), a9.2.2.2.2.2.1, a9.2.1, a9.2.2.2.2.2.2.1)) ∧ (TbC G x a9.2.2.1 99 a9.2.2.2.1 a9.2.2.2.2.2.2.2 Φi) ∧ (CfA G x t s c Φi) ∧ (SdP G x c sn a9.2.2.2.2.1 Φi) ∧ (Φi (x + 80) = some (o_ 4 [.ref (x + 3), .ref (x + 74), .ref (x + 81), .ref (x + 95), .int (nI tm), .int (nI r), .int (nI a9.2.2.2.2.2.1), .int aq, .int (xp + nI a9.2.2.2.2.2.2.1), .int xb, .long (ob + (nI m).toInt64), .long sm, .long (a9.2.2.2.2.1.1)])) ∧ (Φi (x + 81) = some (o_ 6 [.ref (x + 82), .int (nI (a9.2.2.1))])) ∧ True) (fun a9 => [(6, .int (nI (a9.1))), (5, .int (nI (a9.2.1))), (0, .ref (x + 80)), (1, .long (Int64.ofNat K)), (3, .int (nI b)), (4, .int (nI m))]) (fun a9 => m - a9.1) ?_ (0, 0, n, Fs, un, w, 0, pp) ⟨hI2, fun _ _ => rfl, (show 0 ≤ m by omega), (show n ≤ 12 by omega), (show w < 2147483648 by omega), (show 0 ≤ 0 by omega), rfl, hcg3, hcg4, hcg5, (h_4.trans (congrArg (fun w9 : Int32 => some (o_ 4 [.ref (x + 3), .ref (x + 74), .ref (x + 81), .ref (x + 95), .int (nI tm), .int (nI r), .int (nI w), .int aq, .int w9, .int xb, .long (ob + ((nI m).toInt64)), .long sm, .long (un.1)])) nadd_0)), (h_5.trans (congrArg (fun w9 : Nat => some (o_ 6 [.ref (x + 82), .int (nI w9)])) (show n = n by omega))), trivial⟩
  rintro ⟨i_1, i_2, i_3, i_4, i_5, i_6, i_7, i_8⟩ Φl1 ⟨hI3, hF2, b_1, b_2, b_3, b_4, b_5, b_6, b_7, b_8, b_9, b_10, -⟩ ih1
  replace hI3 : In G x (ca) Φl1 := hI3
  replace b_1 : i_1 ≤ m := b_1
  replace b_2 : i_3 ≤ 12 := b_2
  replace b_3 : i_6 < 2147483648 := b_3
  replace b_4 : i_2 ≤ i_1 := b_4
  replace b_5 : tkI c K (nI b).toInt64 tm r ((n, Fs, un), w, 0, 0) i_1 = ((i_3, i_4, i_5), i_6, i_2, i_7) := b_5
  replace b_6 : TbC G x i_3 99 i_4 i_8 Φl1 := b_6
  replace b_7 : CfA G x t s c Φl1 := b_7
  replace b_8 : SdP G x c sn i_5 Φl1 := b_8
  replace b_9 : Φl1 (x + 80) = some (o_ 4 [.ref (x + 3), .ref (x + 74), .ref (x + 81), .ref (x + 95), .int (nI tm), .int (nI r), .int (nI i_6), .int aq, .int (xp + nI i_7), .int xb, .long (ob + (nI m).toInt64), .long sm, .long (i_5.1)]) := b_9
  replace b_10 : Φl1 (x + 81) = some (o_ 6 [.ref (x + 82), .int (nI (i_3))]) := b_10
  show Z p9 l e9 _ s9 m9 _ w9 t9 k9 _ G 7 26 [(6, .int (nI i_1)), (5, .int (nI i_2)), (0, .ref (x + 80)), (1, .long (Int64.ofNat K)), (3, .int (nI b)), (4, .int (nI m))] [] Φl1 _ _ _
  have b_11 := smW_lt (r := r) (w := i_6) (by omega)
  refine z_iload B dX2_takePackets_26 0 rfl ?_
  refine z_iload B dX2_takePackets_28 5 rfl ?_
  refine z_icmp_ge (tgt := 55) B dX2_takePackets_30 rfl (fun c_1 => ?_) (fun c_1 => ?_)
  · have e_3 : m ≤ i_1 := (nI_leI (a := m) (b := i_1) (by omega) (by omega)).mp c_1
    refine z_aload_n B dX2_takePackets_55 rfl 2 rfl ?_
    refine z_dup B dX2_takePackets_56 rfl ?_
    refine z_get (ref := "FlowExporter$Exporter") (C := RX2) (T := TX2) (N := 13) (ci := 4) (v := .long sm) B hu_X2_takePackets_X2 rfl 11 (Nat.le_of_ble_eq_true rfl) hv_X2_takePackets_47 rfl b_9 rfl dX2_takePackets_57 ?_
    refine z_iload B dX2_takePackets_60 1 rfl ?_
    refine z_i2l (v := (nI i_2).toInt64) B dX2_takePackets_62 rfl ?_
    refine z_ladd B dX2_takePackets_63 ?_
    refine z_put (ref := "FlowExporter$Exporter") (C := RX2) (T := TX2) (N := 13) (ci := 4) (v := .long (sm + ((nI i_2).toInt64))) B hu_X2_takePackets_X2 tyX2 tyX2_ok nmX2 rfl 11 (Nat.le_of_ble_eq_true rfl) hv_X2_takePackets_47 rfl (Or.inl rfl) b_9 (Nat.le_trans hx (Nat.le_add_right x 80)) rfl rfl (Nat.le_of_ble_eq_true rfl) dX2_takePackets_64 (fun Φ3 hΦ2 => ?_)
    have h_6 : Φ3 (x + 80) = some (o_ 4 [.ref (x + 3), .ref (x + 74), .ref (x + 81), .ref (x + 95), .int (nI tm), .int (nI r), .int (nI i_6), .int aq, .int (xp + nI i_7), .int xb, .long (ob + (nI m).toInt64), .long (sm + ((nI i_2).toInt64)), .long (i_5.1)]) := fset_at hΦ2
    have hI4 : In G x (ca) Φ3 := In.put (k := 80) hI3 hΦ2 (ok16 (k := 80) rfl ⟨nI tm, nI r, nI i_6, aq, xp + nI i_7, xb, ob + (nI m).toInt64, sm + ((nI i_2).toInt64), i_5.1, rfl, had⟩)
    refine z_aload_n B dX2_takePackets_67 rfl 2 rfl ?_
    refine z_get (ref := "FlowExporter$Exporter") (C := RX2) (T := TX2) (N := 13) (ci := 4) (v := .ref (x + 74)) B hu_X2_takePackets_X2 rfl 1 (Nat.le_of_ble_eq_true rfl) hv_X2_takePackets_57 rfl h_6 rfl dX2_takePackets_68 ?_
    refine z_aload_n B dX2_takePackets_71 rfl 2 rfl ?_
    refine z_get (ref := "FlowExporter$Exporter") (C := RX2) (T := TX2) (N := 13) (ci := 4) (v := .int (nI tm)) B hu_X2_takePackets_X2 rfl 4 (Nat.le_of_ble_eq_true rfl) hv_X2_takePackets_23 rfl h_6 rfl dX2_takePackets_72 ?_
    have hcg6 : SdP G x c sn i_5 Φ3 := (SdP.off (k := 80) b_8 hΦ2 (by omega))
    obtain ⟨f_3, h_7, h_8, h_9, h_10, h_11, h_12, h_13⟩ := hcg6
    have hcg7 : CfA G x t s c Φ3 := (CfA.off (k := 80) b_7 hΦ2 (by intros; omega))
    have hcg8 : QbR G x qn qL qd qp Φ3 := (QbR.offw (k := 80) (QbR.frw (QbR.frw (QbR.offw (k := 80) hcf4 hΦ1 (by omega)) hF1 (fun j9 h7 => by have h6 : 95 ≤ j9 ∧ j9 < 121 := h7; omega)) hF2 (fun j9 h7 => by have h6 : 74 ≤ j9 ∧ j9 < 95 := h7; omega)) hΦ2 (by omega))
    refine z_callV (As := [.int (nI tm)]) (rest := []) B (s_X8_sendPendingX G l Φ3 sz x (ca) i_5.2.1 sn.2.2.1 sn.2.2.2.1 sn.2.2.2.2 sn.1 sn.2.1 i_5.2.2 (plN c i_5.2.2 i_5.2.1) f_3 t s c qn qL qd qp (nI tm) hx hI4 h_7 h_8 h_9 h_12 h_13 hcg7 hcg8 h_11 h_10 rfl hg) (cwV 1 B.1.2.2.2.2 gX2_takePackets_X8_sendPending rfl rfl rfl (by decide +kernel) ⟨Nat.le_of_ble_eq_true rfl, Nat.le_of_ble_eq_true rfl⟩) h_7 rfl rfl rfl rfl (Nat.le_of_ble_eq_true rfl) dX2_takePackets_75 ⟨Nat.le_of_ble_eq_true rfl, Nat.le_of_ble_eq_true rfl⟩ (fun r_2 Φ4 sz2 st2 hp2 hs2 => ?_)
    obtain ⟨⟨f_4, f_5, v_1, v_2, v_3, n_2, f_6, v_4, rfl, h_14, h_15, h_16, h_17, hcg9, e_4⟩, hq2, hI5, hF3⟩ := hp2
    subst sz2
    replace hs2 : st2 = [] := hs2
    subst st2
    replace hI5 : In G x (ca) Φ4 := hI5
    replace e_4 : spS c (nI tm) (i_5.2.2) (i_5.2.1) ((sn.1), (sn.2.1), (sn.2.2.1), (sn.2.2.2.1), (sn.2.2.2.2)) (qn, qL, qd) = ((f_4, f_5, v_1, v_2, v_3), (n_2, f_6, v_4)) := e_4
    obtain ⟨f_7, h_18⟩ := in14 (k := 77) hI5 rfl
    have h_19 : Φ4 (x + 77) = some (ai_ G 12 f_7) := h_18
    have hcg10 : SdP G x c (f_4, f_5, v_1, v_2, v_3) (uZ i_5) Φ4 := ⟨f_7, h_14, h_15, h_19, fun j9 h9 => absurd h9 (Nat.not_lt_zero j9), Nat.zero_le 12, h_16, h_17⟩
    refine z_iload B dX2_takePackets_78 1 rfl ?_
    have hi0 : m = i_1 := by omega
    subst hi0
    have hcg11 : TbC G x i_3 99 i_4 i_8 Φ4 := (TbC.fr (TbC.off (k := 80) b_6 hΦ2 (by omega)) hF3 (fun j9 h7 => fq_742 j9 h7))
    have hcg12 : TbT G x n_1 99 f_1 f_2 Φ4 := (TbT.fr (TbT.off (k := 80) (TbT.fr hcg2 hF2 (fun j9 h7 => fq_748 j9 h7)) hΦ2 (by omega)) hF3 (fun j9 h7 => fq_749 j9 h7))
    have h_20 : Φ4 (x + 80) = some (o_ 4 [.ref (x + 3), .ref (x + 74), .ref (x + 81), .ref (x + 95), .int (nI tm), .int (nI r), .int (nI i_6), .int aq, .int (xp + nI i_7), .int xb, .long (ob + (nI m).toInt64), .long (sm + ((nI i_2).toInt64)), .long (i_5.1)]) := ((hF3 (x + 80) fq_260).trans h_6)
    have h_21 : Φ4 (x + 81) = some (o_ 6 [.ref (x + 82), .int (nI (i_3))]) := ((hF3 (x + 81) fq_743).trans ((fset_fr hΦ2 (ne_off (x := x) (i := 81) (j := 80) rfl)).trans b_10))
    have h_22 : Φ4 (x + 95) = some (o_ 6 [.ref (x + 96), .int (nI n_1)]) := ((hF3 (x + 95) fq_751).trans ((fset_fr hΦ2 (ne_off (x := x) (i := 95) (j := 80) rfl)).trans ((hF2 (x + 95) fq_750).trans h_3)))
    exact z_ret_i B dX2_takePackets_80 ⟨⟨i_3, i_4, i_5, i_6, i_2, i_7, i_8, n_1, f_1, f_2, (f_4, f_5, v_1, v_2, v_3), n_2, f_6, v_4, rfl, h_20, h_21, h_22, hcg11, hcg12, hcg10, hcg9, b_5, e_1, by omega, by omega, by omega, by omega, e_4⟩, rfl, hI5, (fun b9 h9 => ((hF3 b9 (fun j9 h8 h7 => h9 j9 h8 (fq_275 j9 h7))).trans ((fset_fr hΦ2 (fun h8 => h9 (80) h8 (show 46 ≤ 80 ∧ 80 < 121 by decide))).trans ((hF2 b9 (fun j9 h8 h7 => h9 j9 h8 (fq_277 j9 h7))).trans ((hF1 b9 (fun j9 h8 h7 => h9 j9 h8 (fq_274 j9 h7))).trans ((fset_fr hΦ1 (fun h8 => h9 (80) h8 (show 46 ≤ 80 ∧ 80 < 121 by decide))).trans rfl))))))⟩
  · have e_5 : ¬ (m ≤ i_1) := fun h9 => c_1 ((nI_leI (a := m) (b := i_1) (by omega) (by omega)).mpr h9)
    refine z_aload_n B dX2_takePackets_33 rfl 2 rfl ?_
    refine z_callV (As := []) (rest := []) B (s_X2_isSampledX G l Φl1 sz x (ca) tm r i_6 aq (xp + nI i_7) xb (ob + (nI m).toInt64) sm i_5 hx hI3 b_9 (show 1 ≤ r ∧ r ≤ 1024 by omega) (show i_6 < 2147483648 by omega) had) (cwV 0 B.1.2.2.2.2 gX2_takePackets_X2_isSampled rfl rfl rfl (by decide +kernel) ⟨Nat.le_of_ble_eq_true rfl, Nat.le_of_ble_eq_true rfl⟩) b_9 rfl rfl rfl rfl (Nat.le_of_ble_eq_true rfl) dX2_takePackets_34 ⟨Nat.le_of_ble_eq_true rfl, Nat.le_of_ble_eq_true rfl⟩ (fun r_3 Φ5 sz3 st3 hp3 hs3 => ?_)
    obtain ⟨ha1, hq3, hI6, hF4⟩ := hp3
    subst sz3
    replace hI6 : In G x (ca) Φ5 := hI6
    rcases ha1 with ⟨rfl, h_23, e_6⟩ | ⟨rfl, h_24, e_7⟩
    · replace e_6 : smB r i_6 := e_6
      replace hs3 : st3 = [.int 1] := hs3
      subst st3
      refine z_if_eq (tgt := 49) B dX2_takePackets_37 rfl (fun h9 => absurd h9 (by decide)) (fun c_2 => ?_)
      refine z_aload_n B dX2_takePackets_40 rfl 2 rfl ?_
      refine z_lload_n B dX2_takePackets_41 rfl 3 rfl ?_
      refine z_iload_n B dX2_takePackets_42 rfl 4 rfl ?_
      have h_25 : Φ5 (x + 81) = some (o_ 6 [.ref (x + 82), .int (nI (i_3))]) := ((hF4 (x + 81) fq_745).trans b_10)
      have hcg13 : TbC G x i_3 99 i_4 i_8 Φ5 := (TbC.fr b_6 hF4 (fun j9 h7 => fq_744 j9 h7))
      have hcg14 : CfA G x t s c Φ5 := (CfA.fr b_7 hF4 (fun j9 h7 => by have h6 : j9 = 80 := h7; intros; omega))
      have hcg15 : SdP G x c sn i_5 Φ5 := (SdP.fr b_8 hF4 (fun j9 h7 => by have h6 : j9 = 80 := h7; omega))
      refine z_callV (As := [.long (Int64.ofNat K), .int (nI b)]) (rest := []) B (s_X2_addToFlowX G l Φ5 sz x (ca) tm r (smW r i_6) aq (xp + nI i_7) xb (ob + (nI m).toInt64) sm i_5 i_3 i_4 i_8 t s c sn K b hx hI6 h_23 h_25 hcg13 hcg14 hcg15 (show i_3 ≤ 12 by omega) (show K < 2 ^ 40 by omega) (show tm ≤ 1000000 by omega) hg had) (cwV 2 B.1.2.2.2.2 gX2_takePackets_X2_addToFlow rfl rfl rfl (by decide +kernel) ⟨Nat.le_of_ble_eq_true rfl, Nat.le_of_ble_eq_true rfl⟩) h_23 rfl rfl rfl rfl (Nat.le_of_ble_eq_true rfl) dX2_takePackets_43 ⟨Nat.le_of_ble_eq_true rfl, Nat.le_of_ble_eq_true rfl⟩ (fun r_4 Φ6 sz4 st4 hp4 hs4 => ?_)
      obtain ⟨⟨n_3, f_8, f_9, f_10, rfl, h_26, h_27, hcg16, hcg17, e_8, e_9⟩, hq4, hI7, hF5⟩ := hp4
      subst sz4
      replace hs4 : st4 = [] := hs4
      subst st4
      replace hI7 : In G x (ca) Φ6 := hI7
      replace e_8 : adS c K (nI b).toInt64 tm (i_3, i_4, i_5) = (n_3, f_8, f_9) := e_8
      replace e_9 : n_3 ≤ 12 := e_9
      refine z_iinc (k := 1) (v := nI (i_2 + 1)) (lv' := [(5, .int (nI (i_2 + 1))), (6, .int (nI i_1)), (0, .ref (x + 80)), (1, .long (Int64.ofNat K)), (3, .int (nI b)), (4, .int (nI m))]) B dX2_takePackets_46 rfl (nI_add i_2 1) (Nat.le_of_ble_eq_true rfl) rfl ?_
      refine z_iinc (k := 1) (v := nI (i_1 + 1)) (lv' := [(6, .int (nI (i_1 + 1))), (5, .int (nI (i_2 + 1))), (0, .ref (x + 80)), (1, .long (Int64.ofNat K)), (3, .int (nI b)), (4, .int (nI m))]) B dX2_takePackets_49 rfl (nI_add i_1 1) (Nat.le_of_ble_eq_true rfl) rfl ?_
      refine z_goto (tgt := 26) B dX2_takePackets_52 rfl ?_
      refine z_lv [0, 1, 2, 3, 4, 5] rfl ?_
      have hcg18 : CfA G x t s c Φ6 := (CfA.fr hcg14 hF5 (fun j9 h7 => by have h6 : 74 ≤ j9 ∧ j9 < 95 := h7; intros; omega))
      exact ih1 (i_1 + 1, i_2 + 1, n_3, f_8, f_9, smW r i_6, i_7 + adD K (i_3, i_4, i_5), f_10) Φ6 (show m - (i_1 + 1) < m - i_1 by omega) ⟨hI7, (fun b9 h9 => ((hF5 b9 h9).trans ((hF4 b9 (fun j9 h8 h7 => h9 j9 h8 (fq_752 j9 h7))).trans ((hF2 b9 h9).trans rfl)))), (show (i_1 + 1) ≤ m by omega), (show n_3 ≤ 12 by omega), (show (smW r i_6) < 2147483648 by omega), (show (i_2 + 1) ≤ (i_1 + 1) by omega), ((tkI_y b_5 e_6).trans (by rw [e_8])), hcg16, hcg18, hcg17, (h_26.trans (congrArg (fun w9 : Int32 => some (o_ 4 [.ref (x + 3), .ref (x + 74), .ref (x + 81), .ref (x + 95), .int (nI tm), .int (nI r), .int (nI (smW r i_6)), .int aq, .int w9, .int xb, .long (ob + (nI m).toInt64), .long sm, .long (f_9.1)])) (nadd2 xp i_7 (adD K (i_3, i_4, i_5))))), (h_27.trans (congrArg (fun w9 : Nat => some (o_ 6 [.ref (x + 82), .int (nI w9)])) (show n_3 = n_3 by omega))), trivial⟩
    · replace e_7 : ¬ smB r i_6 := e_7
      replace hs3 : st3 = [.int 0] := hs3
      subst st3
      refine z_if_eq (tgt := 49) B dX2_takePackets_37 rfl (fun c_3 => ?_) (fun h9 => absurd (by decide) h9)
      refine z_iinc (k := 0) (v := nI (i_1 + 1)) (lv' := [(6, .int (nI (i_1 + 1))), (5, .int (nI i_2)), (0, .ref (x + 80)), (1, .long (Int64.ofNat K)), (3, .int (nI b)), (4, .int (nI m))]) B dX2_takePackets_49 rfl (nI_add i_1 1) (Nat.le_of_ble_eq_true rfl) rfl ?_
      refine z_goto (tgt := 26) B dX2_takePackets_52 rfl ?_
      have hcg19 : TbC G x i_3 99 i_4 i_8 Φ5 := (TbC.fr b_6 hF4 (fun j9 h7 => fq_744 j9 h7))
      refine z_lv [0, 1, 2, 3, 4, 5] rfl ?_
      have hcg20 : CfA G x t s c Φ5 := (CfA.fr b_7 hF4 (fun j9 h7 => by have h6 : j9 = 80 := h7; intros; omega))
      have hcg21 : SdP G x c sn i_5 Φ5 := (SdP.fr b_8 hF4 (fun j9 h7 => by have h6 : j9 = 80 := h7; omega))
      have h_28 : Φ5 (x + 81) = some (o_ 6 [.ref (x + 82), .int (nI (i_3))]) := ((hF4 (x + 81) fq_745).trans b_10)
      exact ih1 (i_1 + 1, i_2, i_3, i_4, i_5, smW r i_6, i_7, i_8) Φ5 (show m - (i_1 + 1) < m - i_1 by omega) ⟨hI6, (fun b9 h9 => ((hF4 b9 (fun j9 h8 h7 => h9 j9 h8 (fq_752 j9 h7))).trans ((hF2 b9 h9).trans rfl))), (show (i_1 + 1) ≤ m by omega), (show i_3 ≤ 12 by omega), (show (smW r i_6) < 2147483648 by omega), (show i_2 ≤ (i_1 + 1) by omega), (tkI_n b_5 e_7), hcg19, hcg20, hcg21, h_24, h_28, trivial⟩

/-! the exporter's calls, as functions -/
theorem xp_d (a : Int32) (d : Nat) : a + nI d - a = nI d := by
  rw [ex_1, Int32.sub_self, Int32.zero_add]
noncomputable def srS (c : Cf) (a : Int32) (s : XS) (r : Nat) : Int32 × XS × Nat × Nat := if ¬ (1 ≤ a.toInt ∧ a.toInt ≤ 1024) then (-1, s, r, 0) else if a.toNatClampNeg = r then (0, s, r, 0) else (nI s.1, exI c s s.1, a.toNatClampNeg, s.1)
theorem srS_no {c : Cf} {a : Int32} {s : XS} {r : Nat} (h : ¬ (1 ≤ a.toInt ∧ a.toInt ≤ 1024)) : srS c a s r = (-1, s, r, 0) := if_pos h
theorem srS_eq {c : Cf} {m r : Nat} {s : XS} (h : 1 ≤ m ∧ m ≤ 1024) (e : m = r) : srS c (nI m) s r = (0, s, r, 0) := by
  unfold srS
  rw [if_neg (by rw [nI_toInt (by omega)]; omega), nI_clamp (by omega), if_pos e]
theorem srS_ne {c : Cf} {m r n : Nat} {F F1 : Nat → Fl} {u u1 : UN} (h : 1 ≤ m ∧ m ≤ 1024) (e : ¬ m = r) (hx : exI c (n, F, u) n = (0, F1, u1)) : srS c (nI m) (n, F, u) r = (nI n, (0, F1, u1), m, n) := by
  unfold srS
  rw [if_neg (by rw [nI_toInt (by omega)]; omega), nI_clamp (by omega), if_neg e, hx]
/-- the draws' state behind a seed -/
noncomputable def sdN (a : Int32) (w : Nat) : Nat := if a.toInt < 0 then w else a.toNatClampNeg
theorem sdN_no {a : Int32} {w : Nat} (h : a.toInt < 0) : sdN a w = w := if_pos h
theorem sdN_ok {m w : Nat} (h : m < 2147483648) : sdN (nI m) w = m := by
  unfold sdN
  rw [if_neg (by rw [nI_toInt (by omega)]; omega), nI_clamp (by omega)]
theorem sdN_lt {a : Int32} {w : Nat} (h : w < 2147483648) : sdN a w < 2147483648 := by
  unfold sdN
  split
  · exact h
  · have h1 := a.toInt_lt
    have h2 : a.toNatClampNeg = a.toInt.toNat := rfl
    omega
/-- a flow's field -/
noncomputable def vlL (v : Fl) : Nat → Int64
  | 0 => (nI (v.1 / 2 ^ 32 % 2 ^ 8)).toInt64
  | 1 => (nI (v.1 / 2 ^ 24 % 2 ^ 8)).toInt64
  | 2 => (nI (v.1 / 2 ^ 8 % 2 ^ 16)).toInt64
  | 3 => (nI (v.1 % 256)).toInt64
  | 4 => v.2.1
  | 5 => v.2.2.1
  | 6 => (nI v.2.2.2.1).toInt64
  | _ => (nI v.2.2.2.2).toInt64
/-- advance is not refused: its ticks, its end -/
noncomputable def Av1 (a : Int32) : Prop := 1 ≤ a.toInt ∧ a.toInt ≤ 1000
noncomputable def Av2 (t : Nat) (a : Int32) : Prop := (t : Int) + a.toInt ≤ 1000000
noncomputable def AvP (t : Nat) (a : Int32) : Prop := 1 ≤ a.toInt ∧ a.toInt ≤ 1000 ∧ (t : Int) + a.toInt ≤ 1000000
noncomputable def trU (a b d f g : Int32) (s : Nat × (Nat → Fl)) : Int64 := @ite Int64 (KyP a b d f) (Classical.propDecidable _) (trL (kyN a b d f) g s) 0
theorem trU_y {a b d f g : Int32} {s : Nat × (Nat → Fl)} (h : KyP a b d f) : trU a b d f g s = trL (kyN a b d f) g s := if_pos h
theorem trU_n {a b d f g : Int32} {s : Nat × (Nat → Fl)} (h : ¬ KyP a b d f) : trU a b d f g s = 0 := if_neg h
theorem tkI_c {c : Cf} {K t r m : Nat} {b : Int64} {s z : TS} (h : tkI c K b t r s m = z) (hm : m ≤ 200) : tkI c K b t r s (nI m).toNatClampNeg = z := by
  rw [nI_clamp (by omega)]
  exact h
theorem rmS_c {K m t : Nat} {b : Int64} {s z : Nat × (Nat → Fl)} (h : rmS K b m t s = z) (hm : m ≤ 200) : rmS K b (nI m).toNatClampNeg t s = z := by
  rw [nI_clamp (by omega)]
  exact h
/-- cached is not refused: its place, its field -/
noncomputable def Ca1 (n : Nat) (a : Int32) : Prop := 0 ≤ a.toInt ∧ a.toInt < n
noncomputable def Ca2 (b : Int32) : Prop := 0 ≤ b.toInt ∧ b.toInt ≤ 7
noncomputable def CaP (n : Nat) (a b : Int32) : Prop := 0 ≤ a.toInt ∧ a.toInt < n ∧ 0 ≤ b.toInt ∧ b.toInt ≤ 7
noncomputable def Fz : Nat → Fl := fun _ => (0, 0, 0, 0, 0)
theorem TbR.z0 {G : EnvG} {x k cap n w : Nat} {F F1 : Nat → Fl} {p : Nat → Nat} {Φ : Hm} (h : TbR G x k cap n w F p Φ) : TbR G x k cap 0 w F1 p Φ := ⟨h.1, h.2.1, h.2.2.1, Nat.zero_le _, fun j hj => absurd hj (Nat.not_lt_zero j)⟩
/-- the exporter's state: flows, what was really observed, rate, draws, exports of the interval, sampled, unsent -/
abbrev ZS : Type := (Nat × (Nat → Fl)) × (Nat × (Nat → Fl)) × Int32 × Int32 × Int32 × Int64 × Int64
/-- what load leaves of the exporter -/
noncomputable def LdX (b : Nat → Int32) (z0 : ZS) (c1 : Cf) (z1 : ZS) : Prop := (∃ (q m : Nat) (c : Cf), txA b 702 0 cB 0 = (0, q, m, c) ∧ z1 = ((0, Fz), (0, Fz), c1 0, 1, 0, 0, 0)) ∨ (∃ (er s m : Nat) (c : Cf), txA b 702 0 cB 0 = (er, s, m, c) ∧ ¬ er = 0 ∧ z1 = z0)
theorem LdX_fun {b : Nat → Int32} {z0 z1 z2 : ZS} {c1 : Cf} (h : LdX b z0 c1 z1) (h2 : LdX b z0 c1 z2) : z1 = z2 := by
  rcases h with ⟨q, m, c, e, rfl⟩ | ⟨er, s, m, c, e, he, rfl⟩ <;> rcases h2 with ⟨q2, m2, d, g, rfl⟩ | ⟨er2, s2, m2, d, g, hg, rfl⟩
  · rfl
  · have h3 := e.symm.trans g
    injection h3 with h4 h5
    exact absurd h4.symm hg
  · have h3 := e.symm.trans g
    injection h3 with h4 h5
    exact absurd h4 he
  · rfl

/-! what every text leaves of templates and uses: a template behind the last has no fields, uses are below 4 -/
noncomputable def CfH (c : Cf) : Prop := ∃ n : Nat, n ≤ 4 ∧ c 10 = nI n ∧ (∀ u, n ≤ u → u < 4 → c (11 + u) = 0) ∧ (∀ j, j < 256 → ∃ u : Nat, u ≤ 3 ∧ c (51 + j) = nI u) ∧ (∃ r : Nat, 1 ≤ r ∧ r ≤ 1024 ∧ c 0 = nI r) ∧ ∃ r : Nat, 256 ≤ r ∧ r ≤ 600 ∧ c 7 = nI r
theorem CfH.upd {c : Cf} {w : Nat} {v : Int32} (h : CfH c) (hw : (1 ≤ w ∧ w < 10 ∧ ¬ w = 7) ∨ (15 ≤ w ∧ w < 51)) : CfH (upd c w v) := by
  obtain ⟨n, h1, h2, h3, h4, ⟨r, h5, h6, h7⟩, r2, h8, h9, h10⟩ := h
  refine ⟨n, h1, (upd_ne (by omega)).trans h2, fun u q1 q2 => (upd_ne (by omega)).trans (h3 u q1 q2), fun j hj => ?_, ⟨r, h5, h6, (upd_ne (by omega)).trans h7⟩, r2, h8, h9, (upd_ne (by omega)).trans h10⟩
  obtain ⟨u, q1, q2⟩ := h4 j hj
  exact ⟨u, q1, (upd_ne (by omega)).trans q2⟩
theorem endA_1 {b : Nat → Int32} {r : RS} (h : (endA b r).1 = 0) : r.1 = 0 := by
  by_cases h1 : r.1 = 0
  · exact h1
  · have e : endA b r = r := if_neg h1
    rw [e] at h
    exact h
theorem endA_c {b : Nat → Int32} {r : RS} : (endA b r).2.2 = r.2.2 := by
  by_cases h1 : r.1 = 0
  · have e : endA b r = ((semi b r.2.1).1, (semi b r.2.1).2, r.2.2) := if_pos h1
    rw [e]
  · have e : endA b r = r := if_neg h1
    rw [e]
theorem wd_rg {L : List (List Nat)} {b : Nat → Int32} {k s e : Nat} (h : ¬ wd L b k s e = -1) : ∃ j, j < L.length ∧ wd L b k s e = nI j := by
  unfold wd at h ⊢
  by_cases hk : k = 2
  · rw [if_pos hk] at h ⊢
    obtain ⟨r, hr⟩ := WI_ex L b s (e - s)
    rw [wi_eq hr] at h ⊢
    rcases hr with ⟨j, h1, h2, -⟩ | ⟨h1, -⟩
    · exact ⟨j, h1, h2⟩
    · exact absurd h1 h
  · rw [if_neg hk] at h
    exact absurd rfl h
theorem setA_H {b : Nat → Int32} {p w : Nat} {c : Cf} (h : CfH c) (hw : w < 10) : CfH (setA b p w c).2.2 := by
  unfold setA
  by_cases h1 : (numAt b p (loS w) (hiS w)).1 = 0
  · rw [if_pos h1]
    by_cases h0 : w = 0
    · subst h0
      have hr := numAt_rg h1
      have e1 : loS 0 = 1 := rfl
      have e2 : hiS 0 = 1024 := rfl
      rw [e1, e2] at hr ⊢
      obtain ⟨n, g1, g2, g3, g4, -, r2, g8, g9, g10⟩ := h
      show CfH (upd c 0 (nI (numAt b p 1 1024).2.2))
      refine ⟨n, g1, (upd_ne (by omega)).trans g2, fun u q1 q2 => (upd_ne (by omega)).trans (g3 u q1 q2), fun j hj => ?_, ⟨(numAt b p 1 1024).2.2, by omega, by omega, upd_at⟩, r2, g8, g9, (upd_ne (by omega)).trans g10⟩
      obtain ⟨u, q1, q2⟩ := g4 j hj
      exact ⟨u, q1, (upd_ne (by omega)).trans q2⟩
    · by_cases h7 : w = 7
      · subst h7
        have hr := numAt_rg h1
        have e1 : loS 7 = 256 := rfl
        have e2 : hiS 7 = 600 := rfl
        rw [e1, e2] at hr ⊢
        obtain ⟨n, g1, g2, g3, g4, ⟨r, g5, g6, g7⟩, -⟩ := h
        show CfH (upd c 7 (nI (numAt b p 256 600).2.2))
        refine ⟨n, g1, (upd_ne (by omega)).trans g2, fun u q1 q2 => (upd_ne (by omega)).trans (g3 u q1 q2), fun j hj => ?_, ⟨r, g5, g6, (upd_ne (by omega)).trans g7⟩, (numAt b p 256 600).2.2, by omega, by omega, upd_at⟩
        obtain ⟨u, q1, q2⟩ := g4 j hj
        exact ⟨u, q1, (upd_ne (by omega)).trans q2⟩
      · exact h.upd (Or.inl ⟨by omega, hw, h7⟩)
  · rw [if_neg h1]
    exact h
theorem refA_H {b : Nat → Int32} {p : Nat} {c : Cf} (h : CfH c) : CfH (refA b p c).2.2 := by
  unfold refA
  by_cases h1 : (setA b p 4 c).1 = 0
  · rw [if_pos h1]
    exact setA_H (setA_H h (by decide)) (by decide)
  · rw [if_neg h1]
    exact setA_H h (by decide)
theorem drpA_H {b : Nat → Int32} {p : Nat} {c : Cf} (h : CfH c) : CfH (drpA b p c).2.2 := by
  unfold drpA
  by_cases h1 : wd fdW b (tk b p).1 (tk b p).2.1 (tk b p).2.2 = -1
  · rw [if_pos h1]
    exact h
  · rw [if_neg h1]
    exact h.upd (Or.inl (by decide))
theorem useA_H {b : Nat → Int32} {p : Nat} {c : Cf} (h : CfH c) : CfH (useA b p c).2.2 := by
  unfold useA
  by_cases h1 : (numAt b p 0 255).1 = 0
  · rw [if_pos h1]
    by_cases h2 : (numAt b (numAt b p 0 255).2.1 0 ((c 10).toInt - 1)).1 = 0
    · rw [if_pos h2]
      have ra := numAt_rg h1
      have rb := numAt_rg h2
      obtain ⟨n, g1, g2, g3, g4, ⟨r, g5, g6, g7⟩, r2, g8, g9, g10⟩ := h
      have e10 : (c 10).toInt = (n : Nat) := by
        rw [g2]
        exact nI_toInt (by omega)
      rw [e10] at rb ⊢
      show CfH (upd c (51 + (numAt b p 0 255).2.2) (nI (numAt b (numAt b p 0 255).2.1 0 (((n : Nat) : Int) - 1)).2.2))
      refine ⟨n, g1, (upd_ne (by omega)).trans g2, fun u q1 q2 => (upd_ne (by omega)).trans (g3 u q1 q2), fun j hj => ?_, ⟨r, g5, g6, (upd_ne (by omega)).trans g7⟩, r2, g8, g9, (upd_ne (by omega)).trans g10⟩
      by_cases e : 51 + j = 51 + (numAt b p 0 255).2.2
      · rw [e]
        exact ⟨(numAt b (numAt b p 0 255).2.1 0 (((n : Nat) : Int) - 1)).2.2, by omega, upd_at⟩
      · obtain ⟨u, q1, q2⟩ := g4 j hj
        exact ⟨u, q1, (upd_ne e).trans q2⟩
    · rw [if_neg h2]
      exact h
  · rw [if_neg h1]
    exact h
theorem tplA_H {b : Nat → Int32} : ∀ (k p : Nat) (c : Cf) (m : Nat) (ms : Int32), CfH c → ¬ c 10 = 4 → k + m = 10 → (tplA b k p c m ms).1 = 0 → CfH (tplA b k p c m ms).2.2
  | 0, p, c, m, ms, _, _, _, h => absurd (show (1 : Nat) = 0 from h) (by decide)
  | k + 1, p, c, m, ms, hc, h4, hk, h => by
    have hc2 := hc
    obtain ⟨n, g1, g2, g3, g4, ⟨r, g5, g6, g7⟩, r2, g8, g9, g10⟩ := hc2
    have hn : ¬ n = 4 := fun e => h4 (by rw [g2, e]; rfl)
    have en : (c 10).toNatClampNeg = n := by
      rw [g2]
      exact nI_clamp (by omega)
    unfold tplA at h ⊢
    by_cases h1 : ¬ m = 0 ∧ (tk b p).1 = 4
    · rw [if_pos h1]
      rw [en, g2]
      have e5 : nI n + 1 = nI (n + 1) := nI_add n 1
      rw [e5]
      show CfH (upd (upd c (11 + n) (nI m)) 10 (nI (n + 1)))
      refine ⟨n + 1, by omega, upd_at, fun u q1 q2 => ?_, fun j hj => ?_, ⟨r, g5, g6, (upd_ne (by decide)).trans ((upd_ne (by omega)).trans g7)⟩, r2, g8, g9, (upd_ne (by decide)).trans ((upd_ne (by omega)).trans g10)⟩
      · exact (upd_ne (by omega)).trans ((upd_ne (by omega)).trans (g3 u (by omega) q2))
      · obtain ⟨u, q1, q2⟩ := g4 j hj
        exact ⟨u, q1, (upd_ne (by omega)).trans ((upd_ne (by omega)).trans q2)⟩
    · rw [if_neg h1] at h ⊢
      by_cases h2 : wd fdW b (tk b p).1 (tk b p).2.1 (tk b p).2.2 = -1
      · rw [if_pos h2]
        exact hc
      · rw [if_neg h2] at h ⊢
        by_cases h3 : (ms >>> (wd fdW b (tk b p).1 (tk b p).2.1 (tk b p).2.2 &&& 31)) &&& 1 = 1
        · rw [if_pos h3]
          exact hc
        · rw [if_neg h3] at h ⊢
          rcases Nat.eq_zero_or_pos k with hk0 | hk0
          · subst hk0
            exact absurd (show (1 : Nat) = 0 from h) (by decide)
          · refine tplA_H k _ _ (m + 1) _ (hc.upd (Or.inr ?_)) ?_ (by omega) h
            · rw [en]
              omega
            · rw [en, upd_ne (by omega)]
              exact h4
theorem stK_H {b : Nat → Int32} {k s e : Nat} {c : Cf} (hc : CfH c) (h : (stK b k s e c).1 = 0) : CfH (stK b k s e c).2.2 := by
  unfold stK at h ⊢
  by_cases h1 : wd stW b k s e = -1
  · rw [if_pos h1] at h
    exact absurd (show (1 : Nat) = 0 from h) (by decide)
  · obtain ⟨j, hj, ej⟩ := wd_rg h1
    have hj2 : j < 12 := hj
    rw [if_neg h1] at h ⊢
    by_cases h2 : wd stW b k s e = 9
    · rw [if_pos h2] at h ⊢
      by_cases h3 : c 10 = 4
      · rw [if_pos h3] at h
        exact absurd (show (4 : Nat) = 0 from h) (by decide)
      · rw [if_neg h3] at h ⊢
        exact tplA_H 10 e c 0 0 hc h3 rfl h
    · rw [if_neg h2] at h ⊢
      by_cases h3 : wd stW b k s e = 10
      · rw [if_pos h3, endA_c]
        exact useA_H hc
      · rw [if_neg h3] at h ⊢
        by_cases h4 : wd stW b k s e = 11
        · rw [if_pos h4, endA_c]
          exact drpA_H hc
        · rw [if_neg h4] at h ⊢
          by_cases h5 : wd stW b k s e = 4
          · rw [if_pos h5, endA_c]
            exact refA_H hc
          · rw [if_neg h5, endA_c]
            refine setA_H hc ?_
            rw [ej] at h2 h3 h4 ⊢
            rw [nI_clamp (by omega)]
            have k2 : ¬ j = 9 := fun q => h2 (by rw [q]; rfl)
            have k3 : ¬ j = 10 := fun q => h3 (by rw [q]; rfl)
            have k4 : ¬ j = 11 := fun q => h4 (by rw [q]; rfl)
            omega
theorem txA_H {b : Nat → Int32} : ∀ (k p : Nat) (c : Cf) (n : Nat), CfH c → (txA b k p c n).1 = 0 → CfH (txA b k p c n).2.2.2
  | 0, p, c, n, _, h => absurd (show (1 : Nat) = 0 from h) (by decide)
  | k + 1, p, c, n, hc, h => by
    unfold txA at h ⊢
    by_cases h1 : (tk b p).1 = 0
    · rw [if_pos h1]
      exact hc
    · rw [if_neg h1] at h ⊢
      by_cases h2 : (stK b (tk b p).1 (tk b p).2.1 (tk b p).2.2 c).1 = 0
      · rw [if_pos h2] at h ⊢
        exact txA_H k _ _ (n + 1) (stK_H hc h2) h
      · rw [if_neg h2] at h
        exact absurd h h2
theorem cB_H : CfH cB := ⟨0, by decide, rfl, fun u _ hu => cB_hi (by omega), fun j _ => ⟨0, by decide, cB_hi (by omega)⟩, ⟨1, by decide, by decide, rfl⟩, 512, by decide, by decide, rfl⟩
theorem finC_G {c : Cf} (h : CfH c) : CfG (finC c) := by
  obtain ⟨n, g1, g2, g3, g4, ⟨r, g5, g6, g7⟩, r2, g8, g9, g10⟩ := h
  by_cases h0 : c 10 = 0
  · have e : finC c = usC c := if_pos h0
    rw [e]
    refine ⟨fun j hj => ?_, fun u m hu e1 hm => ?_, ⟨r, g5, g6, ?_⟩, r2, g8, g9, ?_⟩
    · obtain ⟨u, q1, q2⟩ := g4 j hj
      refine ⟨u, q1, ?_⟩
      unfold usC
      rw [if_neg (by omega), if_neg (by omega), if_neg (by omega)]
      exact q2
    · have hn : n = 0 := (nI_eq (a := n) (b := 0) (by omega) (by decide)).mp (g2.symm.trans h0)
      have e2 : usC c 10 = 1 := rfl
      have e3 : nI m = 1 := e1.symm.trans e2
      have h1 : m = 1 := (nI_eq (a := m) (b := 1) (by omega) (by decide)).mp e3
      unfold usC
      rw [if_neg (by omega), if_neg (by omega), if_neg (by omega)]
      exact g3 u (by omega) hu
    · unfold usC
      rw [if_neg (by omega), if_neg (by omega), if_neg (by omega)]
      exact g7
    · unfold usC
      rw [if_neg (by omega), if_neg (by omega), if_neg (by omega)]
      exact g10
  · have e : finC c = c := if_neg h0
    rw [e]
    refine ⟨g4, fun u m hu e1 hm => ?_, ⟨r, g5, g6, g7⟩, r2, g8, g9, g10⟩
    have h1 : n = m := (nI_eq (a := n) (b := m) (by omega) (by omega)).mp (g2.symm.trans e1)
    exact g3 u (by omega) hu
/-- the configuration behind a load is as good as the one before -/
theorem CfL_G {b : Nat → Int32} {c0 c1 : Cf} (h : CfL b c0 c1) (h0 : CfG c0) : CfG c1 := by
  rcases h with ⟨q, m, c, e, rfl⟩ | ⟨er, s, m, c, -, -, rfl⟩
  · have h1 : (txA b 702 0 cB 0).1 = 0 := by rw [e]
    have h2 := txA_H (b := b) 702 0 cB 0 cB_H h1
    rw [e] at h2
    exact finC_G h2
  · exact h0
theorem suC_G {c : Cf} {a v : Int32} (h : CfG c) : CfG (suC c a v) := by
  unfold suC
  by_cases e : suV c a = v
  · rw [if_pos e]
    exact h
  · rw [if_neg e]
    obtain ⟨⟨r, g5, g6, g7⟩, r2, g8, g9, g10⟩ := h.2.2
    refine ⟨fun j hj => ?_, fun u n hu e1 hn => ?_, ⟨r, g5, g6, (upd_ne (by decide)).trans g7⟩, r2, g8, g9, (upd_ne (by decide)).trans g10⟩
    · obtain ⟨u, q1, q2⟩ := h.1 j hj
      exact ⟨u, q1, (upd_ne (by omega)).trans q2⟩
    · exact (upd_ne (by omega)).trans (h.2.1 u n hu ((upd_ne (by decide)).symm.trans e1) hn)

set_option maxHeartbeats 4000000 in
set_option maxRecDepth 100000 in
theorem s_X11_cacheSizeX (G : EnvG) (l : Launch) (Φ : Hm) (sz x ca : Nat) (n : Nat) (hx : G.2.2.2 ≤ x) (hI : In G x ca Φ) (hc0 : Φ (x + 81) = some (o_ 6 [.ref (x + 82), .int (nI n)])) : Ct G l yX11_cacheSize wsX11_cacheSize ({ frames := 0, cells := 0, slots := 0, locals := 0 }) 0 0 [.ref x] Φ sz (fun v Φ1 sz1 => (v = some (.int (nI n))) ∧ sz1 = sz ∧ In G x (ca) Φ1 ∧ Fr x (fun j9 => False) Φ Φ1) := by
  refine Ct.of (cc := cX11_cacheSize) (maxL := 1) (ret := (some .int)) (by decide) rfl (Nat.le_of_ble_eq_true rfl) ?_
  intro p9 e9 s9 m9 w9 t9 k9 B
  show Z p9 l e9 _ s9 m9 _ w9 t9 k9 _ G 1 0 [(0, .ref x)] [] Φ sz 0 0
  refine z_aload_n B dX11_cacheSize_0 rfl 0 rfl ?_
  have h_1 := in0 (k := 0) hI rfl
  have h_2 : Φ x = some (o_ 13 [.ref (x + 1), .ref (x + 3), .ref (x + 24), .ref (x + 46), .ref (x + 74), .ref (x + 80), .ref (x + 132), .ref (x + 121)]) := h_1
  refine z_get (ref := "FlowExporter") (C := RX11) (T := TX11) (N := 8) (ci := 13) (v := .ref (x + 80)) B hu_X11_cacheSize_X11 rfl 5 (Nat.le_of_ble_eq_true rfl) hv_X11_cacheSize_55 rfl h_2 rfl dX11_cacheSize_1 ?_
  obtain ⟨v_1, v_2, v_3, v_4, v_5, v_6, v_7, v_8, v_9, h_3, b_1⟩ := in16 (k := 80) hI rfl
  have h_4 : Φ (x + 80) = some (o_ 4 [.ref (x + 3), .ref (x + 74), .ref (x + 81), .ref (x + 95), .int v_1, .int v_2, .int v_3, .int v_4, .int v_5, .int v_6, .long v_7, .long v_8, .long v_9]) := h_3
  refine z_get (ref := "FlowExporter$Exporter") (C := RX2) (T := TX2) (N := 13) (ci := 4) (v := .ref (x + 81)) B hu_X11_cacheSize_X2 rfl 2 (Nat.le_of_ble_eq_true rfl) hv_X11_cacheSize_146 rfl h_4 rfl dX11_cacheSize_4 ?_
  refine z_get (ref := "FlowExporter$FlowTable") (C := RX4) (T := TX4) (N := 2) (ci := 6) (v := .int (nI n)) B hu_X11_cacheSize_X4 rfl 1 (Nat.le_of_ble_eq_true rfl) hv_X11_cacheSize_150 rfl hc0 rfl dX11_cacheSize_7 ?_
  exact z_ret_i B dX11_cacheSize_10 ⟨rfl, rfl, hI, (fun b9 h9 => rfl)⟩

set_option maxHeartbeats 4000000 in
set_option maxRecDepth 100000 in
theorem s_X11_rateX (G : EnvG) (l : Launch) (Φ : Hm) (sz x ca : Nat) (tm : Nat) (r : Nat) (w : Nat) (aq : Int32) (xp : Int32) (xb : Int32) (ob : Int64) (sm : Int64) (un : UN) (hx : G.2.2.2 ≤ x) (hI : In G x ca Φ) (hc0 : Φ (x + 80) = some (o_ 4 [.ref (x + 3), .ref (x + 74), .ref (x + 81), .ref (x + 95), .int (nI tm), .int (nI r), .int (nI w), .int aq, .int xp, .int xb, .long ob, .long sm, .long (un.1)])) (had : aq = 0 ∨ aq = 1) : Ct G l yX11_rate wsX11_rate ({ frames := 0, cells := 0, slots := 0, locals := 0 }) 0 0 [.ref x] Φ sz (fun v Φ1 sz1 => (v = some (.int (nI r))) ∧ sz1 = sz ∧ In G x (ca) Φ1 ∧ Fr x (fun j9 => False) Φ Φ1) := by
  refine Ct.of (cc := cX11_rate) (maxL := 1) (ret := (some .int)) (by decide) rfl (Nat.le_of_ble_eq_true rfl) ?_
  intro p9 e9 s9 m9 w9 t9 k9 B
  show Z p9 l e9 _ s9 m9 _ w9 t9 k9 _ G 1 0 [(0, .ref x)] [] Φ sz 0 0
  refine z_aload_n B dX11_rate_0 rfl 0 rfl ?_
  have h_1 := in0 (k := 0) hI rfl
  have h_2 : Φ x = some (o_ 13 [.ref (x + 1), .ref (x + 3), .ref (x + 24), .ref (x + 46), .ref (x + 74), .ref (x + 80), .ref (x + 132), .ref (x + 121)]) := h_1
  refine z_get (ref := "FlowExporter") (C := RX11) (T := TX11) (N := 8) (ci := 13) (v := .ref (x + 80)) B hu_X11_rate_X11 rfl 5 (Nat.le_of_ble_eq_true rfl) hv_X11_rate_55 rfl h_2 rfl dX11_rate_1 ?_
  refine z_get (ref := "FlowExporter$Exporter") (C := RX2) (T := TX2) (N := 13) (ci := 4) (v := .int (nI r)) B hu_X11_rate_X2 rfl 5 (Nat.le_of_ble_eq_true rfl) hv_X11_rate_164 rfl hc0 rfl dX11_rate_4 ?_
  exact z_ret_i B dX11_rate_7 ⟨rfl, rfl, hI, (fun b9 h9 => rfl)⟩

set_option maxHeartbeats 4000000 in
set_option maxRecDepth 100000 in
theorem s_X11_sampledX (G : EnvG) (l : Launch) (Φ : Hm) (sz x ca : Nat) (tm : Nat) (r : Nat) (w : Nat) (aq : Int32) (xp : Int32) (xb : Int32) (ob : Int64) (sm : Int64) (un : UN) (hx : G.2.2.2 ≤ x) (hI : In G x ca Φ) (hc0 : Φ (x + 80) = some (o_ 4 [.ref (x + 3), .ref (x + 74), .ref (x + 81), .ref (x + 95), .int (nI tm), .int (nI r), .int (nI w), .int aq, .int xp, .int xb, .long ob, .long sm, .long (un.1)])) (had : aq = 0 ∨ aq = 1) : Ct G l yX11_sampled wsX11_sampled ({ frames := 0, cells := 0, slots := 0, locals := 0 }) 0 0 [.ref x] Φ sz (fun v Φ1 sz1 => (v = some (.long sm)) ∧ sz1 = sz ∧ In G x (ca) Φ1 ∧ Fr x (fun j9 => False) Φ Φ1) := by
  refine Ct.of (cc := cX11_sampled) (maxL := 1) (ret := (some .long)) (by decide) rfl (Nat.le_of_ble_eq_true rfl) ?_
  intro p9 e9 s9 m9 w9 t9 k9 B
  show Z p9 l e9 _ s9 m9 _ w9 t9 k9 _ G 1 0 [(0, .ref x)] [] Φ sz 0 0
  refine z_aload_n B dX11_sampled_0 rfl 0 rfl ?_
  have h_1 := in0 (k := 0) hI rfl
  have h_2 : Φ x = some (o_ 13 [.ref (x + 1), .ref (x + 3), .ref (x + 24), .ref (x + 46), .ref (x + 74), .ref (x + 80), .ref (x + 132), .ref (x + 121)]) := h_1
  refine z_get (ref := "FlowExporter") (C := RX11) (T := TX11) (N := 8) (ci := 13) (v := .ref (x + 80)) B hu_X11_sampled_X11 rfl 5 (Nat.le_of_ble_eq_true rfl) hv_X11_sampled_55 rfl h_2 rfl dX11_sampled_1 ?_
  refine z_get (ref := "FlowExporter$Exporter") (C := RX2) (T := TX2) (N := 13) (ci := 4) (v := .long sm) B hu_X11_sampled_X2 rfl 11 (Nat.le_of_ble_eq_true rfl) hv_X11_sampled_185 rfl hc0 rfl dX11_sampled_4 ?_
  exact z_ret_l B dX11_sampled_7 ⟨rfl, rfl, hI, (fun b9 h9 => rfl)⟩

set_option maxHeartbeats 4000000 in
set_option maxRecDepth 100000 in
theorem s_X11_unsentX (G : EnvG) (l : Launch) (Φ : Hm) (sz x ca : Nat) (tm : Nat) (r : Nat) (w : Nat) (aq : Int32) (xp : Int32) (xb : Int32) (ob : Int64) (sm : Int64) (un : UN) (hx : G.2.2.2 ≤ x) (hI : In G x ca Φ) (hc0 : Φ (x + 80) = some (o_ 4 [.ref (x + 3), .ref (x + 74), .ref (x + 81), .ref (x + 95), .int (nI tm), .int (nI r), .int (nI w), .int aq, .int xp, .int xb, .long ob, .long sm, .long (un.1)])) (had : aq = 0 ∨ aq = 1) : Ct G l yX11_unsent wsX11_unsent ({ frames := 0, cells := 0, slots := 0, locals := 0 }) 0 0 [.ref x] Φ sz (fun v Φ1 sz1 => (v = some (.long un)) ∧ sz1 = sz ∧ In G x (ca) Φ1 ∧ Fr x (fun j9 => False) Φ Φ1) := by
  refine Ct.of (cc := cX11_unsent) (maxL := 1) (ret := (some .long)) (by decide) rfl (Nat.le_of_ble_eq_true rfl) ?_
  intro p9 e9 s9 m9 w9 t9 k9 B
  show Z p9 l e9 _ s9 m9 _ w9 t9 k9 _ G 1 0 [(0, .ref x)] [] Φ sz 0 0
  refine z_aload_n B dX11_unsent_0 rfl 0 rfl ?_
  have h_1 := in0 (k := 0) hI rfl
  have h_2 : Φ x = some (o_ 13 [.ref (x + 1), .ref (x + 3), .ref (x + 24), .ref (x + 46), .ref (x + 74), .ref (x + 80), .ref (x + 132), .ref (x + 121)]) := h_1
  refine z_get (ref := "FlowExporter") (C := RX11) (T := TX11) (N := 8) (ci := 13) (v := .ref (x + 80)) B hu_X11_unsent_X11 rfl 5 (Nat.le_of_ble_eq_true rfl) hv_X11_unsent_55 rfl h_2 rfl dX11_unsent_1 ?_
  refine z_get (ref := "FlowExporter$Exporter") (C := RX2) (T := TX2) (N := 13) (ci := 4) (v := .long (un.1)) B hu_X11_unsent_X2 rfl 12 (Nat.le_of_ble_eq_true rfl) hv_X11_unsent_188 rfl hc0 rfl dX11_unsent_4 ?_
  exact z_ret_l B dX11_unsent_7 ⟨rfl, rfl, hI, (fun b9 h9 => rfl)⟩

set_option maxHeartbeats 4000000 in
set_option maxRecDepth 100000 in
theorem s_X2_exportAllAndSendX (G : EnvG) (l : Launch) (Φ : Hm) (sz x ca : Nat) (tm : Nat) (r : Nat) (w : Nat) (aq : Int32) (xp : Int32) (xb : Int32) (ob : Int64) (sm : Int64) (un : UN) (n : Nat) (Fs : Nat → Fl) (pp : Nat → Nat) (t : Nat) (s : Nat) (c : Cf) (sn : SN) (qn : Nat) (qL : Nat → Nat) (qd : Int32) (qp : Nat → Nat) (hx : G.2.2.2 ≤ x) (hI : In G x ca Φ) (hc0 : Φ (x + 80) = some (o_ 4 [.ref (x + 3), .ref (x + 74), .ref (x + 81), .ref (x + 95), .int (nI tm), .int (nI r), .int (nI w), .int aq, .int xp, .int xb, .long ob, .long sm, .long (un.1)])) (hc1 : Φ (x + 81) = some (o_ 6 [.ref (x + 82), .int (nI n)])) (hcf0 : TbC G x n 99 Fs pp Φ) (hcf1 : CfA G x t s c Φ) (hcf2 : SdP G x c sn un Φ) (hcf3 : QbR G x qn qL qd qp Φ) (hn : n ≤ 12) (hg : CfG c) (had : aq = 0 ∨ aq = 1) : Ct G l yX2_exportAllAndSend wsX2_exportAllAndSend ({ frames := 5, cells := 0, slots := 0, locals := 125 }) 0 0 [.ref (x + 80)] Φ sz (fun v Φ1 sz1 => (∃ (F8 : Nat → Fl) (u8 : UN) (p8 : Nat → Nat) (s8 : SN) (qn8 : Nat) (qL8 : Nat → Nat) (qd8 : Int32), v = some (.int (nI n)) ∧ Φ1 (x + 80) = some (o_ 4 [.ref (x + 3), .ref (x + 74), .ref (x + 81), .ref (x + 95), .int (nI tm), .int (nI r), .int (nI w), .int aq, .int (xp + nI n), .int xb, .long ob, .long sm, .long ((uZ u8).1)]) ∧ Φ1 (x + 81) = some (o_ 6 [.ref (x + 82), .int (nI 0)]) ∧ TbC G x 0 99 F8 p8 Φ1 ∧ SdP G x c s8 (uZ u8) Φ1 ∧ QbR G x qn8 qL8 qd8 qp Φ1 ∧ (exI c (n, Fs, un) n = (0, F8, u8)) ∧ (spS c (nI tm) u8.2.2 u8.2.1 sn (qn, qL, qd) = (s8, qn8, qL8, qd8))) ∧ sz1 = sz ∧ In G x (ca) Φ1 ∧ Fr x (fun j9 => 46 ≤ j9 ∧ j9 < 95) Φ Φ1) := by
  refine Ct.of (cc := cX2_exportAllAndSend) (maxL := 2) (ret := (some .int)) (by decide) rfl (Nat.le_of_ble_eq_true rfl) ?_
  intro p9 e9 s9 m9 w9 t9 k9 B
  show Z p9 l e9 _ s9 m9 _ w9 t9 k9 _ G 2 0 [(0, .ref (x + 80))] [] Φ sz 0 0
  refine z_aload_n B dX2_exportAllAndSend_0 rfl 0 rfl ?_
  refine z_get (ref := "FlowExporter$Exporter") (C := RX2) (T := TX2) (N := 13) (ci := 4) (v := .ref (x + 81)) B hu_X2_exportAllAndSend_X2 rfl 2 (Nat.le_of_ble_eq_true rfl) hv_X2_exportAllAndSend_14 rfl hc0 rfl dX2_exportAllAndSend_1 ?_
  refine z_get (ref := "FlowExporter$FlowTable") (C := RX4) (T := TX4) (N := 2) (ci := 6) (v := .int (nI n)) B hu_X2_exportAllAndSend_X4 rfl 1 (Nat.le_of_ble_eq_true rfl) hv_X2_exportAllAndSend_61 rfl hc1 rfl dX2_exportAllAndSend_4 ?_
  refine z_istore_n (lv' := [(1, .int (nI n)), (0, .ref (x + 80))]) B dX2_exportAllAndSend_7 rfl (Nat.le_of_ble_eq_true rfl) rfl ?_
  refine z_aload_n B dX2_exportAllAndSend_8 rfl 1 rfl ?_
  refine z_callV (As := []) (rest := []) B (s_X2_exportAllX G l Φ sz x (ca) tm r w aq xp xb ob sm un n Fs pp t s c sn hx hI hc0 hc1 hcf0 hcf1 hcf2 (show n ≤ 12 by omega) hg had) (cwV 0 B.1.2.2.2.2 gX2_exportAllAndSend_X2_exportAll rfl rfl rfl (by decide +kernel) ⟨Nat.le_of_ble_eq_true rfl, Nat.le_of_ble_eq_true rfl⟩) hc0 rfl rfl rfl rfl (Nat.le_of_ble_eq_true rfl) dX2_exportAllAndSend_9 ⟨Nat.le_of_ble_eq_true rfl, Nat.le_of_ble_eq_true rfl⟩ (fun r_1 Φ1 sz1 st1 hp1 hs1 => ?_)
  obtain ⟨⟨f_1, f_2, f_3, rfl, h_1, h_2, hcg1, hcg2, e_1⟩, hq1, hI1, hF1⟩ := hp1
  subst sz1
  replace hs1 : st1 = [] := hs1
  subst st1
  replace hI1 : In G x (ca) Φ1 := hI1
  replace e_1 : exI c (n, Fs, un) n = (0, f_1, f_2) := e_1
  refine z_aload_n B dX2_exportAllAndSend_12 rfl 1 rfl ?_
  refine z_get (ref := "FlowExporter$Exporter") (C := RX2) (T := TX2) (N := 13) (ci := 4) (v := .ref (x + 74)) B hu_X2_exportAllAndSend_X2 rfl 1 (Nat.le_of_ble_eq_true rfl) hv_X2_exportAllAndSend_57 rfl h_1 rfl dX2_exportAllAndSend_13 ?_
  refine z_aload_n B dX2_exportAllAndSend_16 rfl 1 rfl ?_
  refine z_get (ref := "FlowExporter$Exporter") (C := RX2) (T := TX2) (N := 13) (ci := 4) (v := .int (nI tm)) B hu_X2_exportAllAndSend_X2 rfl 4 (Nat.le_of_ble_eq_true rfl) hv_X2_exportAllAndSend_23 rfl h_1 rfl dX2_exportAllAndSend_17 ?_
  obtain ⟨f_4, h_3, h_4, h_5, h_6, h_7, h_8, h_9⟩ := hcg2
  have hcg3 : CfA G x t s c Φ1 := (CfA.fr hcf1 hF1 (fun j9 h7 => by have h6 : 74 ≤ j9 ∧ j9 < 95 := h7; intros; omega))
  have hcg4 : QbR G x qn qL qd qp Φ1 := (QbR.frw hcf3 hF1 (fun j9 h7 => by have h6 : 74 ≤ j9 ∧ j9 < 95 := h7; omega))
  refine z_callV (As := [.int (nI tm)]) (rest := []) B (s_X8_sendPendingX G l Φ1 sz x (ca) f_2.2.1 sn.2.2.1 sn.2.2.2.1 sn.2.2.2.2 sn.1 sn.2.1 f_2.2.2 (plN c f_2.2.2 f_2.2.1) f_4 t s c qn qL qd qp (nI tm) hx hI1 h_3 h_4 h_5 h_8 h_9 hcg3 hcg4 h_7 h_6 rfl hg) (cwV 1 B.1.2.2.2.2 gX2_exportAllAndSend_X8_sendPending rfl rfl rfl (by decide +kernel) ⟨Nat.le_of_ble_eq_true rfl, Nat.le_of_ble_eq_true rfl⟩) h_3 rfl rfl rfl rfl (Nat.le_of_ble_eq_true rfl) dX2_exportAllAndSend_20 ⟨Nat.le_of_ble_eq_true rfl, Nat.le_of_ble_eq_true rfl⟩ (fun r_2 Φ2 sz2 st2 hp2 hs2 => ?_)
  obtain ⟨⟨f_5, f_6, v_1, v_2, v_3, n_1, f_7, v_4, rfl, h_10, h_11, h_12, h_13, hcg5, e_2⟩, hq2, hI2, hF2⟩ := hp2
  subst sz2
  replace hs2 : st2 = [] := hs2
  subst st2
  replace hI2 : In G x (ca) Φ2 := hI2
  replace e_2 : spS c (nI tm) (f_2.2.2) (f_2.2.1) ((sn.1), (sn.2.1), (sn.2.2.1), (sn.2.2.2.1), (sn.2.2.2.2)) (qn, qL, qd) = ((f_5, f_6, v_1, v_2, v_3), (n_1, f_7, v_4)) := e_2
  obtain ⟨f_8, h_14⟩ := in14 (k := 77) hI2 rfl
  have h_15 : Φ2 (x + 77) = some (ai_ G 12 f_8) := h_14
  have hcg6 : SdP G x c (f_5, f_6, v_1, v_2, v_3) (uZ f_2) Φ2 := ⟨f_8, h_10, h_11, h_15, fun j9 h9 => absurd h9 (Nat.not_lt_zero j9), Nat.zero_le 12, h_12, h_13⟩
  refine z_iload_n B dX2_exportAllAndSend_23 rfl 0 rfl ?_
  have hcg7 : TbC G x 0 99 f_1 f_3 Φ2 := (TbC.fr hcg1 hF2 (fun j9 h7 => fq_742 j9 h7))
  have h_16 : Φ2 (x + 80) = some (o_ 4 [.ref (x + 3), .ref (x + 74), .ref (x + 81), .ref (x + 95), .int (nI tm), .int (nI r), .int (nI w), .int aq, .int (xp + nI n), .int xb, .long ob, .long sm, .long (f_2.1)]) := ((hF2 (x + 80) fq_260).trans h_1)
  have h_17 : Φ2 (x + 81) = some (o_ 6 [.ref (x + 82), .int (nI 0)]) := ((hF2 (x + 81) fq_743).trans h_2)
  exact z_ret_i B dX2_exportAllAndSend_24 ⟨⟨f_1, f_2, f_3, (f_5, f_6, v_1, v_2, v_3), n_1, f_7, v_4, rfl, h_16, h_17, hcg7, hcg6, hcg5, e_1, e_2⟩, rfl, hI2, (fun b9 h9 => ((hF2 b9 (fun j9 h8 h7 => h9 j9 h8 (fq_262 j9 h7))).trans ((hF1 b9 (fun j9 h8 h7 => h9 j9 h8 (fq_261 j9 h7))).trans rfl)))⟩

set_option maxHeartbeats 4000000 in
set_option maxRecDepth 100000 in
theorem s_X11_flushX (G : EnvG) (l : Launch) (Φ : Hm) (sz x ca : Nat) (tm : Nat) (r : Nat) (w : Nat) (aq : Int32) (xp : Int32) (xb : Int32) (ob : Int64) (sm : Int64) (un : UN) (n : Nat) (Fs : Nat → Fl) (pp : Nat → Nat) (t : Nat) (s : Nat) (c : Cf) (sn : SN) (qn : Nat) (qL : Nat → Nat) (qd : Int32) (qp : Nat → Nat) (hx : G.2.2.2 ≤ x) (hI : In G x ca Φ) (hc0 : Φ (x + 80) = some (o_ 4 [.ref (x + 3), .ref (x + 74), .ref (x + 81), .ref (x + 95), .int (nI tm), .int (nI r), .int (nI w), .int aq, .int xp, .int xb, .long ob, .long sm, .long (un.1)])) (hc1 : Φ (x + 81) = some (o_ 6 [.ref (x + 82), .int (nI n)])) (hcf0 : TbC G x n 99 Fs pp Φ) (hcf1 : CfA G x t s c Φ) (hcf2 : SdP G x c sn un Φ) (hcf3 : QbR G x qn qL qd qp Φ) (hn : n ≤ 12) (hg : CfG c) (had : aq = 0 ∨ aq = 1) : Ct G l yX11_flush wsX11_flush ({ frames := 6, cells := 0, slots := 0, locals := 146 }) 0 0 [.ref x] Φ sz (fun v Φ1 sz1 => (∃ (F8 : Nat → Fl) (u8 : UN) (p8 : Nat → Nat) (s8 : SN) (qn8 : Nat) (qL8 : Nat → Nat) (qd8 : Int32), v = some (.int (nI n)) ∧ Φ1 (x + 80) = some (o_ 4 [.ref (x + 3), .ref (x + 74), .ref (x + 81), .ref (x + 95), .int (nI tm), .int (nI r), .int (nI w), .int aq, .int (xp + nI n), .int xb, .long ob, .long sm, .long ((uZ u8).1)]) ∧ Φ1 (x + 81) = some (o_ 6 [.ref (x + 82), .int (nI 0)]) ∧ TbC G x 0 99 F8 p8 Φ1 ∧ SdP G x c s8 (uZ u8) Φ1 ∧ QbR G x qn8 qL8 qd8 qp Φ1 ∧ (exI c (n, Fs, un) n = (0, F8, u8)) ∧ (spS c (nI tm) u8.2.2 u8.2.1 sn (qn, qL, qd) = (s8, qn8, qL8, qd8))) ∧ sz1 = sz ∧ In G x (ca) Φ1 ∧ Fr x (fun j9 => 46 ≤ j9 ∧ j9 < 95) Φ Φ1) := by
  refine Ct.of (cc := cX11_flush) (maxL := 1) (ret := (some .int)) (by decide) rfl (Nat.le_of_ble_eq_true rfl) ?_
  intro p9 e9 s9 m9 w9 t9 k9 B
  show Z p9 l e9 _ s9 m9 _ w9 t9 k9 _ G 1 0 [(0, .ref x)] [] Φ sz 0 0
  refine z_aload_n B dX11_flush_0 rfl 0 rfl ?_
  have h_1 := in0 (k := 0) hI rfl
  have h_2 : Φ x = some (o_ 13 [.ref (x + 1), .ref (x + 3), .ref (x + 24), .ref (x + 46), .ref (x + 74), .ref (x + 80), .ref (x + 132), .ref (x + 121)]) := h_1
  refine z_get (ref := "FlowExporter") (C := RX11) (T := TX11) (N := 8) (ci := 13) (v := .ref (x + 80)) B hu_X11_flush_X11 rfl 5 (Nat.le_of_ble_eq_true rfl) hv_X11_flush_55 rfl h_2 rfl dX11_flush_1 ?_
  refine z_callV (As := []) (rest := []) B (s_X2_exportAllAndSendX G l Φ sz x (ca) tm r w aq xp xb ob sm un n Fs pp t s c sn qn qL qd qp hx hI hc0 hc1 hcf0 hcf1 hcf2 hcf3 (show n ≤ 12 by omega) hg had) (cwV 0 B.1.2.2.2.2 gX11_flush_X2_exportAllAndSend rfl rfl rfl (by decide +kernel) ⟨Nat.le_of_ble_eq_true rfl, Nat.le_of_ble_eq_true rfl⟩) hc0 rfl rfl rfl rfl (Nat.le_of_ble_eq_true rfl) dX11_flush_4 ⟨Nat.le_of_ble_eq_true rfl, Nat.le_of_ble_eq_true rfl⟩ (fun r_1 Φ1 sz1 st1 hp1 hs1 => ?_)
  obtain ⟨⟨f_1, f_2, f_3, f_4, n_1, f_5, v_1, rfl, h_3, h_4, hcg1, hcg2, hcg3, e_1, e_2⟩, hq1, hI1, hF1⟩ := hp1
  subst sz1
  replace hs1 : st1 = [.int (nI n)] := hs1
  subst st1
  replace hI1 : In G x (ca) Φ1 := hI1
  replace e_1 : exI c (n, Fs, un) n = (0, f_1, f_2) := e_1
  replace e_2 : spS c (nI tm) f_2.2.2 f_2.2.1 sn (qn, qL, qd) = (f_4, n_1, f_5, v_1) := e_2
  exact z_ret_i B dX11_flush_7 ⟨⟨f_1, f_2, f_3, f_4, n_1, f_5, v_1, rfl, h_3, h_4, hcg1, hcg2, hcg3, e_1, e_2⟩, rfl, hI1, (fun b9 h9 => ((hF1 b9 h9).trans rfl))⟩

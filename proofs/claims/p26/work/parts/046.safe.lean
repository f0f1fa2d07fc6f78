set_option maxHeartbeats 4000000 in
set_option maxRecDepth 100000 in
theorem s_X2_addToFlowX (G : EnvG) (l : Launch) (Φ : Hm) (sz x ca : Nat) (tm : Nat) (r : Nat) (w : Nat) (aq : Int32) (xp : Int32) (xb : Int32) (ob : Int64) (sm : Int64) (un : UN) (n : Nat) (Fs : Nat → Fl) (pp : Nat → Nat) (t : Nat) (s : Nat) (c : Cf) (sn : SN) (K : Nat) (b : Nat) (hx : G.2.2.2 ≤ x) (hI : In G x ca Φ) (hc0 : Φ (x + 80) = some (o_ 4 [.ref (x + 3), .ref (x + 74), .ref (x + 81), .ref (x + 95), .int (nI tm), .int (nI r), .int (nI w), .int aq, .int xp, .int xb, .long ob, .long sm, .long (un.1)])) (hc1 : Φ (x + 81) = some (o_ 6 [.ref (x + 82), .int (nI n)])) (hcf0 : TbC G x n 99 Fs pp Φ) (hcf1 : CfA G x t s c Φ) (hcf2 : SdP G x c sn un Φ) (hn : n ≤ 12) (hK : K < 2 ^ 40) (htm : tm ≤ 1000000) (hg : CfG c) (had : aq = 0 ∨ aq = 1) : Ct G l yX2_addToFlow wsX2_addToFlow ({ frames := 4, cells := 0, slots := 0, locals := 94 }) 0 0 [.ref (x + 80), .long (Int64.ofNat K), .int (nI b)] Φ sz (fun v Φ1 sz1 => (∃ (n8 : Nat) (F8 : Nat → Fl) (u8 : UN) (p8 : Nat → Nat), v = none ∧ Φ1 (x + 80) = some (o_ 4 [.ref (x + 3), .ref (x + 74), .ref (x + 81), .ref (x + 95), .int (nI tm), .int (nI r), .int (nI w), .int aq, .int (xp + nI (adD K (n, Fs, un))), .int xb, .long ob, .long sm, .long (u8.1)]) ∧ Φ1 (x + 81) = some (o_ 6 [.ref (x + 82), .int (nI n8)]) ∧ TbC G x n8 99 F8 p8 Φ1 ∧ SdP G x c sn u8 Φ1 ∧ (adS c K (nI b).toInt64 tm (n, Fs, un) = (n8, F8, u8)) ∧ (n8 ≤ 12)) ∧ sz1 = sz ∧ In G x (ca) Φ1 ∧ Fr x (fun j9 => 74 ≤ j9 ∧ j9 < 95) Φ Φ1) := by
  refine Ct.of (cc := cX2_addToFlow) (maxL := 6) (ret := none) (by decide) rfl (Nat.le_of_ble_eq_true rfl) ?_
  intro p9 e9 s9 m9 w9 t9 k9 B
  show Z p9 l e9 _ s9 m9 _ w9 t9 k9 _ G 6 0 [(0, .ref (x + 80)), (1, .long (Int64.ofNat K)), (3, .int (nI b))] [] Φ sz 0 0
  refine z_aload_n B dX2_addToFlow_0 rfl 0 rfl ?_
  refine z_get (ref := "FlowExporter$Exporter") (C := RX2) (T := TX2) (N := 13) (ci := 4) (v := .ref (x + 81)) B hu_X2_addToFlow_X2 rfl 2 (Nat.le_of_ble_eq_true rfl) hv_X2_addToFlow_14 rfl hc0 rfl dX2_addToFlow_1 ?_
  refine z_lload_n B dX2_addToFlow_4 rfl 1 rfl ?_
  refine z_callV (As := [.long (Int64.ofNat K)]) (rest := []) B (s_X4_indexOf_81 G l Φ sz x (ca) n Fs pp K hx hI hc1 hcf0 (show n ≤ 12 by omega) (show K < 2 ^ 40 by omega)) (cwV 1 B.1.2.2.2.2 gX2_addToFlow_X4_indexOf rfl rfl rfl (by decide +kernel) ⟨Nat.le_of_ble_eq_true rfl, Nat.le_of_ble_eq_true rfl⟩) hc1 rfl rfl rfl rfl (Nat.le_of_ble_eq_true rfl) dX2_addToFlow_5 ⟨Nat.le_of_ble_eq_true rfl, Nat.le_of_ble_eq_true rfl⟩ (fun r_1 Φ1 sz1 st1 hp1 hs1 => ?_)
  obtain ⟨ha1, hq1, hI1, hF1⟩ := hp1
  subst sz1
  replace hI1 : In G x (ca) Φ1 := hI1
  rcases ha1 with ⟨rfl, e_1⟩ | ⟨rfl, e_2⟩
  · replace e_1 : ¬ ixN Fs K n < n := e_1
    replace hs1 : st1 = [.int (-1)] := hs1
    subst st1
    refine z_istore (lv' := [(4, .int (-1)), (0, .ref (x + 80)), (1, .long (Int64.ofNat K)), (3, .int (nI b))]) B dX2_addToFlow_8 (Nat.le_of_ble_eq_true rfl) rfl ?_
    refine z_iload B dX2_addToFlow_10 0 rfl ?_
    refine z_iconst (v := (-1)) B dX2_addToFlow_12 rfl ?_
    refine z_icmp_ne (tgt := 37) B dX2_addToFlow_13 rfl (fun h9 => absurd (by decide) h9) (fun c_1 => ?_)
    refine z_aload_n B dX2_addToFlow_16 rfl 1 rfl ?_
    have h_1 : Φ1 (x + 80) = some (o_ 4 [.ref (x + 3), .ref (x + 74), .ref (x + 81), .ref (x + 95), .int (nI tm), .int (nI r), .int (nI w), .int aq, .int xp, .int xb, .long ob, .long sm, .long (un.1)]) := ((hF1 (x + 80) (fun j9 h8 h7 => (show False from h7).elim)).trans hc0)
    refine z_get (ref := "FlowExporter$Exporter") (C := RX2) (T := TX2) (N := 13) (ci := 4) (v := .ref (x + 81)) B hu_X2_addToFlow_X2 rfl 2 (Nat.le_of_ble_eq_true rfl) hv_X2_addToFlow_14 rfl h_1 rfl dX2_addToFlow_17 ?_
    have h_2 : Φ1 (x + 81) = some (o_ 6 [.ref (x + 82), .int (nI n)]) := ((hF1 (x + 81) (fun j9 h8 h7 => (show False from h7).elim)).trans hc1)
    refine z_callV (As := []) (rest := []) B (s_X4_isFull_81 G l Φ1 sz x (ca) n hx hI1 h_2 (show n ≤ 12 by omega)) (cwV 0 B.1.2.2.2.2 gX2_addToFlow_X4_isFull rfl rfl rfl (by decide +kernel) ⟨Nat.le_of_ble_eq_true rfl, Nat.le_of_ble_eq_true rfl⟩) h_2 rfl rfl rfl rfl (Nat.le_of_ble_eq_true rfl) dX2_addToFlow_20 ⟨Nat.le_of_ble_eq_true rfl, Nat.le_of_ble_eq_true rfl⟩ (fun r_2 Φ2 sz2 st2 hp2 hs2 => ?_)
    obtain ⟨ha2, hq2, hI2, hF2⟩ := hp2
    subst sz2
    replace hI2 : In G x (ca) Φ2 := hI2
    rcases ha2 with ⟨rfl, e_3⟩ | ⟨rfl, e_4⟩
    · replace e_3 : 12 ≤ n := e_3
      replace hs2 : st2 = [.int 1] := hs2
      subst st2
      refine z_if_eq (tgt := 37) B dX2_addToFlow_23 rfl (fun h9 => absurd h9 (by decide)) (fun c_2 => ?_)
      refine z_aload_n B dX2_addToFlow_26 rfl 1 rfl ?_
      refine z_aload_n B dX2_addToFlow_27 rfl 1 rfl ?_
      have h_3 : Φ2 (x + 80) = some (o_ 4 [.ref (x + 3), .ref (x + 74), .ref (x + 81), .ref (x + 95), .int (nI tm), .int (nI r), .int (nI w), .int aq, .int xp, .int xb, .long ob, .long sm, .long (un.1)]) := ((hF2 (x + 80) (fun j9 h8 h7 => (show False from h7).elim)).trans h_1)
      refine z_get (ref := "FlowExporter$Exporter") (C := RX2) (T := TX2) (N := 13) (ci := 4) (v := .ref (x + 81)) B hu_X2_addToFlow_X2 rfl 2 (Nat.le_of_ble_eq_true rfl) hv_X2_addToFlow_14 rfl h_3 rfl dX2_addToFlow_28 ?_
      have h_4 : Φ2 (x + 81) = some (o_ 6 [.ref (x + 82), .int (nI n)]) := ((hF2 (x + 81) (fun j9 h8 h7 => (show False from h7).elim)).trans h_2)
      have hcg1 : TbC G x n 99 Fs pp Φ2 := (TbC.fr (TbC.fr hcf0 hF1 (fun j9 h7 => (show False from h7).elim)) hF2 (fun j9 h7 => (show False from h7).elim))
      refine z_callV (As := []) (rest := [.ref (x + 80)]) B (s_X4_indexOfEarliestLastX G l Φ2 sz x (ca) n Fs pp hx hI2 h_4 hcg1 (show 1 ≤ n by omega) (show n ≤ 12 by omega)) (cwV 0 B.1.2.2.2.2 gX2_addToFlow_X4_indexOfEarliestLast rfl rfl rfl (by decide +kernel) ⟨Nat.le_of_ble_eq_true rfl, Nat.le_of_ble_eq_true rfl⟩) h_4 rfl rfl rfl rfl (Nat.le_of_ble_eq_true rfl) dX2_addToFlow_31 ⟨Nat.le_of_ble_eq_true rfl, Nat.le_of_ble_eq_true rfl⟩ (fun r_3 Φ3 sz3 st3 hp3 hs3 => ?_)
      obtain ⟨rfl, hq3, hI3, hF3⟩ := hp3
      subst sz3
      replace hs3 : st3 = [.int (nI (elN Fs n)), .ref (x + 80)] := hs3
      subst st3
      replace hI3 : In G x (ca) Φ3 := hI3
      have h_5 : Φ3 (x + 80) = some (o_ 4 [.ref (x + 3), .ref (x + 74), .ref (x + 81), .ref (x + 95), .int (nI tm), .int (nI r), .int (nI w), .int aq, .int xp, .int xb, .long ob, .long sm, .long (un.1)]) := ((hF3 (x + 80) (fun j9 h8 h7 => (show False from h7).elim)).trans h_3)
      have h_6 : Φ3 (x + 81) = some (o_ 6 [.ref (x + 82), .int (nI n)]) := ((hF3 (x + 81) (fun j9 h8 h7 => (show False from h7).elim)).trans h_4)
      have hcg2 : TbC G x n 99 Fs pp Φ3 := (TbC.fr hcg1 hF3 (fun j9 h7 => (show False from h7).elim))
      have hcg3 : CfA G x t s c Φ3 := (CfA.fr (CfA.fr (CfA.fr hcf1 hF1 (fun j9 h7 => (show False from h7).elim)) hF2 (fun j9 h7 => (show False from h7).elim)) hF3 (fun j9 h7 => (show False from h7).elim))
      have hcg4 : SdP G x c sn un Φ3 := (SdP.fr (SdP.fr (SdP.fr hcf2 hF1 (fun j9 h7 => (show False from h7).elim)) hF2 (fun j9 h7 => (show False from h7).elim)) hF3 (fun j9 h7 => (show False from h7).elim))
      refine z_callV (As := [.int (nI (elN Fs n))]) (rest := []) B (s_X2_exportAtX G l Φ3 sz x (ca) tm r w aq xp xb ob sm un n Fs pp t s c sn (elN Fs n) hx hI3 h_5 h_6 hcg2 hcg3 hcg4 (elN_lt Fs n (by omega)) (show n ≤ 12 by omega) hg had) (cwV 1 B.1.2.2.2.2 gX2_addToFlow_X2_exportAt rfl rfl rfl (by decide +kernel) ⟨Nat.le_of_ble_eq_true rfl, Nat.le_of_ble_eq_true rfl⟩) h_5 rfl rfl rfl rfl (Nat.le_of_ble_eq_true rfl) dX2_addToFlow_34 ⟨Nat.le_of_ble_eq_true rfl, Nat.le_of_ble_eq_true rfl⟩ (fun r_4 Φ4 sz4 st4 hp4 hs4 => ?_)
      obtain ⟨⟨rfl, h_7, h_8, hcg5, hcg6⟩, hq4, hI4, hF4⟩ := hp4
      subst sz4
      replace hs4 : st4 = [] := hs4
      subst st4
      replace hI4 : In G x (ca) Φ4 := hI4
      refine z_iload B dX2_addToFlow_37 0 rfl ?_
      refine z_iconst (v := (-1)) B dX2_addToFlow_39 rfl ?_
      refine z_icmp_ne (tgt := 58) B dX2_addToFlow_40 rfl (fun h9 => absurd (by decide) h9) (fun c_3 => ?_)
      refine z_aload_n B dX2_addToFlow_43 rfl 1 rfl ?_
      refine z_get (ref := "FlowExporter$Exporter") (C := RX2) (T := TX2) (N := 13) (ci := 4) (v := .ref (x + 81)) B hu_X2_addToFlow_X2 rfl 2 (Nat.le_of_ble_eq_true rfl) hv_X2_addToFlow_14 rfl h_7 rfl dX2_addToFlow_44 ?_
      refine z_lload_n B dX2_addToFlow_47 rfl 2 rfl ?_
      refine z_aload_n B dX2_addToFlow_48 rfl 1 rfl ?_
      refine z_get (ref := "FlowExporter$Exporter") (C := RX2) (T := TX2) (N := 13) (ci := 4) (v := .int (nI tm)) B hu_X2_addToFlow_X2 rfl 4 (Nat.le_of_ble_eq_true rfl) hv_X2_addToFlow_23 rfl h_7 rfl dX2_addToFlow_49 ?_
      have hcg7 : TbC G x (n - 1) (n - 1) (shF Fs (elN Fs n)) (shP pp n (elN Fs n)) Φ4 := TbR.cut hcg5 (by decide)
      have b_1 : (shP pp n (elN Fs n)) (n - 1) < 12 := TbR.lt hcg5 (show n - 1 < 12 by omega)
      refine z_callV (As := [.long (Int64.ofNat K), .int (nI tm)]) (rest := []) B (s_X4_addFlow_81 G l Φ4 sz x (ca) (n - 1) (shF Fs (elN Fs n)) (shP pp n (elN Fs n)) K tm hx hI4 h_8 hcg7 (show (n - 1) < 12 by omega)) (cwV 2 B.1.2.2.2.2 gX2_addToFlow_X4_addFlow rfl rfl rfl (by decide +kernel) ⟨Nat.le_of_ble_eq_true rfl, Nat.le_of_ble_eq_true rfl⟩) h_8 rfl rfl rfl rfl (Nat.le_of_ble_eq_true rfl) dX2_addToFlow_52 ⟨Nat.le_of_ble_eq_true rfl, Nat.le_of_ble_eq_true rfl⟩ (fun r_5 Φ5 sz5 st5 hp5 hs5 => ?_)
      obtain ⟨⟨rfl, h_9, h_10, hcg8⟩, hq5, hI5, hF5⟩ := hp5
      subst sz5
      replace hs5 : st5 = [.ref (x + (83 + (shP pp n (elN Fs n)) (n - 1)))] := hs5
      subst st5
      replace hI5 : In G x (ca) Φ5 := hI5
      refine z_goto (tgt := 67) B dX2_addToFlow_55 rfl ?_
      refine z_astore (lv' := [(5, .ref (x + (83 + (shP pp n (elN Fs n)) (n - 1)))), (4, .int (-1)), (0, .ref (x + 80)), (1, .long (Int64.ofNat K)), (3, .int (nI b))]) B dX2_addToFlow_67 (Nat.le_of_ble_eq_true rfl) rfl ?_
      refine z_aload B dX2_addToFlow_69 0 rfl ?_
      refine z_dup B dX2_addToFlow_71 rfl ?_
      refine z_get (ref := "FlowExporter$Flow") (C := RX3) (T := TX3) (N := 5) (ci := 5) (v := .long 0) B hu_X2_addToFlow_X3 rfl 1 (Nat.le_of_ble_eq_true rfl) hv_X2_addToFlow_102 rfl h_10 rfl dX2_addToFlow_72 ?_
      refine z_lconst (v := 1) B dX2_addToFlow_75 rfl ?_
      refine z_ladd B dX2_addToFlow_76 ?_
      refine z_top (st1 := [.long 1, .ref (x + (83 + (shP pp n (elN Fs n)) (n - 1)))]) (congrArg (fun w9 : Int64 => ([.long w9, .ref (x + (83 + (shP pp n (elN Fs n)) (n - 1)))] : List Value)) (show (0 + 1 : Int64) = 1 by decide +kernel)) ?_
      refine z_put (ref := "FlowExporter$Flow") (C := RX3) (T := TX3) (N := 5) (ci := 5) (v := .long 1) B hu_X2_addToFlow_X3 tyX3 tyX3_ok nmX3 rfl 1 (Nat.le_of_ble_eq_true rfl) hv_X2_addToFlow_102 rfl (Or.inl rfl) h_10 (by omega) rfl rfl (Nat.le_of_ble_eq_true rfl) dX2_addToFlow_77 (fun Φ6 hΦ1 => ?_)
      have h_11 : Φ6 (x + (83 + (shP pp n (elN Fs n)) (n - 1))) = some (o_ 5 [.long (Int64.ofNat K), .long 1, .long 0, .int (nI tm), .int (nI tm)]) := fset_at hΦ1
      have hI6 : In G x (ca) Φ6 := In.put (k := 83 + (shP pp n (elN Fs n)) (n - 1)) hI5 hΦ1 (ok19 (k := 83 + (shP pp n (elN Fs n)) (n - 1)) (kd_f (k := 82) rfl (show (shP pp n (elN Fs n)) (n - 1) < 12 from TbR.lt hcg8 (by omega))) ⟨Int64.ofNat K, 1, 0, nI tm, nI tm, rfl⟩)
      refine z_aload B dX2_addToFlow_80 0 rfl ?_
      refine z_dup B dX2_addToFlow_82 rfl ?_
      refine z_get (ref := "FlowExporter$Flow") (C := RX3) (T := TX3) (N := 5) (ci := 5) (v := .long 0) B hu_X2_addToFlow_X3 rfl 2 (Nat.le_of_ble_eq_true rfl) hv_X2_addToFlow_107 rfl h_11 rfl dX2_addToFlow_83 ?_
      refine z_iload_n B dX2_addToFlow_86 rfl 4 rfl ?_
      refine z_i2l (v := (nI b).toInt64) B dX2_addToFlow_87 rfl ?_
      refine z_ladd B dX2_addToFlow_88 ?_
      refine z_put (ref := "FlowExporter$Flow") (C := RX3) (T := TX3) (N := 5) (ci := 5) (v := .long (0 + ((nI b).toInt64))) B hu_X2_addToFlow_X3 tyX3 tyX3_ok nmX3 rfl 2 (Nat.le_of_ble_eq_true rfl) hv_X2_addToFlow_107 rfl (Or.inl rfl) h_11 (by omega) rfl rfl (Nat.le_of_ble_eq_true rfl) dX2_addToFlow_89 (fun Φ7 hΦ2 => ?_)
      have h_12 : Φ7 (x + (83 + (shP pp n (elN Fs n)) (n - 1))) = some (o_ 5 [.long (Int64.ofNat K), .long 1, .long (0 + ((nI b).toInt64)), .int (nI tm), .int (nI tm)]) := fset_at hΦ2
      have hI7 : In G x (ca) Φ7 := In.put (k := 83 + (shP pp n (elN Fs n)) (n - 1)) hI6 hΦ2 (ok19 (k := 83 + (shP pp n (elN Fs n)) (n - 1)) (kd_f (k := 82) rfl (show (shP pp n (elN Fs n)) (n - 1) < 12 from TbR.lt hcg8 (by omega))) ⟨Int64.ofNat K, 1, 0 + ((nI b).toInt64), nI tm, nI tm, rfl⟩)
      refine z_aload B dX2_addToFlow_92 0 rfl ?_
      refine z_aload_n B dX2_addToFlow_94 rfl 2 rfl ?_
      have h_13 : Φ7 (x + 80) = some (o_ 4 [.ref (x + 3), .ref (x + 74), .ref (x + 81), .ref (x + 95), .int (nI tm), .int (nI r), .int (nI w), .int aq, .int (xp + 1), .int xb, .long ob, .long sm, .long ((unE c (Fs (elN Fs n)).1 un).1)]) := ((fset_fr hΦ2 (by omega)).trans ((fset_fr hΦ1 (by omega)).trans ((hF5 (x + 80) fq_740).trans h_7)))
      refine z_get (ref := "FlowExporter$Exporter") (C := RX2) (T := TX2) (N := 13) (ci := 4) (v := .int (nI tm)) B hu_X2_addToFlow_X2 rfl 4 (Nat.le_of_ble_eq_true rfl) hv_X2_addToFlow_23 rfl h_13 rfl dX2_addToFlow_95 ?_
      refine z_put (ref := "FlowExporter$Flow") (C := RX3) (T := TX3) (N := 5) (ci := 5) (v := .int (nI tm)) B hu_X2_addToFlow_X3 tyX3 tyX3_ok nmX3 rfl 4 (Nat.le_of_ble_eq_true rfl) hv_X2_addToFlow_123 rfl (Or.inl rfl) h_12 (by omega) rfl rfl (Nat.le_of_ble_eq_true rfl) dX2_addToFlow_98 (fun Φ8 hΦ3 => ?_)
      have h_14 : Φ8 (x + (83 + (shP pp n (elN Fs n)) (n - 1))) = some (o_ 5 [.long (Int64.ofNat K), .long 1, .long (0 + ((nI b).toInt64)), .int (nI tm), .int (nI tm)]) := fset_at hΦ3
      have hI8 : In G x (ca) Φ8 := In.put (k := 83 + (shP pp n (elN Fs n)) (n - 1)) hI7 hΦ3 (ok19 (k := 83 + (shP pp n (elN Fs n)) (n - 1)) (kd_f (k := 82) rfl (show (shP pp n (elN Fs n)) (n - 1) < 12 from TbR.lt hcg8 (by omega))) ⟨Int64.ofNat K, 1, 0 + ((nI b).toInt64), nI tm, nI tm, rfl⟩)
      have hcg9 : TbC G x (n - 1) (n - 1) (shF Fs (elN Fs n)) (shP pp n (elN Fs n)) Φ8 := (TbR.offw (TbR.offw (TbR.offw hcg8 hΦ1 (by omega)) hΦ2 (by omega)) hΦ3 (by omega))
      have h_15 : Φ8 (x + 80) = some (o_ 4 [.ref (x + 3), .ref (x + 74), .ref (x + 81), .ref (x + 95), .int (nI tm), .int (nI r), .int (nI w), .int aq, .int (xp + 1), .int xb, .long ob, .long sm, .long ((unE c (Fs (elN Fs n)).1 un).1)]) := ((fset_fr hΦ3 (by omega)).trans h_13)
      have h_16 : Φ8 (x + 81) = some (o_ 6 [.ref (x + 82), .int (nI ((n - 1) + 1))]) := ((fset_fr hΦ3 (by omega)).trans ((fset_fr hΦ2 (by omega)).trans ((fset_fr hΦ1 (by omega)).trans h_9)))
      have hcg10 : SdP G x c sn (unE c (Fs (elN Fs n)).1 un) Φ8 := (SdP.off (k := 83 + (shP pp n (elN Fs n)) (n - 1)) (SdP.off (k := 83 + (shP pp n (elN Fs n)) (n - 1)) (SdP.off (k := 83 + (shP pp n (elN Fs n)) (n - 1)) (SdP.fr hcg6 hF5 (fun j9 h7 => by have h6 : 81 ≤ j9 ∧ j9 < 95 := h7; omega)) hΦ1 (by omega)) hΦ2 (by omega)) hΦ3 (by omega))
      exact z_ret_v B dX2_addToFlow_101 ⟨⟨_, _, _, _, rfl, (h_15.trans (congrArg (fun w9 : Int32 => some (o_ 4 [.ref (x + 3), .ref (x + 74), .ref (x + 81), .ref (x + 95), .int (nI tm), .int (nI r), .int (nI w), .int aq, .int w9, .int xb, .long ob, .long sm, .long ((unE c (Fs (elN Fs n)).1 un).1)])) (congrArg (fun w8 : Nat => xp + nI w8) (adS_12 (c := c) (t := tm) (b := (nI b).toInt64) (u := un) (F := Fs) (K := K) (n := n) (by omega) (by omega)).2.symm))), h_16, TbR.add (v := (K, 1, 0 + (nI b).toInt64, tm, tm)) hcg9 (by omega) (FlB.new (by omega) (by omega)) h_14, hcg10, (adS_12 (c := c) (t := tm) (b := (nI b).toInt64) (u := un) (F := Fs) (K := K) (n := n) (by omega) (by omega)).1, by omega⟩, rfl, hI8, (fun b9 h9 => ((fset_fr hΦ3 (fun h8 => h9 (83 + (shP pp n (elN Fs n)) (n - 1)) h8 (show 74 ≤ (83 + (shP pp n (elN Fs n)) (n - 1)) ∧ (83 + (shP pp n (elN Fs n)) (n - 1)) < 95 by omega))).trans ((fset_fr hΦ2 (fun h8 => h9 (83 + (shP pp n (elN Fs n)) (n - 1)) h8 (show 74 ≤ (83 + (shP pp n (elN Fs n)) (n - 1)) ∧ (83 + (shP pp n (elN Fs n)) (n - 1)) < 95 by omega))).trans ((fset_fr hΦ1 (fun h8 => h9 (83 + (shP pp n (elN Fs n)) (n - 1)) h8 (show 74 ≤ (83 + (shP pp n (elN Fs n)) (n - 1)) ∧ (83 + (shP pp n (elN Fs n)) (n - 1)) < 95 by omega))).trans ((hF5 b9 (fun j9 h8 h7 => h9 j9 h8 (fq_741 j9 h7))).trans ((hF4 b9 h9).trans ((hF3 b9 (fun j9 h8 h7 => (show False from h7).elim)).trans ((hF2 b9 (fun j9 h8 h7 => (show False from h7).elim)).trans ((hF1 b9 (fun j9 h8 h7 => (show False from h7).elim)).trans rfl)))))))))⟩
    · replace e_4 : n < 12 := e_4
      replace hs2 : st2 = [.int 0] := hs2
      subst st2
      refine z_if_eq (tgt := 37) B dX2_addToFlow_23 rfl (fun c_4 => ?_) (fun h9 => absurd (by decide) h9)
      refine z_iload B dX2_addToFlow_37 0 rfl ?_
      refine z_iconst (v := (-1)) B dX2_addToFlow_39 rfl ?_
      refine z_icmp_ne (tgt := 58) B dX2_addToFlow_40 rfl (fun h9 => absurd (by decide) h9) (fun c_5 => ?_)
      refine z_aload_n B dX2_addToFlow_43 rfl 1 rfl ?_
      have h_17 : Φ2 (x + 80) = some (o_ 4 [.ref (x + 3), .ref (x + 74), .ref (x + 81), .ref (x + 95), .int (nI tm), .int (nI r), .int (nI w), .int aq, .int xp, .int xb, .long ob, .long sm, .long (un.1)]) := ((hF2 (x + 80) (fun j9 h8 h7 => (show False from h7).elim)).trans h_1)
      refine z_get (ref := "FlowExporter$Exporter") (C := RX2) (T := TX2) (N := 13) (ci := 4) (v := .ref (x + 81)) B hu_X2_addToFlow_X2 rfl 2 (Nat.le_of_ble_eq_true rfl) hv_X2_addToFlow_14 rfl h_17 rfl dX2_addToFlow_44 ?_
      refine z_lload_n B dX2_addToFlow_47 rfl 2 rfl ?_
      refine z_aload_n B dX2_addToFlow_48 rfl 1 rfl ?_
      refine z_get (ref := "FlowExporter$Exporter") (C := RX2) (T := TX2) (N := 13) (ci := 4) (v := .int (nI tm)) B hu_X2_addToFlow_X2 rfl 4 (Nat.le_of_ble_eq_true rfl) hv_X2_addToFlow_23 rfl h_17 rfl dX2_addToFlow_49 ?_
      have hcg11 : TbC G x n 99 Fs pp Φ2 := (TbC.fr (TbC.fr hcf0 hF1 (fun j9 h7 => (show False from h7).elim)) hF2 (fun j9 h7 => (show False from h7).elim))
      have hcg12 : TbC G x n n Fs pp Φ2 := TbR.cut hcg11 (by decide)
      have b_2 : pp n < 12 := TbR.lt hcg11 (show n < 12 by omega)
      have h_18 : Φ2 (x + 81) = some (o_ 6 [.ref (x + 82), .int (nI n)]) := ((hF2 (x + 81) (fun j9 h8 h7 => (show False from h7).elim)).trans h_2)
      refine z_callV (As := [.long (Int64.ofNat K), .int (nI tm)]) (rest := []) B (s_X4_addFlow_81 G l Φ2 sz x (ca) n Fs pp K tm hx hI2 h_18 hcg12 (show n < 12 by omega)) (cwV 2 B.1.2.2.2.2 gX2_addToFlow_X4_addFlow rfl rfl rfl (by decide +kernel) ⟨Nat.le_of_ble_eq_true rfl, Nat.le_of_ble_eq_true rfl⟩) h_18 rfl rfl rfl rfl (Nat.le_of_ble_eq_true rfl) dX2_addToFlow_52 ⟨Nat.le_of_ble_eq_true rfl, Nat.le_of_ble_eq_true rfl⟩ (fun r_6 Φ9 sz6 st6 hp6 hs6 => ?_)
      obtain ⟨⟨rfl, h_19, h_20, hcg13⟩, hq6, hI9, hF6⟩ := hp6
      subst sz6
      replace hs6 : st6 = [.ref (x + (83 + pp n))] := hs6
      subst st6
      replace hI9 : In G x (ca) Φ9 := hI9
      refine z_goto (tgt := 67) B dX2_addToFlow_55 rfl ?_
      refine z_astore (lv' := [(5, .ref (x + (83 + pp n))), (4, .int (-1)), (0, .ref (x + 80)), (1, .long (Int64.ofNat K)), (3, .int (nI b))]) B dX2_addToFlow_67 (Nat.le_of_ble_eq_true rfl) rfl ?_
      refine z_aload B dX2_addToFlow_69 0 rfl ?_
      refine z_dup B dX2_addToFlow_71 rfl ?_
      refine z_get (ref := "FlowExporter$Flow") (C := RX3) (T := TX3) (N := 5) (ci := 5) (v := .long 0) B hu_X2_addToFlow_X3 rfl 1 (Nat.le_of_ble_eq_true rfl) hv_X2_addToFlow_102 rfl h_20 rfl dX2_addToFlow_72 ?_
      refine z_lconst (v := 1) B dX2_addToFlow_75 rfl ?_
      refine z_ladd B dX2_addToFlow_76 ?_
      refine z_top (st1 := [.long 1, .ref (x + (83 + pp n))]) (congrArg (fun w9 : Int64 => ([.long w9, .ref (x + (83 + pp n))] : List Value)) (show (0 + 1 : Int64) = 1 by decide +kernel)) ?_
      refine z_put (ref := "FlowExporter$Flow") (C := RX3) (T := TX3) (N := 5) (ci := 5) (v := .long 1) B hu_X2_addToFlow_X3 tyX3 tyX3_ok nmX3 rfl 1 (Nat.le_of_ble_eq_true rfl) hv_X2_addToFlow_102 rfl (Or.inl rfl) h_20 (by omega) rfl rfl (Nat.le_of_ble_eq_true rfl) dX2_addToFlow_77 (fun Φ10 hΦ4 => ?_)
      have h_21 : Φ10 (x + (83 + pp n)) = some (o_ 5 [.long (Int64.ofNat K), .long 1, .long 0, .int (nI tm), .int (nI tm)]) := fset_at hΦ4
      have hI10 : In G x (ca) Φ10 := In.put (k := 83 + pp n) hI9 hΦ4 (ok19 (k := 83 + pp n) (kd_f (k := 82) rfl (show pp n < 12 from TbR.lt hcg13 (by omega))) ⟨Int64.ofNat K, 1, 0, nI tm, nI tm, rfl⟩)
      refine z_aload B dX2_addToFlow_80 0 rfl ?_
      refine z_dup B dX2_addToFlow_82 rfl ?_
      refine z_get (ref := "FlowExporter$Flow") (C := RX3) (T := TX3) (N := 5) (ci := 5) (v := .long 0) B hu_X2_addToFlow_X3 rfl 2 (Nat.le_of_ble_eq_true rfl) hv_X2_addToFlow_107 rfl h_21 rfl dX2_addToFlow_83 ?_
      refine z_iload_n B dX2_addToFlow_86 rfl 4 rfl ?_
      refine z_i2l (v := (nI b).toInt64) B dX2_addToFlow_87 rfl ?_
      refine z_ladd B dX2_addToFlow_88 ?_
      refine z_put (ref := "FlowExporter$Flow") (C := RX3) (T := TX3) (N := 5) (ci := 5) (v := .long (0 + ((nI b).toInt64))) B hu_X2_addToFlow_X3 tyX3 tyX3_ok nmX3 rfl 2 (Nat.le_of_ble_eq_true rfl) hv_X2_addToFlow_107 rfl (Or.inl rfl) h_21 (by omega) rfl rfl (Nat.le_of_ble_eq_true rfl) dX2_addToFlow_89 (fun Φ11 hΦ5 => ?_)
      have h_22 : Φ11 (x + (83 + pp n)) = some (o_ 5 [.long (Int64.ofNat K), .long 1, .long (0 + ((nI b).toInt64)), .int (nI tm), .int (nI tm)]) := fset_at hΦ5
      have hI11 : In G x (ca) Φ11 := In.put (k := 83 + pp n) hI10 hΦ5 (ok19 (k := 83 + pp n) (kd_f (k := 82) rfl (show pp n < 12 from TbR.lt hcg13 (by omega))) ⟨Int64.ofNat K, 1, 0 + ((nI b).toInt64), nI tm, nI tm, rfl⟩)
      refine z_aload B dX2_addToFlow_92 0 rfl ?_
      refine z_aload_n B dX2_addToFlow_94 rfl 2 rfl ?_
      have h_23 : Φ11 (x + 80) = some (o_ 4 [.ref (x + 3), .ref (x + 74), .ref (x + 81), .ref (x + 95), .int (nI tm), .int (nI r), .int (nI w), .int aq, .int xp, .int xb, .long ob, .long sm, .long (un.1)]) := ((fset_fr hΦ5 (by omega)).trans ((fset_fr hΦ4 (by omega)).trans ((hF6 (x + 80) fq_740).trans h_17)))
      refine z_get (ref := "FlowExporter$Exporter") (C := RX2) (T := TX2) (N := 13) (ci := 4) (v := .int (nI tm)) B hu_X2_addToFlow_X2 rfl 4 (Nat.le_of_ble_eq_true rfl) hv_X2_addToFlow_23 rfl h_23 rfl dX2_addToFlow_95 ?_
      refine z_put (ref := "FlowExporter$Flow") (C := RX3) (T := TX3) (N := 5) (ci := 5) (v := .int (nI tm)) B hu_X2_addToFlow_X3 tyX3 tyX3_ok nmX3 rfl 4 (Nat.le_of_ble_eq_true rfl) hv_X2_addToFlow_123 rfl (Or.inl rfl) h_22 (by omega) rfl rfl (Nat.le_of_ble_eq_true rfl) dX2_addToFlow_98 (fun Φ12 hΦ6 => ?_)
      have h_24 : Φ12 (x + (83 + pp n)) = some (o_ 5 [.long (Int64.ofNat K), .long 1, .long (0 + ((nI b).toInt64)), .int (nI tm), .int (nI tm)]) := fset_at hΦ6
      have hI12 : In G x (ca) Φ12 := In.put (k := 83 + pp n) hI11 hΦ6 (ok19 (k := 83 + pp n) (kd_f (k := 82) rfl (show pp n < 12 from TbR.lt hcg13 (by omega))) ⟨Int64.ofNat K, 1, 0 + ((nI b).toInt64), nI tm, nI tm, rfl⟩)
      have hcg14 : TbC G x n n Fs pp Φ12 := (TbR.offw (TbR.offw (TbR.offw hcg13 hΦ4 (by omega)) hΦ5 (by omega)) hΦ6 (by omega))
      have h_25 : Φ12 (x + 80) = some (o_ 4 [.ref (x + 3), .ref (x + 74), .ref (x + 81), .ref (x + 95), .int (nI tm), .int (nI r), .int (nI w), .int aq, .int xp, .int xb, .long ob, .long sm, .long (un.1)]) := ((fset_fr hΦ6 (by omega)).trans h_23)
      have h_26 : Φ12 (x + 81) = some (o_ 6 [.ref (x + 82), .int (nI (n + 1))]) := ((fset_fr hΦ6 (by omega)).trans ((fset_fr hΦ5 (by omega)).trans ((fset_fr hΦ4 (by omega)).trans h_19)))
      have hcg15 : SdP G x c sn un Φ12 := (SdP.off (k := 83 + pp n) (SdP.off (k := 83 + pp n) (SdP.off (k := 83 + pp n) (SdP.fr (SdP.fr (SdP.fr hcf2 hF1 (fun j9 h7 => (show False from h7).elim)) hF2 (fun j9 h7 => (show False from h7).elim)) hF6 (fun j9 h7 => by have h6 : 81 ≤ j9 ∧ j9 < 95 := h7; omega)) hΦ4 (by omega)) hΦ5 (by omega)) hΦ6 (by omega))
      exact z_ret_v B dX2_addToFlow_101 ⟨⟨_, _, _, _, rfl, (h_25.trans (congrArg (fun w9 : Int32 => some (o_ 4 [.ref (x + 3), .ref (x + 74), .ref (x + 81), .ref (x + 95), .int (nI tm), .int (nI r), .int (nI w), .int aq, .int w9, .int xb, .long ob, .long sm, .long (un.1)])) (nadd_0.trans (congrArg (fun w8 : Nat => xp + nI w8) (adS_no (c := c) (t := tm) (b := (nI b).toInt64) (u := un) (F := Fs) (K := K) (n := n) (by omega) (by omega)).2.symm)))), h_26, TbR.add (v := (K, 1, 0 + (nI b).toInt64, tm, tm)) hcg14 (by omega) (FlB.new (by omega) (by omega)) h_24, hcg15, (adS_no (c := c) (t := tm) (b := (nI b).toInt64) (u := un) (F := Fs) (K := K) (n := n) (by omega) (by omega)).1, by omega⟩, rfl, hI12, (fun b9 h9 => ((fset_fr hΦ6 (fun h8 => h9 (83 + pp n) h8 (show 74 ≤ (83 + pp n) ∧ (83 + pp n) < 95 by omega))).trans ((fset_fr hΦ5 (fun h8 => h9 (83 + pp n) h8 (show 74 ≤ (83 + pp n) ∧ (83 + pp n) < 95 by omega))).trans ((fset_fr hΦ4 (fun h8 => h9 (83 + pp n) h8 (show 74 ≤ (83 + pp n) ∧ (83 + pp n) < 95 by omega))).trans ((hF6 b9 (fun j9 h8 h7 => h9 j9 h8 (fq_741 j9 h7))).trans ((hF2 b9 (fun j9 h8 h7 => (show False from h7).elim)).trans ((hF1 b9 (fun j9 h8 h7 => (show False from h7).elim)).trans rfl)))))))⟩
  · replace e_2 : ixN Fs K n < n := e_2
    replace hs1 : st1 = [.int (nI (ixN Fs K n))] := hs1
    subst st1
    refine z_istore (lv' := [(4, .int (nI (ixN Fs K n))), (0, .ref (x + 80)), (1, .long (Int64.ofNat K)), (3, .int (nI b))]) B dX2_addToFlow_8 (Nat.le_of_ble_eq_true rfl) rfl ?_
    refine z_iload B dX2_addToFlow_10 0 rfl ?_
    refine z_iconst (v := (-1)) B dX2_addToFlow_12 rfl ?_
    refine z_icmp_ne (tgt := 37) B dX2_addToFlow_13 rfl (fun c_6 => ?_) (fun h9 => absurd h9 (nI_nm1x (n := ixN Fs K n) (by omega)))
    refine z_iload B dX2_addToFlow_37 0 rfl ?_
    refine z_iconst (v := (-1)) B dX2_addToFlow_39 rfl ?_
    refine z_icmp_ne (tgt := 58) B dX2_addToFlow_40 rfl (fun c_7 => ?_) (fun h9 => absurd h9 (nI_nm1x (n := ixN Fs K n) (by omega)))
    refine z_aload_n B dX2_addToFlow_58 rfl 1 rfl ?_
    have h_27 : Φ1 (x + 80) = some (o_ 4 [.ref (x + 3), .ref (x + 74), .ref (x + 81), .ref (x + 95), .int (nI tm), .int (nI r), .int (nI w), .int aq, .int xp, .int xb, .long ob, .long sm, .long (un.1)]) := ((hF1 (x + 80) (fun j9 h8 h7 => (show False from h7).elim)).trans hc0)
    refine z_get (ref := "FlowExporter$Exporter") (C := RX2) (T := TX2) (N := 13) (ci := 4) (v := .ref (x + 81)) B hu_X2_addToFlow_X2 rfl 2 (Nat.le_of_ble_eq_true rfl) hv_X2_addToFlow_14 rfl h_27 rfl dX2_addToFlow_59 ?_
    refine z_iload B dX2_addToFlow_62 0 rfl ?_
    have hcg16 : TbC G x n 99 Fs pp Φ1 := (TbC.fr hcf0 hF1 (fun j9 h7 => (show False from h7).elim))
    have e_5 := TbR.fl hcg16 (show ixN Fs K n < n by omega) (show ¬ ixN Fs K n = 99 by omega)
    have b_3 : (Fs (ixN Fs K n)).1 < 2 ^ 40 ∧ (Fs (ixN Fs K n)).2.2.2.1 ≤ 1000000 ∧ (Fs (ixN Fs K n)).2.2.2.2 ≤ 1000000 := e_5.1
    have h_28 : Φ1 (x + (83 + pp (ixN Fs K n))) = some (o_ 5 [.long (Int64.ofNat (Fs (ixN Fs K n)).1), .long ((Fs (ixN Fs K n)).2.1), .long ((Fs (ixN Fs K n)).2.2.1), .int (nI ((Fs (ixN Fs K n)).2.2.2.1)), .int (nI ((Fs (ixN Fs K n)).2.2.2.2))]) := e_5.2
    have hcg17 : TbC G x n (ixN Fs K n) Fs pp Φ1 := TbR.cut hcg16 (by decide)
    have b_4 : pp (ixN Fs K n) < 12 := TbR.lt hcg16 (show ixN Fs K n < 12 by omega)
    have h_29 : Φ1 (x + 81) = some (o_ 6 [.ref (x + 82), .int (nI n)]) := ((hF1 (x + 81) (fun j9 h8 h7 => (show False from h7).elim)).trans hc1)
    refine z_callV (As := [.int (nI (ixN Fs K n))]) (rest := []) B (s_X4_flowAt_81 G l Φ1 sz x (ca) n (ixN Fs K n) Fs pp (ixN Fs K n) hx hI1 h_29 hcg17 (show (ixN Fs K n) < 12 by omega)) (cwV 1 B.1.2.2.2.2 gX2_addToFlow_X4_flowAt rfl rfl rfl (by decide +kernel) ⟨Nat.le_of_ble_eq_true rfl, Nat.le_of_ble_eq_true rfl⟩) h_29 rfl rfl rfl rfl (Nat.le_of_ble_eq_true rfl) dX2_addToFlow_64 ⟨Nat.le_of_ble_eq_true rfl, Nat.le_of_ble_eq_true rfl⟩ (fun r_7 Φ13 sz7 st7 hp7 hs7 => ?_)
    obtain ⟨rfl, hq7, hI13, hF7⟩ := hp7
    subst sz7
    replace hs7 : st7 = [.ref (x + (83 + pp (ixN Fs K n)))] := hs7
    subst st7
    replace hI13 : In G x (ca) Φ13 := hI13
    refine z_astore (lv' := [(5, .ref (x + (83 + pp (ixN Fs K n)))), (4, .int (nI (ixN Fs K n))), (0, .ref (x + 80)), (1, .long (Int64.ofNat K)), (3, .int (nI b))]) B dX2_addToFlow_67 (Nat.le_of_ble_eq_true rfl) rfl ?_
    refine z_aload B dX2_addToFlow_69 0 rfl ?_
    refine z_dup B dX2_addToFlow_71 rfl ?_
    have h_30 : Φ13 (x + (83 + pp (ixN Fs K n))) = some (o_ 5 [.long (Int64.ofNat (Fs (ixN Fs K n)).1), .long ((Fs (ixN Fs K n)).2.1), .long ((Fs (ixN Fs K n)).2.2.1), .int (nI ((Fs (ixN Fs K n)).2.2.2.1)), .int (nI ((Fs (ixN Fs K n)).2.2.2.2))]) := ((hF7 (x + (83 + pp (ixN Fs K n))) (fun j9 h8 h7 => (show False from h7).elim)).trans h_28)
    refine z_get (ref := "FlowExporter$Flow") (C := RX3) (T := TX3) (N := 5) (ci := 5) (v := .long ((Fs (ixN Fs K n)).2.1)) B hu_X2_addToFlow_X3 rfl 1 (Nat.le_of_ble_eq_true rfl) hv_X2_addToFlow_102 rfl h_30 rfl dX2_addToFlow_72 ?_
    refine z_lconst (v := 1) B dX2_addToFlow_75 rfl ?_
    refine z_ladd B dX2_addToFlow_76 ?_
    refine z_put (ref := "FlowExporter$Flow") (C := RX3) (T := TX3) (N := 5) (ci := 5) (v := .long (((Fs (ixN Fs K n)).2.1) + 1)) B hu_X2_addToFlow_X3 tyX3 tyX3_ok nmX3 rfl 1 (Nat.le_of_ble_eq_true rfl) hv_X2_addToFlow_102 rfl (Or.inl rfl) h_30 (by omega) rfl rfl (Nat.le_of_ble_eq_true rfl) dX2_addToFlow_77 (fun Φ14 hΦ7 => ?_)
    have h_31 : Φ14 (x + (83 + pp (ixN Fs K n))) = some (o_ 5 [.long (Int64.ofNat (Fs (ixN Fs K n)).1), .long (((Fs (ixN Fs K n)).2.1) + 1), .long ((Fs (ixN Fs K n)).2.2.1), .int (nI ((Fs (ixN Fs K n)).2.2.2.1)), .int (nI ((Fs (ixN Fs K n)).2.2.2.2))]) := fset_at hΦ7
    have hI14 : In G x (ca) Φ14 := In.put (k := 83 + pp (ixN Fs K n)) hI13 hΦ7 (ok19 (k := 83 + pp (ixN Fs K n)) (kd_f (k := 82) rfl (show pp (ixN Fs K n) < 12 from TbR.lt hcg17 (by omega))) ⟨Int64.ofNat (Fs (ixN Fs K n)).1, ((Fs (ixN Fs K n)).2.1) + 1, (Fs (ixN Fs K n)).2.2.1, nI ((Fs (ixN Fs K n)).2.2.2.1), nI ((Fs (ixN Fs K n)).2.2.2.2), rfl⟩)
    refine z_aload B dX2_addToFlow_80 0 rfl ?_
    refine z_dup B dX2_addToFlow_82 rfl ?_
    refine z_get (ref := "FlowExporter$Flow") (C := RX3) (T := TX3) (N := 5) (ci := 5) (v := .long ((Fs (ixN Fs K n)).2.2.1)) B hu_X2_addToFlow_X3 rfl 2 (Nat.le_of_ble_eq_true rfl) hv_X2_addToFlow_107 rfl h_31 rfl dX2_addToFlow_83 ?_
    refine z_iload_n B dX2_addToFlow_86 rfl 4 rfl ?_
    refine z_i2l (v := (nI b).toInt64) B dX2_addToFlow_87 rfl ?_
    refine z_ladd B dX2_addToFlow_88 ?_
    refine z_put (ref := "FlowExporter$Flow") (C := RX3) (T := TX3) (N := 5) (ci := 5) (v := .long (((Fs (ixN Fs K n)).2.2.1) + ((nI b).toInt64))) B hu_X2_addToFlow_X3 tyX3 tyX3_ok nmX3 rfl 2 (Nat.le_of_ble_eq_true rfl) hv_X2_addToFlow_107 rfl (Or.inl rfl) h_31 (by omega) rfl rfl (Nat.le_of_ble_eq_true rfl) dX2_addToFlow_89 (fun Φ15 hΦ8 => ?_)
    have h_32 : Φ15 (x + (83 + pp (ixN Fs K n))) = some (o_ 5 [.long (Int64.ofNat (Fs (ixN Fs K n)).1), .long (((Fs (ixN Fs K n)).2.1) + 1), .long (((Fs (ixN Fs K n)).2.2.1) + ((nI b).toInt64)), .int (nI ((Fs (ixN Fs K n)).2.2.2.1)), .int (nI ((Fs (ixN Fs K n)).2.2.2.2))]) := fset_at hΦ8
    have hI15 : In G x (ca) Φ15 := In.put (k := 83 + pp (ixN Fs K n)) hI14 hΦ8 (ok19 (k := 83 + pp (ixN Fs K n)) (kd_f (k := 82) rfl (show pp (ixN Fs K n) < 12 from TbR.lt hcg17 (by omega))) ⟨Int64.ofNat (Fs (ixN Fs K n)).1, ((Fs (ixN Fs K n)).2.1) + 1, ((Fs (ixN Fs K n)).2.2.1) + ((nI b).toInt64), nI ((Fs (ixN Fs K n)).2.2.2.1), nI ((Fs (ixN Fs K n)).2.2.2.2), rfl⟩)
    refine z_aload B dX2_addToFlow_92 0 rfl ?_
    refine z_aload_n B dX2_addToFlow_94 rfl 2 rfl ?_
    have h_33 : Φ15 (x + 80) = some (o_ 4 [.ref (x + 3), .ref (x + 74), .ref (x + 81), .ref (x + 95), .int (nI tm), .int (nI r), .int (nI w), .int aq, .int xp, .int xb, .long ob, .long sm, .long (un.1)]) := ((fset_fr hΦ8 (by omega)).trans ((fset_fr hΦ7 (by omega)).trans ((hF7 (x + 80) (fun j9 h8 h7 => (show False from h7).elim)).trans h_27)))
    refine z_get (ref := "FlowExporter$Exporter") (C := RX2) (T := TX2) (N := 13) (ci := 4) (v := .int (nI tm)) B hu_X2_addToFlow_X2 rfl 4 (Nat.le_of_ble_eq_true rfl) hv_X2_addToFlow_23 rfl h_33 rfl dX2_addToFlow_95 ?_
    refine z_put (ref := "FlowExporter$Flow") (C := RX3) (T := TX3) (N := 5) (ci := 5) (v := .int (nI tm)) B hu_X2_addToFlow_X3 tyX3 tyX3_ok nmX3 rfl 4 (Nat.le_of_ble_eq_true rfl) hv_X2_addToFlow_123 rfl (Or.inl rfl) h_32 (by omega) rfl rfl (Nat.le_of_ble_eq_true rfl) dX2_addToFlow_98 (fun Φ16 hΦ9 => ?_)
    have h_34 : Φ16 (x + (83 + pp (ixN Fs K n))) = some (o_ 5 [.long (Int64.ofNat (Fs (ixN Fs K n)).1), .long (((Fs (ixN Fs K n)).2.1) + 1), .long (((Fs (ixN Fs K n)).2.2.1) + ((nI b).toInt64)), .int (nI ((Fs (ixN Fs K n)).2.2.2.1)), .int (nI tm)]) := fset_at hΦ9
    have hI16 : In G x (ca) Φ16 := In.put (k := 83 + pp (ixN Fs K n)) hI15 hΦ9 (ok19 (k := 83 + pp (ixN Fs K n)) (kd_f (k := 82) rfl (show pp (ixN Fs K n) < 12 from TbR.lt hcg17 (by omega))) ⟨Int64.ofNat (Fs (ixN Fs K n)).1, ((Fs (ixN Fs K n)).2.1) + 1, ((Fs (ixN Fs K n)).2.2.1) + ((nI b).toInt64), nI ((Fs (ixN Fs K n)).2.2.2.1), nI tm, rfl⟩)
    have hcg18 : TbC G x n (ixN Fs K n) Fs pp Φ16 := (TbR.offw (TbR.offw (TbR.offw (TbC.fr hcg17 hF7 (fun j9 h7 => (show False from h7).elim)) hΦ7 (by omega)) hΦ8 (by omega)) hΦ9 (by omega))
    have h_35 : Φ16 (x + 80) = some (o_ 4 [.ref (x + 3), .ref (x + 74), .ref (x + 81), .ref (x + 95), .int (nI tm), .int (nI r), .int (nI w), .int aq, .int xp, .int xb, .long ob, .long sm, .long (un.1)]) := ((fset_fr hΦ9 (by omega)).trans h_33)
    have hb9 : FlB (Fs (ixN Fs K n)) := (TbR.fl hcf0 (by omega) (by omega)).1
    have h_36 : Φ16 (x + 81) = some (o_ 6 [.ref (x + 82), .int (nI n)]) := ((fset_fr hΦ9 (by omega)).trans ((fset_fr hΦ8 (by omega)).trans ((fset_fr hΦ7 (by omega)).trans ((hF7 (x + 81) (fun j9 h8 h7 => (show False from h7).elim)).trans h_29))))
    have hcg19 : SdP G x c sn un Φ16 := (SdP.off (k := 83 + pp (ixN Fs K n)) (SdP.off (k := 83 + pp (ixN Fs K n)) (SdP.off (k := 83 + pp (ixN Fs K n)) (SdP.fr (SdP.fr hcf2 hF1 (fun j9 h7 => (show False from h7).elim)) hF7 (fun j9 h7 => (show False from h7).elim)) hΦ7 (by omega)) hΦ8 (by omega)) hΦ9 (by omega))
    exact z_ret_v B dX2_addToFlow_101 ⟨⟨_, _, _, _, rfl, (h_35.trans (congrArg (fun w9 : Int32 => some (o_ 4 [.ref (x + 3), .ref (x + 74), .ref (x + 81), .ref (x + 95), .int (nI tm), .int (nI r), .int (nI w), .int aq, .int w9, .int xb, .long ob, .long sm, .long (un.1)])) (nadd_0.trans (congrArg (fun w8 : Nat => xp + nI w8) (adS_f (c := c) (t := tm) (b := (nI b).toInt64) (u := un) (F := Fs) (K := K) (n := n) (by omega)).2.symm)))), h_36, TbR.fill (v := bump (Fs (ixN Fs K n)) (nI b).toInt64 tm) hcg18 (FlB.bump hb9 (by omega)) h_34, hcg19, (adS_f (c := c) (t := tm) (b := (nI b).toInt64) (u := un) (F := Fs) (K := K) (n := n) (by omega)).1, TbR.le hcg18⟩, rfl, hI16, (fun b9 h9 => ((fset_fr hΦ9 (fun h8 => h9 (83 + pp (ixN Fs K n)) h8 (show 74 ≤ (83 + pp (ixN Fs K n)) ∧ (83 + pp (ixN Fs K n)) < 95 by omega))).trans ((fset_fr hΦ8 (fun h8 => h9 (83 + pp (ixN Fs K n)) h8 (show 74 ≤ (83 + pp (ixN Fs K n)) ∧ (83 + pp (ixN Fs K n)) < 95 by omega))).trans ((fset_fr hΦ7 (fun h8 => h9 (83 + pp (ixN Fs K n)) h8 (show 74 ≤ (83 + pp (ixN Fs K n)) ∧ (83 + pp (ixN Fs K n)) < 95 by omega))).trans ((hF7 b9 (fun j9 h8 h7 => (show False from h7).elim)).trans ((hF1 b9 (fun j9 h8 h7 => (show False from h7).elim)).trans rfl))))))⟩

set_option maxHeartbeats 4000000 in
set_option maxRecDepth 100000 in
theorem s_X2_exportOldX (G : EnvG) (l : Launch) (Φ : Hm) (sz x ca : Nat) (tm : Nat) (r : Nat) (w : Nat) (aq : Int32) (xp : Int32) (xb : Int32) (ob : Int64) (sm : Int64) (un : UN) (n : Nat) (Fs : Nat → Fl) (pp : Nat → Nat) (t : Nat) (s : Nat) (c : Cf) (sn : SN) (hx : G.2.2.2 ≤ x) (hI : In G x ca Φ) (hc0 : Φ (x + 80) = some (o_ 4 [.ref (x + 3), .ref (x + 74), .ref (x + 81), .ref (x + 95), .int (nI tm), .int (nI r), .int (nI w), .int aq, .int xp, .int xb, .long ob, .long sm, .long (un.1)])) (hc1 : Φ (x + 81) = some (o_ 6 [.ref (x + 82), .int (nI n)])) (hcf0 : TbC G x n 99 Fs pp Φ) (hcf1 : CfA G x t s c Φ) (hcf2 : SdP G x c sn un Φ) (hn : n ≤ 12) (htm : tm ≤ 1000000) (hg : CfG c) (had : aq = 0 ∨ aq = 1) : Ct G l yX2_exportOld wsX2_exportOld ({ frames := 4, cells := 0, slots := 0, locals := 94 }) 0 0 [.ref (x + 80)] Φ sz (fun v Φ1 sz1 => (∃ (n8 : Nat) (F8 : Nat → Fl) (u8 : UN) (k8 : Nat) (d8 : Nat) (p8 : Nat → Nat), v = none ∧ Φ1 (x + 80) = some (o_ 4 [.ref (x + 3), .ref (x + 74), .ref (x + 81), .ref (x + 95), .int (nI tm), .int (nI r), .int (nI w), .int aq, .int (xp + nI d8), .int xb, .long ob, .long sm, .long (u8.1)]) ∧ Φ1 (x + 81) = some (o_ 6 [.ref (x + 82), .int (nI n8)]) ∧ TbC G x n8 99 F8 p8 Φ1 ∧ SdP G x c sn u8 Φ1 ∧ (olI c tm ((n, Fs, un), 0, 0) n = ((n8, F8, u8), k8, d8)) ∧ (n8 ≤ 12)) ∧ sz1 = sz ∧ In G x (ca) Φ1 ∧ Fr x (fun j9 => 74 ≤ j9 ∧ j9 < 95) Φ Φ1) := by
  refine Ct.of (cc := cX2_exportOld) (maxL := 6) (ret := none) (by decide) rfl (Nat.le_of_ble_eq_true rfl) ?_
  intro p9 e9 s9 m9 w9 t9 k9 B
  show Z p9 l e9 _ s9 m9 _ w9 t9 k9 _ G 6 0 [(0, .ref (x + 80))] [] Φ sz 0 0
  refine z_aload_n B dX2_exportOld_0 rfl 0 rfl ?_
  refine z_get (ref := "FlowExporter$Exporter") (C := RX2) (T := TX2) (N := 13) (ci := 4) (v := .ref (x + 3)) B hu_X2_exportOld_X2 rfl 0 (Nat.le_of_ble_eq_true rfl) hv_X2_exportOld_53 rfl hc0 rfl dX2_exportOld_1 ?_
  refine z_iconst (v := 2) B dX2_exportOld_4 rfl ?_
  obtain ⟨v_1, v_2, h_1⟩ := in3 (k := 3) hI rfl
  have h_2 : Φ (x + 3) = some (o_ 3 [.ref (x + 4), .ref (x + 5), .ref (x + 6), .ref (x + 7), .int v_1, .int v_2]) := h_1
  refine z_callV (As := [.int 2]) (rest := []) B (s_X1_getX G l Φ sz x (ca) t s c 2 hx hI hcf1 (show 2 < 9 by omega)) (cwV 1 B.1.2.2.2.2 gX2_exportOld_X1_get rfl rfl rfl (by decide +kernel) ⟨Nat.le_of_ble_eq_true rfl, Nat.le_of_ble_eq_true rfl⟩) h_2 rfl rfl rfl rfl (Nat.le_of_ble_eq_true rfl) dX2_exportOld_5 ⟨Nat.le_of_ble_eq_true rfl, Nat.le_of_ble_eq_true rfl⟩ (fun r_1 Φ1 sz1 st1 hp1 hs1 => ?_)
  obtain ⟨rfl, hq1, hI1, hF1⟩ := hp1
  subst sz1
  replace hs1 : st1 = [.int (c 2)] := hs1
  subst st1
  replace hI1 : In G x (ca) Φ1 := hI1
  refine z_istore_n (lv' := [(1, .int (c 2)), (0, .ref (x + 80))]) B dX2_exportOld_8 rfl (Nat.le_of_ble_eq_true rfl) rfl ?_
  refine z_aload_n B dX2_exportOld_9 rfl 1 rfl ?_
  have h_3 : Φ1 (x + 80) = some (o_ 4 [.ref (x + 3), .ref (x + 74), .ref (x + 81), .ref (x + 95), .int (nI tm), .int (nI r), .int (nI w), .int aq, .int xp, .int xb, .long ob, .long sm, .long (un.1)]) := ((hF1 (x + 80) (fun j9 h8 h7 => (show False from h7).elim)).trans hc0)
  refine z_get (ref := "FlowExporter$Exporter") (C := RX2) (T := TX2) (N := 13) (ci := 4) (v := .ref (x + 3)) B hu_X2_exportOld_X2 rfl 0 (Nat.le_of_ble_eq_true rfl) hv_X2_exportOld_53 rfl h_3 rfl dX2_exportOld_10 ?_
  refine z_iconst (v := 3) B dX2_exportOld_13 rfl ?_
  have hcg1 : CfA G x t s c Φ1 := (CfA.fr hcf1 hF1 (fun j9 h7 => (show False from h7).elim))
  have h_4 : Φ1 (x + 3) = some (o_ 3 [.ref (x + 4), .ref (x + 5), .ref (x + 6), .ref (x + 7), .int v_1, .int v_2]) := ((hF1 (x + 3) (fun j9 h8 h7 => (show False from h7).elim)).trans h_2)
  refine z_callV (As := [.int 3]) (rest := []) B (s_X1_getX G l Φ1 sz x (ca) t s c 3 hx hI1 hcg1 (show 3 < 9 by omega)) (cwV 1 B.1.2.2.2.2 gX2_exportOld_X1_get rfl rfl rfl (by decide +kernel) ⟨Nat.le_of_ble_eq_true rfl, Nat.le_of_ble_eq_true rfl⟩) h_4 rfl rfl rfl rfl (Nat.le_of_ble_eq_true rfl) dX2_exportOld_14 ⟨Nat.le_of_ble_eq_true rfl, Nat.le_of_ble_eq_true rfl⟩ (fun r_2 Φ2 sz2 st2 hp2 hs2 => ?_)
  obtain ⟨rfl, hq2, hI2, hF2⟩ := hp2
  subst sz2
  replace hs2 : st2 = [.int (c 3)] := hs2
  subst st2
  replace hI2 : In G x (ca) Φ2 := hI2
  refine z_istore_n (lv' := [(2, .int (c 3)), (1, .int (c 2)), (0, .ref (x + 80))]) B dX2_exportOld_17 rfl (Nat.le_of_ble_eq_true rfl) rfl ?_
  refine z_iconst (v := 0) B dX2_exportOld_18 rfl ?_
  refine z_istore_n (lv' := [(3, .int 0), (2, .int (c 3)), (1, .int (c 2)), (0, .ref (x + 80))]) B dX2_exportOld_19 rfl (Nat.le_of_ble_eq_true rfl) rfl ?_
  refine z_aload_n B dX2_exportOld_20 rfl 3 rfl ?_
  have h_5 : Φ2 (x + 80) = some (o_ 4 [.ref (x + 3), .ref (x + 74), .ref (x + 81), .ref (x + 95), .int (nI tm), .int (nI r), .int (nI w), .int aq, .int xp, .int xb, .long ob, .long sm, .long (un.1)]) := ((hF2 (x + 80) (fun j9 h8 h7 => (show False from h7).elim)).trans h_3)
  refine z_get (ref := "FlowExporter$Exporter") (C := RX2) (T := TX2) (N := 13) (ci := 4) (v := .ref (x + 81)) B hu_X2_exportOld_X2 rfl 2 (Nat.le_of_ble_eq_true rfl) hv_X2_exportOld_14 rfl h_5 rfl dX2_exportOld_21 ?_
  have h_6 : Φ2 (x + 81) = some (o_ 6 [.ref (x + 82), .int (nI n)]) := ((hF2 (x + 81) (fun j9 h8 h7 => (show False from h7).elim)).trans ((hF1 (x + 81) (fun j9 h8 h7 => (show False from h7).elim)).trans hc1))
  refine z_get (ref := "FlowExporter$FlowTable") (C := RX4) (T := TX4) (N := 2) (ci := 6) (v := .int (nI n)) B hu_X2_exportOld_X4 rfl 1 (Nat.le_of_ble_eq_true rfl) hv_X2_exportOld_61 rfl h_6 rfl dX2_exportOld_24 ?_
  refine z_istore (lv' := [(4, .int (nI n)), (3, .int 0), (2, .int (c 3)), (1, .int (c 2)), (0, .ref (x + 80))]) B dX2_exportOld_27 (Nat.le_of_ble_eq_true rfl) rfl ?_
  refine z_lv [0, 1, 2, 3, 4] rfl ?_
  have hcg2 : TbC G x n 99 Fs pp Φ2 := (TbC.fr (TbC.fr hcf0 hF1 (fun j9 h7 => (show False from h7).elim)) hF2 (fun j9 h7 => (show False from h7).elim))
  have hcg3 : CfA G x t s c Φ2 := (CfA.fr hcg1 hF2 (fun j9 h7 => (show False from h7).elim))
  have hcg4 : SdP G x c sn un Φ2 := (SdP.fr (SdP.fr hcf2 hF1 (fun j9 h7 => (show False from h7).elim)) hF2 (fun j9 h7 => (show False from h7).elim))
  refine z_loop (α := Nat × Nat × Nat × (Nat → Fl) × UN × Nat × (Nat → Nat)) (fun (a9 : Nat × Nat × Nat × (Nat → Fl) × UN × Nat × (Nat → Nat)) Φi => In G x (ca) Φi ∧ Fr x (fun j9 => 74 ≤ j9 ∧ j9 < 95) Φ2 Φi ∧ (a9.1 ≤ n) ∧ (a9.2.2.1 ≤ 12) ∧ (a9.2.1 + a9.1 = a9.2.2.1) ∧ (olI c tm ((n, Fs, un), 0, 0) (n - a9.1) = ((a9.2.2.1, a9.2.2.2.1, a9.2.2.2.2.1), a9.2.1, a9.2.2.2.2.2.1)) ∧ (TbC G x a9.2.2.1 99 a9.2.2.2.1 a9.2.2.2.2.2.2 Φi) ∧ (CfA G x t s c Φi) ∧ (SdP G x c sn a9.2.2.2.2.1 Φi) ∧ (Φi (x + 80) = some (o_ 4 [.ref (x + 3), .ref (x + 74), .ref (x + 81), .ref (x + 95), .int (nI tm), .int (nI r), .int (nI w), .int aq, .int (xp + nI a9.2.2.2.2.2.1), .int xb, .long ob, .long sm, .long (a9.2.2.2.2.1.1)])) ∧ (Φi (x + 81) = some (o_ 6 [.ref (x + 82), .int (nI (a9.2.2.1))])) ∧ True) (fun a9 => [(4, .int (nI (a9.1))), (3, .int (nI (a9.2.1))), (2, .int (c 3)), (1, .int (c 2)), (0, .ref (x + 80))]) (fun a9 => a9.1) ?_ (n, 0, n, Fs, un, 0, pp) ⟨hI2, fun _ _ => rfl, (show n ≤ n by omega), (show n ≤ 12 by omega), (show 0 + n = n by omega), (by rw [Nat.sub_self]; rfl), hcg2, hcg3, hcg4, (h_5.trans (congrArg (fun w9 : Int32 => some (o_ 4 [.ref (x + 3), .ref (x + 74), .ref (x + 81), .ref (x + 95), .int (nI tm), .int (nI r), .int (nI w), .int aq, .int w9, .int xb, .long ob, .long sm, .long (un.1)])) nadd_0)), (h_6.trans (congrArg (fun w9 : Nat => some (o_ 6 [.ref (x + 82), .int (nI w9)])) (show n = n by omega))), trivial⟩
  rintro ⟨i_1, i_2, i_3, i_4, i_5, i_6, i_7⟩ Φl1 ⟨hI3, hF3, b_1, b_2, b_3, b_4, b_5, b_6, b_7, b_8, b_9, -⟩ ih1
  replace hI3 : In G x (ca) Φl1 := hI3
  replace b_1 : i_1 ≤ n := b_1
  replace b_2 : i_3 ≤ 12 := b_2
  replace b_3 : i_2 + i_1 = i_3 := b_3
  replace b_4 : olI c tm ((n, Fs, un), 0, 0) (n - i_1) = ((i_3, i_4, i_5), i_2, i_6) := b_4
  replace b_5 : TbC G x i_3 99 i_4 i_7 Φl1 := b_5
  replace b_6 : CfA G x t s c Φl1 := b_6
  replace b_7 : SdP G x c sn i_5 Φl1 := b_7
  replace b_8 : Φl1 (x + 80) = some (o_ 4 [.ref (x + 3), .ref (x + 74), .ref (x + 81), .ref (x + 95), .int (nI tm), .int (nI r), .int (nI w), .int aq, .int (xp + nI i_6), .int xb, .long ob, .long sm, .long (i_5.1)]) := b_8
  replace b_9 : Φl1 (x + 81) = some (o_ 6 [.ref (x + 82), .int (nI (i_3))]) := b_9
  show Z p9 l e9 _ s9 m9 _ w9 t9 k9 _ G 6 29 [(4, .int (nI i_1)), (3, .int (nI i_2)), (2, .int (c 3)), (1, .int (c 2)), (0, .ref (x + 80))] [] Φl1 _ _ _
  refine z_iload B dX2_exportOld_29 0 rfl ?_
  refine z_if_le (tgt := 89) B dX2_exportOld_31 rfl (fun c_1 => ?_) (fun c_1 => ?_)
  · have e_1 : i_1 ≤ 0 := (nI_leI (a := i_1) (b := 0) (by omega) (by omega)).mp c_1
    have hi0 : i_1 = 0 := by omega
    subst hi0
    exact z_ret_v B dX2_exportOld_89 ⟨⟨i_3, i_4, i_5, i_2, i_6, i_7, rfl, b_8, b_9, b_5, b_7, b_4, TbR.le b_5⟩, rfl, hI3, (fun b9 h9 => ((hF3 b9 h9).trans ((hF2 b9 (fun j9 h8 h7 => (show False from h7).elim)).trans ((hF1 b9 (fun j9 h8 h7 => (show False from h7).elim)).trans rfl))))⟩
  · have e_2 : ¬ (i_1 ≤ 0) := fun h9 => c_1 ((nI_leI (a := i_1) (b := 0) (by omega) (by omega)).mpr h9)
    refine z_aload_n B dX2_exportOld_34 rfl 4 rfl ?_
    refine z_get (ref := "FlowExporter$Exporter") (C := RX2) (T := TX2) (N := 13) (ci := 4) (v := .ref (x + 81)) B hu_X2_exportOld_X2 rfl 2 (Nat.le_of_ble_eq_true rfl) hv_X2_exportOld_14 rfl b_8 rfl dX2_exportOld_35 ?_
    refine z_iload_n B dX2_exportOld_38 rfl 1 rfl ?_
    have e_3 := TbR.fl b_5 (show i_2 < i_3 by omega) (show ¬ i_2 = 99 by omega)
    have b_10 : (i_4 i_2).1 < 2 ^ 40 ∧ (i_4 i_2).2.2.2.1 ≤ 1000000 ∧ (i_4 i_2).2.2.2.2 ≤ 1000000 := e_3.1
    have h_7 : Φl1 (x + (83 + i_7 i_2)) = some (o_ 5 [.long (Int64.ofNat (i_4 i_2).1), .long ((i_4 i_2).2.1), .long ((i_4 i_2).2.2.1), .int (nI ((i_4 i_2).2.2.2.1)), .int (nI ((i_4 i_2).2.2.2.2))]) := e_3.2
    refine z_callV (As := [.int (nI i_2)]) (rest := []) B (s_X4_flowAt_81 G l Φl1 sz x (ca) i_3 99 i_4 i_7 i_2 hx hI3 b_9 b_5 (show i_2 < 12 by omega)) (cwV 1 B.1.2.2.2.2 gX2_exportOld_X4_flowAt rfl rfl rfl (by decide +kernel) ⟨Nat.le_of_ble_eq_true rfl, Nat.le_of_ble_eq_true rfl⟩) b_9 rfl rfl rfl rfl (Nat.le_of_ble_eq_true rfl) dX2_exportOld_39 ⟨Nat.le_of_ble_eq_true rfl, Nat.le_of_ble_eq_true rfl⟩ (fun r_3 Φ3 sz3 st3 hp3 hs3 => ?_)
    obtain ⟨rfl, hq3, hI4, hF4⟩ := hp3
    subst sz3
    replace hs3 : st3 = [.ref (x + (83 + i_7 i_2))] := hs3
    subst st3
    replace hI4 : In G x (ca) Φ3 := hI4
    refine z_astore (lv' := [(5, .ref (x + (83 + i_7 i_2))), (4, .int (nI i_1)), (3, .int (nI i_2)), (2, .int (c 3)), (1, .int (c 2)), (0, .ref (x + 80))]) B dX2_exportOld_42 (Nat.le_of_ble_eq_true rfl) rfl ?_
    refine z_aload_n B dX2_exportOld_44 rfl 5 rfl ?_
    have h_8 : Φ3 (x + 80) = some (o_ 4 [.ref (x + 3), .ref (x + 74), .ref (x + 81), .ref (x + 95), .int (nI tm), .int (nI r), .int (nI w), .int aq, .int (xp + nI i_6), .int xb, .long ob, .long sm, .long (i_5.1)]) := ((hF4 (x + 80) (fun j9 h8 h7 => (show False from h7).elim)).trans b_8)
    refine z_get (ref := "FlowExporter$Exporter") (C := RX2) (T := TX2) (N := 13) (ci := 4) (v := .int (nI tm)) B hu_X2_exportOld_X2 rfl 4 (Nat.le_of_ble_eq_true rfl) hv_X2_exportOld_23 rfl h_8 rfl dX2_exportOld_45 ?_
    refine z_aload B dX2_exportOld_48 0 rfl ?_
    have h_9 : Φ3 (x + (83 + i_7 i_2)) = some (o_ 5 [.long (Int64.ofNat (i_4 i_2).1), .long ((i_4 i_2).2.1), .long ((i_4 i_2).2.2.1), .int (nI ((i_4 i_2).2.2.2.1)), .int (nI ((i_4 i_2).2.2.2.2))]) := ((hF4 (x + (83 + i_7 i_2)) (fun j9 h8 h7 => (show False from h7).elim)).trans h_7)
    refine z_get (ref := "FlowExporter$Flow") (C := RX3) (T := TX3) (N := 5) (ci := 5) (v := .int (nI ((i_4 i_2).2.2.2.1))) B hu_X2_exportOld_X3 rfl 3 (Nat.le_of_ble_eq_true rfl) hv_X2_exportOld_162 rfl h_9 rfl dX2_exportOld_50 ?_
    refine z_isub B dX2_exportOld_53 ?_
    refine z_iload_n B dX2_exportOld_54 rfl 4 rfl ?_
    refine z_icmp_ge (tgt := 72) B dX2_exportOld_55 rfl (fun c_2 => ?_) (fun c_2 => ?_)
    · have q_1 : ((c 2).toInt ≤ (tm : Int) - (i_4 i_2).2.2.2.1) := (ov_1 (c := c 2) (t := tm) (a := (i_4 i_2).2.2.2.1) (by omega) (by omega)).mp c_2
      refine z_aload_n B dX2_exportOld_72 rfl 5 rfl ?_
      refine z_iload_n B dX2_exportOld_73 rfl 2 rfl ?_
      have h_10 : Φ3 (x + 81) = some (o_ 6 [.ref (x + 82), .int (nI (i_3))]) := ((hF4 (x + 81) (fun j9 h8 h7 => (show False from h7).elim)).trans b_9)
      have hcg5 : TbC G x i_3 99 i_4 i_7 Φ3 := (TbC.fr b_5 hF4 (fun j9 h7 => (show False from h7).elim))
      have hcg6 : CfA G x t s c Φ3 := (CfA.fr b_6 hF4 (fun j9 h7 => (show False from h7).elim))
      have hcg7 : SdP G x c sn i_5 Φ3 := (SdP.fr b_7 hF4 (fun j9 h7 => (show False from h7).elim))
      refine z_callV (As := [.int (nI i_2)]) (rest := []) B (s_X2_exportAtX G l Φ3 sz x (ca) tm r w aq (xp + nI i_6) xb ob sm i_5 i_3 i_4 i_7 t s c sn i_2 hx hI4 h_8 h_10 hcg5 hcg6 hcg7 (show i_2 < i_3 by omega) (show i_3 ≤ 12 by omega) hg had) (cwV 1 B.1.2.2.2.2 gX2_exportOld_X2_exportAt rfl rfl rfl (by decide +kernel) ⟨Nat.le_of_ble_eq_true rfl, Nat.le_of_ble_eq_true rfl⟩) h_8 rfl rfl rfl rfl (Nat.le_of_ble_eq_true rfl) dX2_exportOld_74 ⟨Nat.le_of_ble_eq_true rfl, Nat.le_of_ble_eq_true rfl⟩ (fun r_4 Φ4 sz4 st4 hp4 hs4 => ?_)
      obtain ⟨⟨rfl, h_11, h_12, hcg8, hcg9⟩, hq4, hI5, hF5⟩ := hp4
      subst sz4
      replace hs4 : st4 = [] := hs4
      subst st4
      replace hI5 : In G x (ca) Φ4 := hI5
      refine z_goto (tgt := 83) B dX2_exportOld_77 rfl ?_
      refine z_iinc (k := 1) (v := nI (i_1 - 1)) (lv' := [(4, .int (nI (i_1 - 1))), (5, .ref (x + (83 + i_7 i_2))), (3, .int (nI i_2)), (2, .int (c 3)), (1, .int (c 2)), (0, .ref (x + 80))]) B dX2_exportOld_83 rfl (nI_m1 (show 1 ≤ i_1 by omega)) (Nat.le_of_ble_eq_true rfl) rfl ?_
      refine z_goto (tgt := 29) B dX2_exportOld_86 rfl ?_
      refine z_lv [0, 2, 3, 4, 5] rfl ?_
      have hcg10 : CfA G x t s c Φ4 := (CfA.fr hcg6 hF5 (fun j9 h7 => by have h6 : 74 ≤ j9 ∧ j9 < 95 := h7; intros; omega))
      exact ih1 (i_1 - 1, i_2, i_3 - 1, shF i_4 i_2, unE c (i_4 i_2).1 i_5, i_6 + 1, shP i_7 i_3 i_2) Φ4 (show (i_1 - 1) < i_1 by omega) ⟨hI5, (fun b9 h9 => ((hF5 b9 h9).trans ((hF4 b9 (fun j9 h8 h7 => (show False from h7).elim)).trans ((hF3 b9 h9).trans rfl)))), (show (i_1 - 1) ≤ n by omega), (show (i_3 - 1) ≤ 12 by omega), (show i_2 + (i_1 - 1) = (i_3 - 1) by omega), (show olI c tm ((n, Fs, un), 0, 0) (n - (i_1 - 1)) = (((i_3 - 1), (shF i_4 i_2), (unE c (i_4 i_2).1 i_5)), i_2, (i_6 + 1)) from (by rw [show n - (i_1 - 1) = n - i_1 + 1 by omega]; exact (olI_y b_4 (Or.inl q_1)))), hcg8, hcg10, hcg9, (h_11.trans (congrArg (fun w9 : Int32 => some (o_ 4 [.ref (x + 3), .ref (x + 74), .ref (x + 81), .ref (x + 95), .int (nI tm), .int (nI r), .int (nI w), .int aq, .int w9, .int xb, .long ob, .long sm, .long ((unE c (i_4 i_2).1 i_5).1)])) (nadd xp i_6))), h_12, trivial⟩
    · have q_2 : ¬ ((c 2).toInt ≤ (tm : Int) - (i_4 i_2).2.2.2.1) := fun h9 => c_2 ((ov_1 (c := c 2) (t := tm) (a := (i_4 i_2).2.2.2.1) (by omega) (by omega)).mpr h9)
      refine z_aload_n B dX2_exportOld_58 rfl 5 rfl ?_
      refine z_get (ref := "FlowExporter$Exporter") (C := RX2) (T := TX2) (N := 13) (ci := 4) (v := .int (nI tm)) B hu_X2_exportOld_X2 rfl 4 (Nat.le_of_ble_eq_true rfl) hv_X2_exportOld_23 rfl h_8 rfl dX2_exportOld_59 ?_
      refine z_aload B dX2_exportOld_62 0 rfl ?_
      refine z_get (ref := "FlowExporter$Flow") (C := RX3) (T := TX3) (N := 5) (ci := 5) (v := .int (nI ((i_4 i_2).2.2.2.2))) B hu_X2_exportOld_X3 rfl 4 (Nat.le_of_ble_eq_true rfl) hv_X2_exportOld_123 rfl h_9 rfl dX2_exportOld_64 ?_
      refine z_isub B dX2_exportOld_67 ?_
      refine z_iload_n B dX2_exportOld_68 rfl 3 rfl ?_
      refine z_icmp_lt (tgt := 80) B dX2_exportOld_69 rfl (fun c_3 => ?_) (fun c_3 => ?_)
      · have q_3 : ¬ ((c 3).toInt ≤ (tm : Int) - (i_4 i_2).2.2.2.2) := fun h9 => (Int32.not_lt.mpr ((ov_1 (c := c 3) (t := tm) (a := (i_4 i_2).2.2.2.2) (by omega) (by omega)).mpr h9)) c_3
        refine z_iinc (k := 2) (v := nI (i_2 + 1)) (lv' := [(3, .int (nI (i_2 + 1))), (5, .ref (x + (83 + i_7 i_2))), (4, .int (nI i_1)), (2, .int (c 3)), (1, .int (c 2)), (0, .ref (x + 80))]) B dX2_exportOld_80 rfl (nI_add i_2 1) (Nat.le_of_ble_eq_true rfl) rfl ?_
        refine z_iinc (k := 2) (v := nI (i_1 - 1)) (lv' := [(4, .int (nI (i_1 - 1))), (3, .int (nI (i_2 + 1))), (5, .ref (x + (83 + i_7 i_2))), (2, .int (c 3)), (1, .int (c 2)), (0, .ref (x + 80))]) B dX2_exportOld_83 rfl (nI_m1 (show 1 ≤ i_1 by omega)) (Nat.le_of_ble_eq_true rfl) rfl ?_
        refine z_goto (tgt := 29) B dX2_exportOld_86 rfl ?_
        have hcg11 : TbC G x i_3 99 i_4 i_7 Φ3 := (TbC.fr b_5 hF4 (fun j9 h7 => (show False from h7).elim))
        refine z_lv [0, 1, 3, 4, 5] rfl ?_
        have hcg12 : CfA G x t s c Φ3 := (CfA.fr b_6 hF4 (fun j9 h7 => (show False from h7).elim))
        have hcg13 : SdP G x c sn i_5 Φ3 := (SdP.fr b_7 hF4 (fun j9 h7 => (show False from h7).elim))
        have h_13 : Φ3 (x + 81) = some (o_ 6 [.ref (x + 82), .int (nI (i_3))]) := ((hF4 (x + 81) (fun j9 h8 h7 => (show False from h7).elim)).trans b_9)
        exact ih1 (i_1 - 1, i_2 + 1, i_3, i_4, i_5, i_6, i_7) Φ3 (show (i_1 - 1) < i_1 by omega) ⟨hI4, (fun b9 h9 => ((hF4 b9 (fun j9 h8 h7 => (show False from h7).elim)).trans ((hF3 b9 h9).trans rfl))), (show (i_1 - 1) ≤ n by omega), (show i_3 ≤ 12 by omega), (show (i_2 + 1) + (i_1 - 1) = i_3 by omega), (show olI c tm ((n, Fs, un), 0, 0) (n - (i_1 - 1)) = ((i_3, i_4, i_5), (i_2 + 1), i_6) from (by rw [show n - (i_1 - 1) = n - i_1 + 1 by omega]; exact (olI_n b_4 (fun h9 => h9.elim q_2 q_3)))), hcg11, hcg12, hcg13, h_8, h_13, trivial⟩
      · have q_4 : ((c 3).toInt ≤ (tm : Int) - (i_4 i_2).2.2.2.2) := (ov_1 (c := c 3) (t := tm) (a := (i_4 i_2).2.2.2.2) (by omega) (by omega)).mp (Int32.not_lt.mp c_3)
        refine z_aload_n B dX2_exportOld_72 rfl 5 rfl ?_
        refine z_iload_n B dX2_exportOld_73 rfl 2 rfl ?_
        have h_14 : Φ3 (x + 81) = some (o_ 6 [.ref (x + 82), .int (nI (i_3))]) := ((hF4 (x + 81) (fun j9 h8 h7 => (show False from h7).elim)).trans b_9)
        have hcg14 : TbC G x i_3 99 i_4 i_7 Φ3 := (TbC.fr b_5 hF4 (fun j9 h7 => (show False from h7).elim))
        have hcg15 : CfA G x t s c Φ3 := (CfA.fr b_6 hF4 (fun j9 h7 => (show False from h7).elim))
        have hcg16 : SdP G x c sn i_5 Φ3 := (SdP.fr b_7 hF4 (fun j9 h7 => (show False from h7).elim))
        refine z_callV (As := [.int (nI i_2)]) (rest := []) B (s_X2_exportAtX G l Φ3 sz x (ca) tm r w aq (xp + nI i_6) xb ob sm i_5 i_3 i_4 i_7 t s c sn i_2 hx hI4 h_8 h_14 hcg14 hcg15 hcg16 (show i_2 < i_3 by omega) (show i_3 ≤ 12 by omega) hg had) (cwV 1 B.1.2.2.2.2 gX2_exportOld_X2_exportAt rfl rfl rfl (by decide +kernel) ⟨Nat.le_of_ble_eq_true rfl, Nat.le_of_ble_eq_true rfl⟩) h_8 rfl rfl rfl rfl (Nat.le_of_ble_eq_true rfl) dX2_exportOld_74 ⟨Nat.le_of_ble_eq_true rfl, Nat.le_of_ble_eq_true rfl⟩ (fun r_5 Φ5 sz5 st5 hp5 hs5 => ?_)
        obtain ⟨⟨rfl, h_15, h_16, hcg17, hcg18⟩, hq5, hI6, hF6⟩ := hp5
        subst sz5
        replace hs5 : st5 = [] := hs5
        subst st5
        replace hI6 : In G x (ca) Φ5 := hI6
        refine z_goto (tgt := 83) B dX2_exportOld_77 rfl ?_
        refine z_iinc (k := 1) (v := nI (i_1 - 1)) (lv' := [(4, .int (nI (i_1 - 1))), (5, .ref (x + (83 + i_7 i_2))), (3, .int (nI i_2)), (2, .int (c 3)), (1, .int (c 2)), (0, .ref (x + 80))]) B dX2_exportOld_83 rfl (nI_m1 (show 1 ≤ i_1 by omega)) (Nat.le_of_ble_eq_true rfl) rfl ?_
        refine z_goto (tgt := 29) B dX2_exportOld_86 rfl ?_
        refine z_lv [0, 2, 3, 4, 5] rfl ?_
        have hcg19 : CfA G x t s c Φ5 := (CfA.fr hcg15 hF6 (fun j9 h7 => by have h6 : 74 ≤ j9 ∧ j9 < 95 := h7; intros; omega))
        exact ih1 (i_1 - 1, i_2, i_3 - 1, shF i_4 i_2, unE c (i_4 i_2).1 i_5, i_6 + 1, shP i_7 i_3 i_2) Φ5 (show (i_1 - 1) < i_1 by omega) ⟨hI6, (fun b9 h9 => ((hF6 b9 h9).trans ((hF4 b9 (fun j9 h8 h7 => (show False from h7).elim)).trans ((hF3 b9 h9).trans rfl)))), (show (i_1 - 1) ≤ n by omega), (show (i_3 - 1) ≤ 12 by omega), (show i_2 + (i_1 - 1) = (i_3 - 1) by omega), (show olI c tm ((n, Fs, un), 0, 0) (n - (i_1 - 1)) = (((i_3 - 1), (shF i_4 i_2), (unE c (i_4 i_2).1 i_5)), i_2, (i_6 + 1)) from (by rw [show n - (i_1 - 1) = n - i_1 + 1 by omega]; exact (olI_y b_4 (Or.inr q_4)))), hcg17, hcg19, hcg18, (h_15.trans (congrArg (fun w9 : Int32 => some (o_ 4 [.ref (x + 3), .ref (x + 74), .ref (x + 81), .ref (x + 95), .int (nI tm), .int (nI r), .int (nI w), .int aq, .int w9, .int xb, .long ob, .long sm, .long ((unE c (i_4 i_2).1 i_5).1)])) (nadd xp i_6))), h_16, trivial⟩

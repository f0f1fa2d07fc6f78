set_option maxHeartbeats 4000000 in
set_option maxRecDepth 100000 in
theorem s_X2_rememberX (G : EnvG) (l : Launch) (Φ : Hm) (sz x ca : Nat) (tm : Nat) (r : Nat) (w : Nat) (aq : Int32) (xp : Int32) (xb : Int32) (ob : Int64) (sm : Int64) (un : UN) (nT : Nat) (Ft : Nat → Fl) (pt : Nat → Nat) (K : Nat) (b : Nat) (m : Nat) (hx : G.2.2.2 ≤ x) (hI : In G x ca Φ) (hc0 : Φ (x + 80) = some (o_ 4 [.ref (x + 3), .ref (x + 74), .ref (x + 81), .ref (x + 95), .int (nI tm), .int (nI r), .int (nI w), .int aq, .int xp, .int xb, .long ob, .long sm, .long (un.1)])) (hc1 : Φ (x + 95) = some (o_ 6 [.ref (x + 96), .int (nI nT)])) (hcf0 : TbT G x nT 99 Ft pt Φ) (hnT : nT ≤ 24) (hK : K < 2 ^ 40) (htm : tm ≤ 1000000) : Ct G l yX2_remember wsX2_remember ({ frames := 2, cells := 0, slots := 0, locals := 47 }) 0 0 [.ref (x + 80), .long (Int64.ofNat K), .int (nI b), .int (nI m)] Φ sz (fun v Φ1 sz1 => (∃ (n8 : Nat) (F8 : Nat → Fl) (p8 : Nat → Nat), v = none ∧ Φ1 (x + 95) = some (o_ 6 [.ref (x + 96), .int (nI n8)]) ∧ TbT G x n8 99 F8 p8 Φ1 ∧ (rmS K (nI b).toInt64 m tm (nT, Ft) = (n8, F8)) ∧ (n8 ≤ 24)) ∧ sz1 = sz ∧ In G x (ca) Φ1 ∧ Fr x (fun j9 => 95 ≤ j9 ∧ j9 < 121) Φ Φ1) := by
  refine Ct.of (cc := cX2_remember) (maxL := 7) (ret := none) (by decide) rfl (Nat.le_of_ble_eq_true rfl) ?_
  intro p9 e9 s9 m9 w9 t9 k9 B
  show Z p9 l e9 _ s9 m9 _ w9 t9 k9 _ G 7 0 [(0, .ref (x + 80)), (1, .long (Int64.ofNat K)), (3, .int (nI b)), (4, .int (nI m))] [] Φ sz 0 0
  refine z_aload_n B dX2_remember_0 rfl 0 rfl ?_
  refine z_get (ref := "FlowExporter$Exporter") (C := RX2) (T := TX2) (N := 13) (ci := 4) (v := .ref (x + 95)) B hu_X2_remember_X2 rfl 3 (Nat.le_of_ble_eq_true rfl) hv_X2_remember_20 rfl hc0 rfl dX2_remember_1 ?_
  refine z_lload_n B dX2_remember_4 rfl 1 rfl ?_
  refine z_callV (As := [.long (Int64.ofNat K)]) (rest := []) B (s_X4_indexOf_95 G l Φ sz x (ca) nT Ft pt K hx hI hc1 hcf0 (show nT ≤ 24 by omega) (show K < 2 ^ 40 by omega)) (cwV 1 B.1.2.2.2.2 gX2_remember_X4_indexOf rfl rfl rfl (by decide +kernel) ⟨Nat.le_of_ble_eq_true rfl, Nat.le_of_ble_eq_true rfl⟩) hc1 rfl rfl rfl rfl (Nat.le_of_ble_eq_true rfl) dX2_remember_5 ⟨Nat.le_of_ble_eq_true rfl, Nat.le_of_ble_eq_true rfl⟩ (fun r_1 Φ1 sz1 st1 hp1 hs1 => ?_)
  obtain ⟨ha1, hq1, hI1, hF1⟩ := hp1
  subst sz1
  replace hI1 : In G x (ca) Φ1 := hI1
  rcases ha1 with ⟨rfl, e_1⟩ | ⟨rfl, e_2⟩
  · replace e_1 : ¬ ixN Ft K nT < nT := e_1
    replace hs1 : st1 = [.int (-1)] := hs1
    subst st1
    refine z_istore (lv' := [(5, .int (-1)), (0, .ref (x + 80)), (1, .long (Int64.ofNat K)), (3, .int (nI b)), (4, .int (nI m))]) B dX2_remember_8 (Nat.le_of_ble_eq_true rfl) rfl ?_
    refine z_iload B dX2_remember_10 0 rfl ?_
    refine z_iconst (v := (-1)) B dX2_remember_12 rfl ?_
    refine z_icmp_ne (tgt := 27) B dX2_remember_13 rfl (fun h9 => absurd (by decide) h9) (fun c_1 => ?_)
    refine z_aload_n B dX2_remember_16 rfl 1 rfl ?_
    have h_1 : Φ1 (x + 80) = some (o_ 4 [.ref (x + 3), .ref (x + 74), .ref (x + 81), .ref (x + 95), .int (nI tm), .int (nI r), .int (nI w), .int aq, .int xp, .int xb, .long ob, .long sm, .long (un.1)]) := ((hF1 (x + 80) (fun j9 h8 h7 => (show False from h7).elim)).trans hc0)
    refine z_get (ref := "FlowExporter$Exporter") (C := RX2) (T := TX2) (N := 13) (ci := 4) (v := .ref (x + 95)) B hu_X2_remember_X2 rfl 3 (Nat.le_of_ble_eq_true rfl) hv_X2_remember_20 rfl h_1 rfl dX2_remember_17 ?_
    have h_2 : Φ1 (x + 95) = some (o_ 6 [.ref (x + 96), .int (nI nT)]) := ((hF1 (x + 95) (fun j9 h8 h7 => (show False from h7).elim)).trans hc1)
    refine z_callV (As := []) (rest := []) B (s_X4_isFull_95 G l Φ1 sz x (ca) nT hx hI1 h_2 (show nT ≤ 24 by omega)) (cwV 0 B.1.2.2.2.2 gX2_remember_X4_isFull rfl rfl rfl (by decide +kernel) ⟨Nat.le_of_ble_eq_true rfl, Nat.le_of_ble_eq_true rfl⟩) h_2 rfl rfl rfl rfl (Nat.le_of_ble_eq_true rfl) dX2_remember_20 ⟨Nat.le_of_ble_eq_true rfl, Nat.le_of_ble_eq_true rfl⟩ (fun r_2 Φ2 sz2 st2 hp2 hs2 => ?_)
    obtain ⟨ha2, hq2, hI2, hF2⟩ := hp2
    subst sz2
    replace hI2 : In G x (ca) Φ2 := hI2
    rcases ha2 with ⟨rfl, e_3⟩ | ⟨rfl, e_4⟩
    · replace e_3 : 24 ≤ nT := e_3
      replace hs2 : st2 = [.int 1] := hs2
      subst st2
      refine z_if_eq (tgt := 27) B dX2_remember_23 rfl (fun h9 => absurd h9 (by decide)) (fun c_2 => ?_)
      have hcg1 : TbT G x nT 99 Ft pt Φ2 := (TbT.fr (TbT.fr hcf0 hF1 (fun j9 h7 => (show False from h7).elim)) hF2 (fun j9 h7 => (show False from h7).elim))
      have h_3 : Φ2 (x + 95) = some (o_ 6 [.ref (x + 96), .int (nI nT)]) := ((hF2 (x + 95) (fun j9 h8 h7 => (show False from h7).elim)).trans h_2)
      exact z_ret_v B dX2_remember_26 ⟨⟨_, _, _, rfl, h_3, hcg1, rmS_24 (by omega) (by omega), by omega⟩, rfl, hI2, (fun b9 h9 => ((hF2 b9 (fun j9 h8 h7 => (show False from h7).elim)).trans ((hF1 b9 (fun j9 h8 h7 => (show False from h7).elim)).trans rfl)))⟩
    · replace e_4 : nT < 24 := e_4
      replace hs2 : st2 = [.int 0] := hs2
      subst st2
      refine z_if_eq (tgt := 27) B dX2_remember_23 rfl (fun c_3 => ?_) (fun h9 => absurd (by decide) h9)
      refine z_iload B dX2_remember_27 0 rfl ?_
      refine z_iconst (v := (-1)) B dX2_remember_29 rfl ?_
      refine z_icmp_ne (tgt := 48) B dX2_remember_30 rfl (fun h9 => absurd (by decide) h9) (fun c_4 => ?_)
      refine z_aload_n B dX2_remember_33 rfl 1 rfl ?_
      have h_4 : Φ2 (x + 80) = some (o_ 4 [.ref (x + 3), .ref (x + 74), .ref (x + 81), .ref (x + 95), .int (nI tm), .int (nI r), .int (nI w), .int aq, .int xp, .int xb, .long ob, .long sm, .long (un.1)]) := ((hF2 (x + 80) (fun j9 h8 h7 => (show False from h7).elim)).trans h_1)
      refine z_get (ref := "FlowExporter$Exporter") (C := RX2) (T := TX2) (N := 13) (ci := 4) (v := .ref (x + 95)) B hu_X2_remember_X2 rfl 3 (Nat.le_of_ble_eq_true rfl) hv_X2_remember_20 rfl h_4 rfl dX2_remember_34 ?_
      refine z_lload_n B dX2_remember_37 rfl 2 rfl ?_
      refine z_aload_n B dX2_remember_38 rfl 1 rfl ?_
      refine z_get (ref := "FlowExporter$Exporter") (C := RX2) (T := TX2) (N := 13) (ci := 4) (v := .int (nI tm)) B hu_X2_remember_X2 rfl 4 (Nat.le_of_ble_eq_true rfl) hv_X2_remember_23 rfl h_4 rfl dX2_remember_39 ?_
      have hcg2 : TbT G x nT 99 Ft pt Φ2 := (TbT.fr (TbT.fr hcf0 hF1 (fun j9 h7 => (show False from h7).elim)) hF2 (fun j9 h7 => (show False from h7).elim))
      have hcg3 : TbT G x nT nT Ft pt Φ2 := TbR.cut hcg2 (by decide)
      have b_1 : pt nT < 24 := TbR.lt hcg2 (show nT < 24 by omega)
      have h_5 : Φ2 (x + 95) = some (o_ 6 [.ref (x + 96), .int (nI nT)]) := ((hF2 (x + 95) (fun j9 h8 h7 => (show False from h7).elim)).trans h_2)
      refine z_callV (As := [.long (Int64.ofNat K), .int (nI tm)]) (rest := []) B (s_X4_addFlow_95 G l Φ2 sz x (ca) nT Ft pt K tm hx hI2 h_5 hcg3 (show nT < 24 by omega)) (cwV 2 B.1.2.2.2.2 gX2_remember_X4_addFlow rfl rfl rfl (by decide +kernel) ⟨Nat.le_of_ble_eq_true rfl, Nat.le_of_ble_eq_true rfl⟩) h_5 rfl rfl rfl rfl (Nat.le_of_ble_eq_true rfl) dX2_remember_42 ⟨Nat.le_of_ble_eq_true rfl, Nat.le_of_ble_eq_true rfl⟩ (fun r_3 Φ3 sz3 st3 hp3 hs3 => ?_)
      obtain ⟨⟨rfl, h_6, h_7, hcg4⟩, hq3, hI3, hF3⟩ := hp3
      subst sz3
      replace hs3 : st3 = [.ref (x + (97 + pt nT))] := hs3
      subst st3
      replace hI3 : In G x (ca) Φ3 := hI3
      refine z_goto (tgt := 57) B dX2_remember_45 rfl ?_
      refine z_astore (lv' := [(6, .ref (x + (97 + pt nT))), (5, .int (-1)), (0, .ref (x + 80)), (1, .long (Int64.ofNat K)), (3, .int (nI b)), (4, .int (nI m))]) B dX2_remember_57 (Nat.le_of_ble_eq_true rfl) rfl ?_
      refine z_aload B dX2_remember_59 0 rfl ?_
      refine z_dup B dX2_remember_61 rfl ?_
      refine z_get (ref := "FlowExporter$Flow") (C := RX3) (T := TX3) (N := 5) (ci := 5) (v := .long 0) B hu_X2_remember_X3 rfl 1 (Nat.le_of_ble_eq_true rfl) hv_X2_remember_102 rfl h_7 rfl dX2_remember_62 ?_
      refine z_iload B dX2_remember_65 5 rfl ?_
      refine z_i2l (v := (nI m).toInt64) B dX2_remember_67 rfl ?_
      refine z_ladd B dX2_remember_68 ?_
      refine z_put (ref := "FlowExporter$Flow") (C := RX3) (T := TX3) (N := 5) (ci := 5) (v := .long (0 + ((nI m).toInt64))) B hu_X2_remember_X3 tyX3 tyX3_ok nmX3 rfl 1 (Nat.le_of_ble_eq_true rfl) hv_X2_remember_102 rfl (Or.inl rfl) h_7 (by omega) rfl rfl (Nat.le_of_ble_eq_true rfl) dX2_remember_69 (fun Φ4 hΦ1 => ?_)
      have h_8 : Φ4 (x + (97 + pt nT)) = some (o_ 5 [.long (Int64.ofNat K), .long (0 + ((nI m).toInt64)), .long 0, .int (nI tm), .int (nI tm)]) := fset_at hΦ1
      have hI4 : In G x (ca) Φ4 := In.put (k := 97 + pt nT) hI3 hΦ1 (ok19 (k := 97 + pt nT) (kd_f (k := 96) rfl (show pt nT < 24 from TbR.lt hcg4 (by omega))) ⟨Int64.ofNat K, 0 + ((nI m).toInt64), 0, nI tm, nI tm, rfl⟩)
      refine z_aload B dX2_remember_72 0 rfl ?_
      refine z_dup B dX2_remember_74 rfl ?_
      refine z_get (ref := "FlowExporter$Flow") (C := RX3) (T := TX3) (N := 5) (ci := 5) (v := .long 0) B hu_X2_remember_X3 rfl 2 (Nat.le_of_ble_eq_true rfl) hv_X2_remember_107 rfl h_8 rfl dX2_remember_75 ?_
      refine z_iload B dX2_remember_78 5 rfl ?_
      refine z_i2l (v := (nI m).toInt64) B dX2_remember_80 rfl ?_
      refine z_iload_n B dX2_remember_81 rfl 4 rfl ?_
      refine z_i2l (v := (nI b).toInt64) B dX2_remember_82 rfl ?_
      refine z_lmul B dX2_remember_83 ?_
      refine z_ladd B dX2_remember_84 ?_
      refine z_put (ref := "FlowExporter$Flow") (C := RX3) (T := TX3) (N := 5) (ci := 5) (v := .long (0 + (((nI m).toInt64) * ((nI b).toInt64)))) B hu_X2_remember_X3 tyX3 tyX3_ok nmX3 rfl 2 (Nat.le_of_ble_eq_true rfl) hv_X2_remember_107 rfl (Or.inl rfl) h_8 (by omega) rfl rfl (Nat.le_of_ble_eq_true rfl) dX2_remember_85 (fun Φ5 hΦ2 => ?_)
      have h_9 : Φ5 (x + (97 + pt nT)) = some (o_ 5 [.long (Int64.ofNat K), .long (0 + ((nI m).toInt64)), .long (0 + (((nI m).toInt64) * ((nI b).toInt64))), .int (nI tm), .int (nI tm)]) := fset_at hΦ2
      have hI5 : In G x (ca) Φ5 := In.put (k := 97 + pt nT) hI4 hΦ2 (ok19 (k := 97 + pt nT) (kd_f (k := 96) rfl (show pt nT < 24 from TbR.lt hcg4 (by omega))) ⟨Int64.ofNat K, 0 + ((nI m).toInt64), 0 + (((nI m).toInt64) * ((nI b).toInt64)), nI tm, nI tm, rfl⟩)
      have hcg5 : TbT G x nT nT Ft pt Φ5 := (TbR.offw (TbR.offw hcg4 hΦ1 (by omega)) hΦ2 (by omega))
      have h_10 : Φ5 (x + 95) = some (o_ 6 [.ref (x + 96), .int (nI (nT + 1))]) := ((fset_fr hΦ2 (by omega)).trans ((fset_fr hΦ1 (by omega)).trans h_6))
      exact z_ret_v B dX2_remember_88 ⟨⟨_, _, _, rfl, h_10, TbR.add (v := (K, 0 + (nI m).toInt64, 0 + (nI m).toInt64 * (nI b).toInt64, tm, tm)) hcg5 (by omega) (FlB.new (by omega) (by omega)) h_9, rmS_no (by omega) (by omega), by omega⟩, rfl, hI5, (fun b9 h9 => ((fset_fr hΦ2 (fun h8 => h9 (97 + pt nT) h8 (show 95 ≤ (97 + pt nT) ∧ (97 + pt nT) < 121 by omega))).trans ((fset_fr hΦ1 (fun h8 => h9 (97 + pt nT) h8 (show 95 ≤ (97 + pt nT) ∧ (97 + pt nT) < 121 by omega))).trans ((hF3 b9 h9).trans ((hF2 b9 (fun j9 h8 h7 => (show False from h7).elim)).trans ((hF1 b9 (fun j9 h8 h7 => (show False from h7).elim)).trans rfl))))))⟩
  · replace e_2 : ixN Ft K nT < nT := e_2
    replace hs1 : st1 = [.int (nI (ixN Ft K nT))] := hs1
    subst st1
    refine z_istore (lv' := [(5, .int (nI (ixN Ft K nT))), (0, .ref (x + 80)), (1, .long (Int64.ofNat K)), (3, .int (nI b)), (4, .int (nI m))]) B dX2_remember_8 (Nat.le_of_ble_eq_true rfl) rfl ?_
    refine z_iload B dX2_remember_10 0 rfl ?_
    refine z_iconst (v := (-1)) B dX2_remember_12 rfl ?_
    refine z_icmp_ne (tgt := 27) B dX2_remember_13 rfl (fun c_5 => ?_) (fun h9 => absurd h9 (nI_nm1x (n := ixN Ft K nT) (by omega)))
    refine z_iload B dX2_remember_27 0 rfl ?_
    refine z_iconst (v := (-1)) B dX2_remember_29 rfl ?_
    refine z_icmp_ne (tgt := 48) B dX2_remember_30 rfl (fun c_6 => ?_) (fun h9 => absurd h9 (nI_nm1x (n := ixN Ft K nT) (by omega)))
    refine z_aload_n B dX2_remember_48 rfl 1 rfl ?_
    have h_11 : Φ1 (x + 80) = some (o_ 4 [.ref (x + 3), .ref (x + 74), .ref (x + 81), .ref (x + 95), .int (nI tm), .int (nI r), .int (nI w), .int aq, .int xp, .int xb, .long ob, .long sm, .long (un.1)]) := ((hF1 (x + 80) (fun j9 h8 h7 => (show False from h7).elim)).trans hc0)
    refine z_get (ref := "FlowExporter$Exporter") (C := RX2) (T := TX2) (N := 13) (ci := 4) (v := .ref (x + 95)) B hu_X2_remember_X2 rfl 3 (Nat.le_of_ble_eq_true rfl) hv_X2_remember_20 rfl h_11 rfl dX2_remember_49 ?_
    refine z_iload B dX2_remember_52 0 rfl ?_
    have hcg6 : TbT G x nT 99 Ft pt Φ1 := (TbT.fr hcf0 hF1 (fun j9 h7 => (show False from h7).elim))
    have e_5 := TbR.fl hcg6 (show ixN Ft K nT < nT by omega) (show ¬ ixN Ft K nT = 99 by omega)
    have b_2 : (Ft (ixN Ft K nT)).1 < 2 ^ 40 ∧ (Ft (ixN Ft K nT)).2.2.2.1 ≤ 1000000 ∧ (Ft (ixN Ft K nT)).2.2.2.2 ≤ 1000000 := e_5.1
    have h_12 : Φ1 (x + (97 + pt (ixN Ft K nT))) = some (o_ 5 [.long (Int64.ofNat (Ft (ixN Ft K nT)).1), .long ((Ft (ixN Ft K nT)).2.1), .long ((Ft (ixN Ft K nT)).2.2.1), .int (nI ((Ft (ixN Ft K nT)).2.2.2.1)), .int (nI ((Ft (ixN Ft K nT)).2.2.2.2))]) := e_5.2
    have hcg7 : TbT G x nT (ixN Ft K nT) Ft pt Φ1 := TbR.cut hcg6 (by decide)
    have b_3 : pt (ixN Ft K nT) < 24 := TbR.lt hcg6 (show ixN Ft K nT < 24 by omega)
    have h_13 : Φ1 (x + 95) = some (o_ 6 [.ref (x + 96), .int (nI nT)]) := ((hF1 (x + 95) (fun j9 h8 h7 => (show False from h7).elim)).trans hc1)
    refine z_callV (As := [.int (nI (ixN Ft K nT))]) (rest := []) B (s_X4_flowAt_95 G l Φ1 sz x (ca) nT (ixN Ft K nT) Ft pt (ixN Ft K nT) hx hI1 h_13 hcg7 (show (ixN Ft K nT) < 24 by omega)) (cwV 1 B.1.2.2.2.2 gX2_remember_X4_flowAt rfl rfl rfl (by decide +kernel) ⟨Nat.le_of_ble_eq_true rfl, Nat.le_of_ble_eq_true rfl⟩) h_13 rfl rfl rfl rfl (Nat.le_of_ble_eq_true rfl) dX2_remember_54 ⟨Nat.le_of_ble_eq_true rfl, Nat.le_of_ble_eq_true rfl⟩ (fun r_4 Φ6 sz4 st4 hp4 hs4 => ?_)
    obtain ⟨rfl, hq4, hI6, hF4⟩ := hp4
    subst sz4
    replace hs4 : st4 = [.ref (x + (97 + pt (ixN Ft K nT)))] := hs4
    subst st4
    replace hI6 : In G x (ca) Φ6 := hI6
    refine z_astore (lv' := [(6, .ref (x + (97 + pt (ixN Ft K nT)))), (5, .int (nI (ixN Ft K nT))), (0, .ref (x + 80)), (1, .long (Int64.ofNat K)), (3, .int (nI b)), (4, .int (nI m))]) B dX2_remember_57 (Nat.le_of_ble_eq_true rfl) rfl ?_
    refine z_aload B dX2_remember_59 0 rfl ?_
    refine z_dup B dX2_remember_61 rfl ?_
    have h_14 : Φ6 (x + (97 + pt (ixN Ft K nT))) = some (o_ 5 [.long (Int64.ofNat (Ft (ixN Ft K nT)).1), .long ((Ft (ixN Ft K nT)).2.1), .long ((Ft (ixN Ft K nT)).2.2.1), .int (nI ((Ft (ixN Ft K nT)).2.2.2.1)), .int (nI ((Ft (ixN Ft K nT)).2.2.2.2))]) := ((hF4 (x + (97 + pt (ixN Ft K nT))) (fun j9 h8 h7 => (show False from h7).elim)).trans h_12)
    refine z_get (ref := "FlowExporter$Flow") (C := RX3) (T := TX3) (N := 5) (ci := 5) (v := .long ((Ft (ixN Ft K nT)).2.1)) B hu_X2_remember_X3 rfl 1 (Nat.le_of_ble_eq_true rfl) hv_X2_remember_102 rfl h_14 rfl dX2_remember_62 ?_
    refine z_iload B dX2_remember_65 5 rfl ?_
    refine z_i2l (v := (nI m).toInt64) B dX2_remember_67 rfl ?_
    refine z_ladd B dX2_remember_68 ?_
    refine z_put (ref := "FlowExporter$Flow") (C := RX3) (T := TX3) (N := 5) (ci := 5) (v := .long (((Ft (ixN Ft K nT)).2.1) + ((nI m).toInt64))) B hu_X2_remember_X3 tyX3 tyX3_ok nmX3 rfl 1 (Nat.le_of_ble_eq_true rfl) hv_X2_remember_102 rfl (Or.inl rfl) h_14 (by omega) rfl rfl (Nat.le_of_ble_eq_true rfl) dX2_remember_69 (fun Φ7 hΦ3 => ?_)
    have h_15 : Φ7 (x + (97 + pt (ixN Ft K nT))) = some (o_ 5 [.long (Int64.ofNat (Ft (ixN Ft K nT)).1), .long (((Ft (ixN Ft K nT)).2.1) + ((nI m).toInt64)), .long ((Ft (ixN Ft K nT)).2.2.1), .int (nI ((Ft (ixN Ft K nT)).2.2.2.1)), .int (nI ((Ft (ixN Ft K nT)).2.2.2.2))]) := fset_at hΦ3
    have hI7 : In G x (ca) Φ7 := In.put (k := 97 + pt (ixN Ft K nT)) hI6 hΦ3 (ok19 (k := 97 + pt (ixN Ft K nT)) (kd_f (k := 96) rfl (show pt (ixN Ft K nT) < 24 from TbR.lt hcg7 (by omega))) ⟨Int64.ofNat (Ft (ixN Ft K nT)).1, ((Ft (ixN Ft K nT)).2.1) + ((nI m).toInt64), (Ft (ixN Ft K nT)).2.2.1, nI ((Ft (ixN Ft K nT)).2.2.2.1), nI ((Ft (ixN Ft K nT)).2.2.2.2), rfl⟩)
    refine z_aload B dX2_remember_72 0 rfl ?_
    refine z_dup B dX2_remember_74 rfl ?_
    refine z_get (ref := "FlowExporter$Flow") (C := RX3) (T := TX3) (N := 5) (ci := 5) (v := .long ((Ft (ixN Ft K nT)).2.2.1)) B hu_X2_remember_X3 rfl 2 (Nat.le_of_ble_eq_true rfl) hv_X2_remember_107 rfl h_15 rfl dX2_remember_75 ?_
    refine z_iload B dX2_remember_78 5 rfl ?_
    refine z_i2l (v := (nI m).toInt64) B dX2_remember_80 rfl ?_
    refine z_iload_n B dX2_remember_81 rfl 4 rfl ?_
    refine z_i2l (v := (nI b).toInt64) B dX2_remember_82 rfl ?_
    refine z_lmul B dX2_remember_83 ?_
    refine z_ladd B dX2_remember_84 ?_
    refine z_put (ref := "FlowExporter$Flow") (C := RX3) (T := TX3) (N := 5) (ci := 5) (v := .long (((Ft (ixN Ft K nT)).2.2.1) + (((nI m).toInt64) * ((nI b).toInt64)))) B hu_X2_remember_X3 tyX3 tyX3_ok nmX3 rfl 2 (Nat.le_of_ble_eq_true rfl) hv_X2_remember_107 rfl (Or.inl rfl) h_15 (by omega) rfl rfl (Nat.le_of_ble_eq_true rfl) dX2_remember_85 (fun Φ8 hΦ4 => ?_)
    have h_16 : Φ8 (x + (97 + pt (ixN Ft K nT))) = some (o_ 5 [.long (Int64.ofNat (Ft (ixN Ft K nT)).1), .long (((Ft (ixN Ft K nT)).2.1) + ((nI m).toInt64)), .long (((Ft (ixN Ft K nT)).2.2.1) + (((nI m).toInt64) * ((nI b).toInt64))), .int (nI ((Ft (ixN Ft K nT)).2.2.2.1)), .int (nI ((Ft (ixN Ft K nT)).2.2.2.2))]) := fset_at hΦ4
    have hI8 : In G x (ca) Φ8 := In.put (k := 97 + pt (ixN Ft K nT)) hI7 hΦ4 (ok19 (k := 97 + pt (ixN Ft K nT)) (kd_f (k := 96) rfl (show pt (ixN Ft K nT) < 24 from TbR.lt hcg7 (by omega))) ⟨Int64.ofNat (Ft (ixN Ft K nT)).1, ((Ft (ixN Ft K nT)).2.1) + ((nI m).toInt64), ((Ft (ixN Ft K nT)).2.2.1) + (((nI m).toInt64) * ((nI b).toInt64)), nI ((Ft (ixN Ft K nT)).2.2.2.1), nI ((Ft (ixN Ft K nT)).2.2.2.2), rfl⟩)
    have hcg8 : TbT G x nT (ixN Ft K nT) Ft pt Φ8 := (TbR.offw (TbR.offw (TbT.fr hcg7 hF4 (fun j9 h7 => (show False from h7).elim)) hΦ3 (by omega)) hΦ4 (by omega))
    have hb9 : FlB (Ft (ixN Ft K nT)) := (TbR.fl hcf0 (by omega) (by omega)).1
    have h_17 : Φ8 (x + 95) = some (o_ 6 [.ref (x + 96), .int (nI nT)]) := ((fset_fr hΦ4 (by omega)).trans ((fset_fr hΦ3 (by omega)).trans ((hF4 (x + 95) (fun j9 h8 h7 => (show False from h7).elim)).trans h_13)))
    exact z_ret_v B dX2_remember_88 ⟨⟨_, _, _, rfl, h_17, TbR.fill (v := ((Ft (ixN Ft K nT)).1, (Ft (ixN Ft K nT)).2.1 + (nI m).toInt64, (Ft (ixN Ft K nT)).2.2.1 + (nI m).toInt64 * (nI b).toInt64, (Ft (ixN Ft K nT)).2.2.2.1, (Ft (ixN Ft K nT)).2.2.2.2)) hcg8 ⟨hb9.1, hb9.2.1, hb9.2.2⟩ h_16, rmS_f (by omega), by omega⟩, rfl, hI8, (fun b9 h9 => ((fset_fr hΦ4 (fun h8 => h9 (97 + pt (ixN Ft K nT)) h8 (show 95 ≤ (97 + pt (ixN Ft K nT)) ∧ (97 + pt (ixN Ft K nT)) < 121 by omega))).trans ((fset_fr hΦ3 (fun h8 => h9 (97 + pt (ixN Ft K nT)) h8 (show 95 ≤ (97 + pt (ixN Ft K nT)) ∧ (97 + pt (ixN Ft K nT)) < 121 by omega))).trans ((hF4 b9 (fun j9 h8 h7 => (show False from h7).elim)).trans ((hF1 b9 (fun j9 h8 h7 => (show False from h7).elim)).trans rfl)))))⟩

set_option maxHeartbeats 4000000 in
set_option maxRecDepth 100000 in
theorem s_X2_trueValue0X (G : EnvG) (l : Launch) (Φ : Hm) (sz x ca : Nat) (tm : Nat) (r : Nat) (w : Nat) (aq : Int32) (xp : Int32) (xb : Int32) (ob : Int64) (sm : Int64) (un : UN) (nT : Nat) (Ft : Nat → Fl) (pt : Nat → Nat) (K : Nat) (hx : G.2.2.2 ≤ x) (hI : In G x ca Φ) (hc0 : Φ (x + 80) = some (o_ 4 [.ref (x + 3), .ref (x + 74), .ref (x + 81), .ref (x + 95), .int (nI tm), .int (nI r), .int (nI w), .int aq, .int xp, .int xb, .long ob, .long sm, .long (un.1)])) (hc1 : Φ (x + 95) = some (o_ 6 [.ref (x + 96), .int (nI nT)])) (hcf0 : TbT G x nT 99 Ft pt Φ) (hnT : nT ≤ 24) (hK : K < 2 ^ 40) : Ct G l yX2_trueValue wsX2_trueValue ({ frames := 1, cells := 0, slots := 0, locals := 23 }) 0 0 [.ref (x + 80), .long (Int64.ofNat K), .int 0] Φ sz (fun v Φ1 sz1 => (v = some (.long (trL K 0 (nT, Ft)))) ∧ sz1 = sz ∧ In G x (ca) Φ1 ∧ Fr x (fun j9 => False) Φ Φ1) := by
  refine Ct.of (cc := cX2_trueValue) (maxL := 5) (ret := (some .long)) (by decide) rfl (Nat.le_of_ble_eq_true rfl) ?_
  intro p9 e9 s9 m9 w9 t9 k9 B
  show Z p9 l e9 _ s9 m9 _ w9 t9 k9 _ G 5 0 [(0, .ref (x + 80)), (1, .long (Int64.ofNat K)), (3, .int 0)] [] Φ sz 0 0
  refine z_aload_n B dX2_trueValue_0 rfl 0 rfl ?_
  refine z_get (ref := "FlowExporter$Exporter") (C := RX2) (T := TX2) (N := 13) (ci := 4) (v := .ref (x + 95)) B hu_X2_trueValue_X2 rfl 3 (Nat.le_of_ble_eq_true rfl) hv_X2_trueValue_20 rfl hc0 rfl dX2_trueValue_1 ?_
  refine z_lload_n B dX2_trueValue_4 rfl 1 rfl ?_
  refine z_callV (As := [.long (Int64.ofNat K)]) (rest := []) B (s_X4_indexOf_95 G l Φ sz x (ca) nT Ft pt K hx hI hc1 hcf0 (show nT ≤ 24 by omega) (show K < 2 ^ 40 by omega)) (cwV 1 B.1.2.2.2.2 gX2_trueValue_X4_indexOf rfl rfl rfl (by decide +kernel) ⟨Nat.le_of_ble_eq_true rfl, Nat.le_of_ble_eq_true rfl⟩) hc1 rfl rfl rfl rfl (Nat.le_of_ble_eq_true rfl) dX2_trueValue_5 ⟨Nat.le_of_ble_eq_true rfl, Nat.le_of_ble_eq_true rfl⟩ (fun r_1 Φ1 sz1 st1 hp1 hs1 => ?_)
  obtain ⟨ha1, hq1, hI1, hF1⟩ := hp1
  subst sz1
  replace hI1 : In G x (ca) Φ1 := hI1
  rcases ha1 with ⟨rfl, e_1⟩ | ⟨rfl, e_2⟩
  · replace e_1 : ¬ ixN Ft K nT < nT := e_1
    replace hs1 : st1 = [.int (-1)] := hs1
    subst st1
    refine z_istore (lv' := [(4, .int (-1)), (0, .ref (x + 80)), (1, .long (Int64.ofNat K)), (3, .int 0)]) B dX2_trueValue_8 (Nat.le_of_ble_eq_true rfl) rfl ?_
    refine z_iload B dX2_trueValue_10 0 rfl ?_
    refine z_iconst (v := (-1)) B dX2_trueValue_12 rfl ?_
    refine z_icmp_ne (tgt := 20) B dX2_trueValue_13 rfl (fun h9 => absurd (by decide) h9) (fun c_1 => ?_)
    refine z_lconst (v := 0) B dX2_trueValue_16 rfl ?_
    refine z_goto (tgt := 41) B dX2_trueValue_17 rfl ?_
    exact z_ret_l B dX2_trueValue_41 ⟨(congrArg (fun w9 : Int64 => some (Value.long w9)) (trL_n (by omega)).symm), rfl, hI1, (fun b9 h9 => ((hF1 b9 (fun j9 h8 h7 => (show False from h7).elim)).trans rfl))⟩
  · replace e_2 : ixN Ft K nT < nT := e_2
    replace hs1 : st1 = [.int (nI (ixN Ft K nT))] := hs1
    subst st1
    refine z_istore (lv' := [(4, .int (nI (ixN Ft K nT))), (0, .ref (x + 80)), (1, .long (Int64.ofNat K)), (3, .int 0)]) B dX2_trueValue_8 (Nat.le_of_ble_eq_true rfl) rfl ?_
    refine z_iload B dX2_trueValue_10 0 rfl ?_
    refine z_iconst (v := (-1)) B dX2_trueValue_12 rfl ?_
    refine z_icmp_ne (tgt := 20) B dX2_trueValue_13 rfl (fun c_2 => ?_) (fun h9 => absurd h9 (nI_nm1x (n := ixN Ft K nT) (by omega)))
    refine z_aload_n B dX2_trueValue_20 rfl 1 rfl ?_
    have h_1 : Φ1 (x + 80) = some (o_ 4 [.ref (x + 3), .ref (x + 74), .ref (x + 81), .ref (x + 95), .int (nI tm), .int (nI r), .int (nI w), .int aq, .int xp, .int xb, .long ob, .long sm, .long (un.1)]) := ((hF1 (x + 80) (fun j9 h8 h7 => (show False from h7).elim)).trans hc0)
    refine z_get (ref := "FlowExporter$Exporter") (C := RX2) (T := TX2) (N := 13) (ci := 4) (v := .ref (x + 95)) B hu_X2_trueValue_X2 rfl 3 (Nat.le_of_ble_eq_true rfl) hv_X2_trueValue_20 rfl h_1 rfl dX2_trueValue_21 ?_
    refine z_iload B dX2_trueValue_24 0 rfl ?_
    have hcg1 : TbT G x nT 99 Ft pt Φ1 := (TbT.fr hcf0 hF1 (fun j9 h7 => (show False from h7).elim))
    have e_3 := TbR.fl hcg1 (show ixN Ft K nT < nT by omega) (show ¬ ixN Ft K nT = 99 by omega)
    have b_1 : (Ft (ixN Ft K nT)).1 < 2 ^ 40 ∧ (Ft (ixN Ft K nT)).2.2.2.1 ≤ 1000000 ∧ (Ft (ixN Ft K nT)).2.2.2.2 ≤ 1000000 := e_3.1
    have h_2 : Φ1 (x + (97 + pt (ixN Ft K nT))) = some (o_ 5 [.long (Int64.ofNat (Ft (ixN Ft K nT)).1), .long ((Ft (ixN Ft K nT)).2.1), .long ((Ft (ixN Ft K nT)).2.2.1), .int (nI ((Ft (ixN Ft K nT)).2.2.2.1)), .int (nI ((Ft (ixN Ft K nT)).2.2.2.2))]) := e_3.2
    have h_3 : Φ1 (x + 95) = some (o_ 6 [.ref (x + 96), .int (nI nT)]) := ((hF1 (x + 95) (fun j9 h8 h7 => (show False from h7).elim)).trans hc1)
    refine z_callV (As := [.int (nI (ixN Ft K nT))]) (rest := []) B (s_X4_flowAt_95 G l Φ1 sz x (ca) nT 99 Ft pt (ixN Ft K nT) hx hI1 h_3 hcg1 (show (ixN Ft K nT) < 24 by omega)) (cwV 1 B.1.2.2.2.2 gX2_trueValue_X4_flowAt rfl rfl rfl (by decide +kernel) ⟨Nat.le_of_ble_eq_true rfl, Nat.le_of_ble_eq_true rfl⟩) h_3 rfl rfl rfl rfl (Nat.le_of_ble_eq_true rfl) dX2_trueValue_26 ⟨Nat.le_of_ble_eq_true rfl, Nat.le_of_ble_eq_true rfl⟩ (fun r_2 Φ2 sz2 st2 hp2 hs2 => ?_)
    obtain ⟨rfl, hq2, hI2, hF2⟩ := hp2
    subst sz2
    replace hs2 : st2 = [.ref (x + (97 + pt (ixN Ft K nT)))] := hs2
    subst st2
    replace hI2 : In G x (ca) Φ2 := hI2
    refine z_iload_n B dX2_trueValue_29 rfl 3 rfl ?_
    refine z_if_ne (tgt := 37) B dX2_trueValue_30 rfl (fun h9 => absurd (by decide) h9) (fun c_3 => ?_)
    refine z_iconst (v := 4) B dX2_trueValue_33 rfl ?_
    refine z_goto (tgt := 38) B dX2_trueValue_34 rfl ?_
    have h_4 : Φ2 (x + (97 + pt (ixN Ft K nT))) = some (o_ 5 [.long (Int64.ofNat (Ft (ixN Ft K nT)).1), .long ((Ft (ixN Ft K nT)).2.1), .long ((Ft (ixN Ft K nT)).2.2.1), .int (nI ((Ft (ixN Ft K nT)).2.2.2.1)), .int (nI ((Ft (ixN Ft K nT)).2.2.2.2))]) := ((hF2 (x + (97 + pt (ixN Ft K nT))) (fun j9 h8 h7 => (show False from h7).elim)).trans h_2)
    refine z_callV (As := [.int 4]) (rest := []) B (s_X3_value4X G l Φ2 sz x (ca) ((Ft (ixN Ft K nT)).1) ((Ft (ixN Ft K nT)).2.1) ((Ft (ixN Ft K nT)).2.2.1) ((Ft (ixN Ft K nT)).2.2.2.1) ((Ft (ixN Ft K nT)).2.2.2.2) (97 + pt (ixN Ft K nT)) hx hI2 (kd_f (k := 96) rfl (show pt (ixN Ft K nT) < 24 from TbR.lt hcg1 (by omega))) h_4 (show ((Ft (ixN Ft K nT)).1) < 2 ^ 40 by omega)) (cwV 1 B.1.2.2.2.2 gX2_trueValue_X3_value rfl rfl rfl (by decide +kernel) ⟨Nat.le_of_ble_eq_true rfl, Nat.le_of_ble_eq_true rfl⟩) h_4 rfl rfl rfl rfl (Nat.le_of_ble_eq_true rfl) dX2_trueValue_38 ⟨Nat.le_of_ble_eq_true rfl, Nat.le_of_ble_eq_true rfl⟩ (fun r_3 Φ3 sz3 st3 hp3 hs3 => ?_)
    obtain ⟨rfl, hq3, hI3, hF3⟩ := hp3
    subst sz3
    replace hs3 : st3 = [.long ((Ft (ixN Ft K nT)).2.1)] := hs3
    subst st3
    replace hI3 : In G x (ca) Φ3 := hI3
    exact z_ret_l B dX2_trueValue_41 ⟨(congrArg (fun w9 : Int64 => some (Value.long w9)) ((trL_f (w := 0) (by omega)).trans (if_pos rfl)).symm), rfl, hI3, (fun b9 h9 => ((hF3 b9 (fun j9 h8 h7 => (show False from h7).elim)).trans ((hF2 b9 (fun j9 h8 h7 => (show False from h7).elim)).trans ((hF1 b9 (fun j9 h8 h7 => (show False from h7).elim)).trans rfl))))⟩

set_option maxHeartbeats 4000000 in
set_option maxRecDepth 100000 in
theorem s_X2_trueValue1X (G : EnvG) (l : Launch) (Φ : Hm) (sz x ca : Nat) (tm : Nat) (r : Nat) (w : Nat) (aq : Int32) (xp : Int32) (xb : Int32) (ob : Int64) (sm : Int64) (un : UN) (nT : Nat) (Ft : Nat → Fl) (pt : Nat → Nat) (K : Nat) (hx : G.2.2.2 ≤ x) (hI : In G x ca Φ) (hc0 : Φ (x + 80) = some (o_ 4 [.ref (x + 3), .ref (x + 74), .ref (x + 81), .ref (x + 95), .int (nI tm), .int (nI r), .int (nI w), .int aq, .int xp, .int xb, .long ob, .long sm, .long (un.1)])) (hc1 : Φ (x + 95) = some (o_ 6 [.ref (x + 96), .int (nI nT)])) (hcf0 : TbT G x nT 99 Ft pt Φ) (hnT : nT ≤ 24) (hK : K < 2 ^ 40) : Ct G l yX2_trueValue wsX2_trueValue ({ frames := 1, cells := 0, slots := 0, locals := 23 }) 0 0 [.ref (x + 80), .long (Int64.ofNat K), .int 1] Φ sz (fun v Φ1 sz1 => (v = some (.long (trL K 1 (nT, Ft)))) ∧ sz1 = sz ∧ In G x (ca) Φ1 ∧ Fr x (fun j9 => False) Φ Φ1) := by
  refine Ct.of (cc := cX2_trueValue) (maxL := 5) (ret := (some .long)) (by decide) rfl (Nat.le_of_ble_eq_true rfl) ?_
  intro p9 e9 s9 m9 w9 t9 k9 B
  show Z p9 l e9 _ s9 m9 _ w9 t9 k9 _ G 5 0 [(0, .ref (x + 80)), (1, .long (Int64.ofNat K)), (3, .int 1)] [] Φ sz 0 0
  refine z_aload_n B dX2_trueValue_0 rfl 0 rfl ?_
  refine z_get (ref := "FlowExporter$Exporter") (C := RX2) (T := TX2) (N := 13) (ci := 4) (v := .ref (x + 95)) B hu_X2_trueValue_X2 rfl 3 (Nat.le_of_ble_eq_true rfl) hv_X2_trueValue_20 rfl hc0 rfl dX2_trueValue_1 ?_
  refine z_lload_n B dX2_trueValue_4 rfl 1 rfl ?_
  refine z_callV (As := [.long (Int64.ofNat K)]) (rest := []) B (s_X4_indexOf_95 G l Φ sz x (ca) nT Ft pt K hx hI hc1 hcf0 (show nT ≤ 24 by omega) (show K < 2 ^ 40 by omega)) (cwV 1 B.1.2.2.2.2 gX2_trueValue_X4_indexOf rfl rfl rfl (by decide +kernel) ⟨Nat.le_of_ble_eq_true rfl, Nat.le_of_ble_eq_true rfl⟩) hc1 rfl rfl rfl rfl (Nat.le_of_ble_eq_true rfl) dX2_trueValue_5 ⟨Nat.le_of_ble_eq_true rfl, Nat.le_of_ble_eq_true rfl⟩ (fun r_1 Φ1 sz1 st1 hp1 hs1 => ?_)
  obtain ⟨ha1, hq1, hI1, hF1⟩ := hp1
  subst sz1
  replace hI1 : In G x (ca) Φ1 := hI1
  rcases ha1 with ⟨rfl, e_1⟩ | ⟨rfl, e_2⟩
  · replace e_1 : ¬ ixN Ft K nT < nT := e_1
    replace hs1 : st1 = [.int (-1)] := hs1
    subst st1
    refine z_istore (lv' := [(4, .int (-1)), (0, .ref (x + 80)), (1, .long (Int64.ofNat K)), (3, .int 1)]) B dX2_trueValue_8 (Nat.le_of_ble_eq_true rfl) rfl ?_
    refine z_iload B dX2_trueValue_10 0 rfl ?_
    refine z_iconst (v := (-1)) B dX2_trueValue_12 rfl ?_
    refine z_icmp_ne (tgt := 20) B dX2_trueValue_13 rfl (fun h9 => absurd (by decide) h9) (fun c_1 => ?_)
    refine z_lconst (v := 0) B dX2_trueValue_16 rfl ?_
    refine z_goto (tgt := 41) B dX2_trueValue_17 rfl ?_
    exact z_ret_l B dX2_trueValue_41 ⟨(congrArg (fun w9 : Int64 => some (Value.long w9)) (trL_n (by omega)).symm), rfl, hI1, (fun b9 h9 => ((hF1 b9 (fun j9 h8 h7 => (show False from h7).elim)).trans rfl))⟩
  · replace e_2 : ixN Ft K nT < nT := e_2
    replace hs1 : st1 = [.int (nI (ixN Ft K nT))] := hs1
    subst st1
    refine z_istore (lv' := [(4, .int (nI (ixN Ft K nT))), (0, .ref (x + 80)), (1, .long (Int64.ofNat K)), (3, .int 1)]) B dX2_trueValue_8 (Nat.le_of_ble_eq_true rfl) rfl ?_
    refine z_iload B dX2_trueValue_10 0 rfl ?_
    refine z_iconst (v := (-1)) B dX2_trueValue_12 rfl ?_
    refine z_icmp_ne (tgt := 20) B dX2_trueValue_13 rfl (fun c_2 => ?_) (fun h9 => absurd h9 (nI_nm1x (n := ixN Ft K nT) (by omega)))
    refine z_aload_n B dX2_trueValue_20 rfl 1 rfl ?_
    have h_1 : Φ1 (x + 80) = some (o_ 4 [.ref (x + 3), .ref (x + 74), .ref (x + 81), .ref (x + 95), .int (nI tm), .int (nI r), .int (nI w), .int aq, .int xp, .int xb, .long ob, .long sm, .long (un.1)]) := ((hF1 (x + 80) (fun j9 h8 h7 => (show False from h7).elim)).trans hc0)
    refine z_get (ref := "FlowExporter$Exporter") (C := RX2) (T := TX2) (N := 13) (ci := 4) (v := .ref (x + 95)) B hu_X2_trueValue_X2 rfl 3 (Nat.le_of_ble_eq_true rfl) hv_X2_trueValue_20 rfl h_1 rfl dX2_trueValue_21 ?_
    refine z_iload B dX2_trueValue_24 0 rfl ?_
    have hcg1 : TbT G x nT 99 Ft pt Φ1 := (TbT.fr hcf0 hF1 (fun j9 h7 => (show False from h7).elim))
    have e_3 := TbR.fl hcg1 (show ixN Ft K nT < nT by omega) (show ¬ ixN Ft K nT = 99 by omega)
    have b_1 : (Ft (ixN Ft K nT)).1 < 2 ^ 40 ∧ (Ft (ixN Ft K nT)).2.2.2.1 ≤ 1000000 ∧ (Ft (ixN Ft K nT)).2.2.2.2 ≤ 1000000 := e_3.1
    have h_2 : Φ1 (x + (97 + pt (ixN Ft K nT))) = some (o_ 5 [.long (Int64.ofNat (Ft (ixN Ft K nT)).1), .long ((Ft (ixN Ft K nT)).2.1), .long ((Ft (ixN Ft K nT)).2.2.1), .int (nI ((Ft (ixN Ft K nT)).2.2.2.1)), .int (nI ((Ft (ixN Ft K nT)).2.2.2.2))]) := e_3.2
    have h_3 : Φ1 (x + 95) = some (o_ 6 [.ref (x + 96), .int (nI nT)]) := ((hF1 (x + 95) (fun j9 h8 h7 => (show False from h7).elim)).trans hc1)
    refine z_callV (As := [.int (nI (ixN Ft K nT))]) (rest := []) B (s_X4_flowAt_95 G l Φ1 sz x (ca) nT 99 Ft pt (ixN Ft K nT) hx hI1 h_3 hcg1 (show (ixN Ft K nT) < 24 by omega)) (cwV 1 B.1.2.2.2.2 gX2_trueValue_X4_flowAt rfl rfl rfl (by decide +kernel) ⟨Nat.le_of_ble_eq_true rfl, Nat.le_of_ble_eq_true rfl⟩) h_3 rfl rfl rfl rfl (Nat.le_of_ble_eq_true rfl) dX2_trueValue_26 ⟨Nat.le_of_ble_eq_true rfl, Nat.le_of_ble_eq_true rfl⟩ (fun r_2 Φ2 sz2 st2 hp2 hs2 => ?_)
    obtain ⟨rfl, hq2, hI2, hF2⟩ := hp2
    subst sz2
    replace hs2 : st2 = [.ref (x + (97 + pt (ixN Ft K nT)))] := hs2
    subst st2
    replace hI2 : In G x (ca) Φ2 := hI2
    refine z_iload_n B dX2_trueValue_29 rfl 3 rfl ?_
    refine z_if_ne (tgt := 37) B dX2_trueValue_30 rfl (fun c_3 => ?_) (fun h9 => absurd h9 (by decide))
    refine z_iconst (v := 5) B dX2_trueValue_37 rfl ?_
    have h_4 : Φ2 (x + (97 + pt (ixN Ft K nT))) = some (o_ 5 [.long (Int64.ofNat (Ft (ixN Ft K nT)).1), .long ((Ft (ixN Ft K nT)).2.1), .long ((Ft (ixN Ft K nT)).2.2.1), .int (nI ((Ft (ixN Ft K nT)).2.2.2.1)), .int (nI ((Ft (ixN Ft K nT)).2.2.2.2))]) := ((hF2 (x + (97 + pt (ixN Ft K nT))) (fun j9 h8 h7 => (show False from h7).elim)).trans h_2)
    refine z_callV (As := [.int 5]) (rest := []) B (s_X3_value5X G l Φ2 sz x (ca) ((Ft (ixN Ft K nT)).1) ((Ft (ixN Ft K nT)).2.1) ((Ft (ixN Ft K nT)).2.2.1) ((Ft (ixN Ft K nT)).2.2.2.1) ((Ft (ixN Ft K nT)).2.2.2.2) (97 + pt (ixN Ft K nT)) hx hI2 (kd_f (k := 96) rfl (show pt (ixN Ft K nT) < 24 from TbR.lt hcg1 (by omega))) h_4 (show ((Ft (ixN Ft K nT)).1) < 2 ^ 40 by omega)) (cwV 1 B.1.2.2.2.2 gX2_trueValue_X3_value rfl rfl rfl (by decide +kernel) ⟨Nat.le_of_ble_eq_true rfl, Nat.le_of_ble_eq_true rfl⟩) h_4 rfl rfl rfl rfl (Nat.le_of_ble_eq_true rfl) dX2_trueValue_38 ⟨Nat.le_of_ble_eq_true rfl, Nat.le_of_ble_eq_true rfl⟩ (fun r_3 Φ3 sz3 st3 hp3 hs3 => ?_)
    obtain ⟨rfl, hq3, hI3, hF3⟩ := hp3
    subst sz3
    replace hs3 : st3 = [.long ((Ft (ixN Ft K nT)).2.2.1)] := hs3
    subst st3
    replace hI3 : In G x (ca) Φ3 := hI3
    exact z_ret_l B dX2_trueValue_41 ⟨(congrArg (fun w9 : Int64 => some (Value.long w9)) ((trL_f (w := 1) (by omega)).trans (if_neg (by decide))).symm), rfl, hI3, (fun b9 h9 => ((hF3 b9 (fun j9 h8 h7 => (show False from h7).elim)).trans ((hF2 b9 (fun j9 h8 h7 => (show False from h7).elim)).trans ((hF1 b9 (fun j9 h8 h7 => (show False from h7).elim)).trans rfl))))⟩

set_option maxHeartbeats 4000000 in
set_option maxRecDepth 100000 in
theorem s_X4_indexOf_m (G : EnvG) (l : Launch) (Φ : Hm) (sz x ca : Nat) (nT : Nat) (Ft : Nat → Fl) (pt : Nat → Nat) (hx : G.2.2.2 ≤ x) (hI : In G x ca Φ) (hc0 : Φ (x + 95) = some (o_ 6 [.ref (x + 96), .int (nI nT)])) (hcf0 : TbT G x nT 99 Ft pt Φ) (hnT : nT ≤ 24) : Ct G l yX4_indexOf wsX4_indexOf ({ frames := 0, cells := 0, slots := 0, locals := 0 }) 0 0 [.ref (x + 95), .long (-1)] Φ sz (fun v Φ1 sz1 => (v = some (.int (-1))) ∧ sz1 = sz ∧ In G x (ca) Φ1 ∧ Fr x (fun j9 => False) Φ Φ1) := by
  refine Ct.of (cc := cX4_indexOf) (maxL := 4) (ret := (some .int)) (by decide) rfl (Nat.le_of_ble_eq_true rfl) ?_
  intro p9 e9 s9 m9 w9 t9 k9 B
  show Z p9 l e9 _ s9 m9 _ w9 t9 k9 _ G 4 0 [(0, .ref (x + 95)), (1, .long (-1))] [] Φ sz 0 0
  refine z_iconst (v := 0) B dX4_indexOf_0 rfl ?_
  refine z_istore_n (lv' := [(3, .int 0), (0, .ref (x + 95)), (1, .long (-1))]) B dX4_indexOf_1 rfl (Nat.le_of_ble_eq_true rfl) rfl ?_
  refine z_lv [0, 1, 2] rfl ?_
  refine z_loop (α := Nat) (fun (a9 : Nat) Φi => In G x (ca) Φi ∧ Fr x (fun j9 => False) Φ Φi ∧ (a9 ≤ nT) ∧ True) (fun a9 => [(3, .int (nI a9)), (0, .ref (x + 95)), (1, .long (-1))]) (fun a9 => nT - a9) ?_ (0) ⟨hI, fun _ _ => rfl, (show 0 ≤ nT by omega), trivial⟩
  rintro i_1 Φl1 ⟨hI1, hF1, b_1, -⟩ ih1
  replace hI1 : In G x (ca) Φl1 := hI1
  replace b_1 : i_1 ≤ nT := b_1
  show Z p9 l e9 _ s9 m9 _ w9 t9 k9 _ G 4 2 [(3, .int (nI i_1)), (0, .ref (x + 95)), (1, .long (-1))] [] Φl1 _ _ _
  refine z_iload_n B dX4_indexOf_2 rfl 0 rfl ?_
  refine z_aload_n B dX4_indexOf_3 rfl 1 rfl ?_
  have h_1 : Φl1 (x + 95) = some (o_ 6 [.ref (x + 96), .int (nI nT)]) := ((hF1 (x + 95) (fun j9 h8 h7 => (show False from h7).elim)).trans hc0)
  refine z_get (ref := "FlowExporter$FlowTable") (C := RX4) (T := TX4) (N := 2) (ci := 6) (v := .int (nI nT)) B hu_X4_indexOf_X4 rfl 1 (Nat.le_of_ble_eq_true rfl) hv_X4_indexOf_9 rfl h_1 rfl dX4_indexOf_4 ?_
  refine z_icmp_ge (tgt := 32) B dX4_indexOf_7 rfl (fun c_1 => ?_) (fun c_1 => ?_)
  · have e_1 : nT ≤ i_1 := (nI_leI (a := nT) (b := i_1) (by omega) (by omega)).mp c_1
    refine z_iconst (v := (-1)) B dX4_indexOf_32 rfl ?_
    exact z_ret_i B dX4_indexOf_33 ⟨rfl, rfl, hI1, (fun b9 h9 => ((hF1 b9 (fun j9 h8 h7 => (show False from h7).elim)).trans rfl))⟩
  · have e_2 : ¬ (nT ≤ i_1) := fun h9 => c_1 ((nI_leI (a := nT) (b := i_1) (by omega) (by omega)).mpr h9)
    refine z_aload_n B dX4_indexOf_10 rfl 1 rfl ?_
    refine z_get (ref := "FlowExporter$FlowTable") (C := RX4) (T := TX4) (N := 2) (ci := 6) (v := .ref (x + 96)) B hu_X4_indexOf_X4 rfl 0 (Nat.le_of_ble_eq_true rfl) hv_X4_indexOf_23 rfl h_1 rfl dX4_indexOf_11 ?_
    refine z_iload_n B dX4_indexOf_14 rfl 0 rfl ?_
    obtain ⟨f_1, h_2, r_1⟩ := in18 (k := 96) hI1 rfl
    replace r_1 : ∀ j, j < 24 → ∃ m, m < 24 ∧ f_1 j = some (x + (97 + m)) := r_1
    have h_3 : Φl1 (x + 96) = some (aq_ G 5 24 f_1) := h_2
    have hcg1 : TbT G x nT 99 Ft pt Φl1 := (TbT.fr hcf0 hF1 (fun j9 h7 => (show False from h7).elim))
    have e_3 := TbR.fl hcg1 (show i_1 < nT by omega) (show ¬ i_1 = 99 by omega)
    have b_2 : (Ft i_1).1 < 2 ^ 40 ∧ (Ft i_1).2.2.2.1 ≤ 1000000 ∧ (Ft i_1).2.2.2.2 ≤ 1000000 := e_3.1
    have h_4 : Φl1 (x + (97 + pt i_1)) = some (o_ 5 [.long (Int64.ofNat (Ft i_1).1), .long ((Ft i_1).2.1), .long ((Ft i_1).2.2.1), .int (nI ((Ft i_1).2.2.2.1)), .int (nI ((Ft i_1).2.2.2.2))]) := e_3.2
    refine z_aald (b := x + (97 + pt i_1)) B rfl h_3 (vp_in_nI (by omega) (by omega)) ((congrArg f_1 (nI_clamp (by omega))).trans (TbR.row hcg1 h_3 (show i_1 < 24 by omega))) dX4_indexOf_15 ?_
    refine z_get (ref := "FlowExporter$Flow") (C := RX3) (T := TX3) (N := 5) (ci := 5) (v := .long (Int64.ofNat (Ft i_1).1)) B hu_X4_indexOf_X3 rfl 0 (Nat.le_of_ble_eq_true rfl) hv_X4_indexOf_28 rfl h_4 rfl dX4_indexOf_16 ?_
    refine z_lload_n B dX4_indexOf_19 rfl 2 rfl ?_
    refine z_lcmp B dX4_indexOf_20 ?_
    refine z_if_ne (tgt := 26) B dX4_indexOf_21 rfl (fun c_2 => ?_) (fun c_2 => ?_)
    · refine z_iinc (k := 0) (v := nI (i_1 + 1)) (lv' := [(3, .int (nI (i_1 + 1))), (0, .ref (x + 95)), (1, .long (-1))]) B dX4_indexOf_26 rfl (nI_add i_1 1) (Nat.le_of_ble_eq_true rfl) rfl ?_
      refine z_goto (tgt := 2) B dX4_indexOf_29 rfl ?_
      refine z_lv [0, 1, 2] rfl ?_
      exact ih1 (i_1 + 1) Φl1 (show nT - (i_1 + 1) < nT - i_1 by omega) ⟨hI1, (fun b9 h9 => ((hF1 b9 (fun j9 h8 h7 => (show False from h7).elim)).trans rfl)), (show (i_1 + 1) ≤ nT by omega), trivial⟩
    · have hno9 : False := ofN_ne (by omega) ((lg_cmp_eq _ _).mp c_2)
      refine z_iload_n B dX4_indexOf_24 rfl 0 rfl ?_
      exact z_ret_i B dX4_indexOf_25 ⟨hno9.elim, rfl, hI1, (fun b9 h9 => ((hF1 b9 (fun j9 h8 h7 => (show False from h7).elim)).trans rfl))⟩

set_option maxHeartbeats 4000000 in
set_option maxRecDepth 100000 in
theorem s_X2_trueValue_m (G : EnvG) (l : Launch) (Φ : Hm) (sz x ca : Nat) (tm : Nat) (r : Nat) (w : Nat) (aq : Int32) (xp : Int32) (xb : Int32) (ob : Int64) (sm : Int64) (un : UN) (nT : Nat) (Ft : Nat → Fl) (pt : Nat → Nat) (a : Int32) (hx : G.2.2.2 ≤ x) (hI : In G x ca Φ) (hc0 : Φ (x + 80) = some (o_ 4 [.ref (x + 3), .ref (x + 74), .ref (x + 81), .ref (x + 95), .int (nI tm), .int (nI r), .int (nI w), .int aq, .int xp, .int xb, .long ob, .long sm, .long (un.1)])) (hc1 : Φ (x + 95) = some (o_ 6 [.ref (x + 96), .int (nI nT)])) (hcf0 : TbT G x nT 99 Ft pt Φ) (hnT : nT ≤ 24) : Ct G l yX2_trueValue wsX2_trueValue ({ frames := 1, cells := 0, slots := 0, locals := 23 }) 0 0 [.ref (x + 80), .long (-1), .int a] Φ sz (fun v Φ1 sz1 => (v = some (.long 0)) ∧ sz1 = sz ∧ In G x (ca) Φ1 ∧ Fr x (fun j9 => False) Φ Φ1) := by
  refine Ct.of (cc := cX2_trueValue) (maxL := 5) (ret := (some .long)) (by decide) rfl (Nat.le_of_ble_eq_true rfl) ?_
  intro p9 e9 s9 m9 w9 t9 k9 B
  show Z p9 l e9 _ s9 m9 _ w9 t9 k9 _ G 5 0 [(0, .ref (x + 80)), (1, .long (-1)), (3, .int a)] [] Φ sz 0 0
  refine z_aload_n B dX2_trueValue_0 rfl 0 rfl ?_
  refine z_get (ref := "FlowExporter$Exporter") (C := RX2) (T := TX2) (N := 13) (ci := 4) (v := .ref (x + 95)) B hu_X2_trueValue_X2 rfl 3 (Nat.le_of_ble_eq_true rfl) hv_X2_trueValue_20 rfl hc0 rfl dX2_trueValue_1 ?_
  refine z_lload_n B dX2_trueValue_4 rfl 1 rfl ?_
  refine z_callV (As := [.long (-1)]) (rest := []) B (s_X4_indexOf_m G l Φ sz x (ca) nT Ft pt hx hI hc1 hcf0 (show nT ≤ 24 by omega)) (cwV 1 B.1.2.2.2.2 gX2_trueValue_X4_indexOf rfl rfl rfl (by decide +kernel) ⟨Nat.le_of_ble_eq_true rfl, Nat.le_of_ble_eq_true rfl⟩) hc1 rfl rfl rfl rfl (Nat.le_of_ble_eq_true rfl) dX2_trueValue_5 ⟨Nat.le_of_ble_eq_true rfl, Nat.le_of_ble_eq_true rfl⟩ (fun r_1 Φ1 sz1 st1 hp1 hs1 => ?_)
  obtain ⟨rfl, hq1, hI1, hF1⟩ := hp1
  subst sz1
  replace hs1 : st1 = [.int (-1)] := hs1
  subst st1
  replace hI1 : In G x (ca) Φ1 := hI1
  refine z_istore (lv' := [(4, .int (-1)), (0, .ref (x + 80)), (1, .long (-1)), (3, .int a)]) B dX2_trueValue_8 (Nat.le_of_ble_eq_true rfl) rfl ?_
  refine z_iload B dX2_trueValue_10 0 rfl ?_
  refine z_iconst (v := (-1)) B dX2_trueValue_12 rfl ?_
  refine z_icmp_ne (tgt := 20) B dX2_trueValue_13 rfl (fun h9 => absurd (by decide) h9) (fun c_1 => ?_)
  refine z_lconst (v := 0) B dX2_trueValue_16 rfl ?_
  refine z_goto (tgt := 41) B dX2_trueValue_17 rfl ?_
  exact z_ret_l B dX2_trueValue_41 ⟨rfl, rfl, hI1, (fun b9 h9 => ((hF1 b9 (fun j9 h8 h7 => (show False from h7).elim)).trans rfl))⟩

theorem fq_746 : ∀ j9 : Nat, (95 ≤ j9 ∧ j9 < 121) → ¬ (82 ≤ j9 ∧ j9 < 95) := by
  intro j9 h
  omega

theorem fq_747 {x : Nat} : ∀ j9 : Nat, x + 81 = x + j9 → (95 ≤ j9 ∧ j9 < 121) → False := by
  intro j9 h1 h2
  omega

theorem fq_748 : ∀ j9 : Nat, (74 ≤ j9 ∧ j9 < 95) → ¬ (96 ≤ j9 ∧ j9 < 121) := by
  intro j9 h
  omega

theorem fq_749 : ∀ j9 : Nat, (46 ≤ j9 ∧ j9 < 80) → ¬ (96 ≤ j9 ∧ j9 < 121) := by
  intro j9 h
  omega

theorem fq_750 {x : Nat} : ∀ j9 : Nat, x + 95 = x + j9 → (74 ≤ j9 ∧ j9 < 95) → False := by
  intro j9 h1 h2
  omega

theorem fq_751 {x : Nat} : ∀ j9 : Nat, x + 95 = x + j9 → (46 ≤ j9 ∧ j9 < 80) → False := by
  intro j9 h1 h2
  omega

theorem fq_752 : ∀ j9 : Nat, (j9 = 80) → (74 ≤ j9 ∧ j9 < 95) := by
  intro j9 h
  omega

set_option maxHeartbeats 4000000 in
set_option maxRecDepth 100000 in
theorem s_X2_trueValueX (G : EnvG) (l : Launch) (Φ : Hm) (sz x ca : Nat) (tm : Nat) (r : Nat) (w : Nat) (aq : Int32) (xp : Int32) (xb : Int32) (ob : Int64) (sm : Int64) (un : Int64) (nT : Nat) (Ft : Nat → Fl) (pt : Nat → Nat) (K : Nat) (a : Int32) (hx : G.2.2.2 ≤ x) (hI : In G x ca Φ) (hc0 : Φ (x + 80) = some (o_ 4 [.ref (x + 3), .ref (x + 74), .ref (x + 81), .ref (x + 95), .int (nI tm), .int (nI r), .int (nI w), .int aq, .int xp, .int xb, .long ob, .long sm, .long un])) (hc1 : Φ (x + 95) = some (o_ 6 [.ref (x + 96), .int (nI nT)])) (hcf0 : TbT G x nT 99 Ft pt Φ) (hnT : nT ≤ 24) (hK : K < 2 ^ 40) : Ct G l yX2_trueValue wsX2_trueValue ({ frames := 1, cells := 0, slots := 0, locals := 23 }) 0 0 [.ref (x + 80), .long (Int64.ofNat K), .int a] Φ sz (fun v Φ1 sz1 => (v = some (.long (trL K a (nT, Ft)))) ∧ sz1 = sz ∧ In G x (ca) Φ1 ∧ Fr x (fun j9 => False) Φ Φ1) := by
  refine Ct.of (cc := cX2_trueValue) (maxL := 5) (ret := (some .long)) (by decide) rfl (Nat.le_of_ble_eq_true rfl) ?_
  intro p9 e9 s9 m9 w9 t9 k9 B
  show Z p9 l e9 _ s9 m9 _ w9 t9 k9 _ G 5 0 [(0, .ref (x + 80)), (1, .long (Int64.ofNat K)), (3, .int a)] [] Φ sz 0 0
  refine z_aload_n B dX2_trueValue_0 rfl 0 rfl ?_
  refine z_get (ref := "FlowExporter$Exporter") (C := RX2) (T := TX2) (N := 13) (ci := 4) (v := .ref (x + 95)) B hu_X2_trueValue_X2 rfl 3 (Nat.le_of_ble_eq_true rfl) hv_X2_trueValue_20 rfl hc0 rfl dX2_trueValue_1 ?_
  refine z_lload_n B dX2_trueValue_4 rfl 1 rfl ?_
  refine z_callV (As := [.long (Int64.ofNat K)]) (rest := []) B (s_X4_indexOf_95 G l Φ sz x (ca) nT Ft pt K hx hI hc1 hcf0 (show nT ≤ 24 by omega) (show K < 2 ^ 40 by omega)) (cwV 1 B.1.2.2.2.2 gX2_trueValue_X4_indexOf rfl rfl rfl (by decide +kernel) ⟨Nat.le_of_ble_eq_true rfl, Nat.le_of_ble_eq_true rfl⟩) hc1 rfl rfl rfl rfl (Nat.le_of_ble_eq_true rfl) dX2_trueValue_5 ⟨Nat.le_of_ble_eq_true rfl, Nat.le_of_ble_eq_true rfl⟩ (fun r_1 Φ1 sz1 st1 hp1 hs1 => ?_)
  obtain ⟨ha1, hq1, hI1, hF1⟩ := hp1
  subst sz1
  replace hI1 : In G x (ca) Φ1 := hI1
  rcases ha1 with ⟨rfl, e_1⟩ | ⟨rfl, e_2⟩
  · replace e_1 : ¬ ixN Ft K nT < nT := e_1
    replace hs1 : st1 = [.int (-1)] := hs1
    subst st1
    refine z_istore (lv' := [(4, .int (-1)), (0, .ref (x + 80)), (1, .long (Int64.ofNat K)), (3, .int a)]) B dX2_trueValue_8 (Nat.le_of_ble_eq_true rfl) rfl ?_
    refine z_iload B dX2_trueValue_10 0 rfl ?_
    refine z_iconst (v := (-1)) B dX2_trueValue_12 rfl ?_
    refine z_icmp_ne (tgt := 20) B dX2_trueValue_13 rfl (fun h9 => absurd (by decide) h9) (fun c_1 => ?_)
    refine z_lconst (v := 0) B dX2_trueValue_16 rfl ?_
    refine z_goto (tgt := 41) B dX2_trueValue_17 rfl ?_
    exact z_ret_l B dX2_trueValue_41 ⟨(congrArg (fun w9 : Int64 => some (Value.long w9)) (trL_n (by omega)).symm), rfl, hI1, (fun b9 h9 => ((hF1 b9 (fun j9 h8 h7 => (show False from h7).elim)).trans rfl))⟩
  · replace e_2 : ixN Ft K nT < nT := e_2
    replace hs1 : st1 = [.int (nI (ixN Ft K nT))] := hs1
    subst st1
    refine z_istore (lv' := [(4, .int (nI (ixN Ft K nT))), (0, .ref (x + 80)), (1, .long (Int64.ofNat K)), (3, .int a)]) B dX2_trueValue_8 (Nat.le_of_ble_eq_true rfl) rfl ?_
    refine z_iload B dX2_trueValue_10 0 rfl ?_
    refine z_iconst (v := (-1)) B dX2_trueValue_12 rfl ?_
    refine z_icmp_ne (tgt := 20) B dX2_trueValue_13 rfl (fun c_2 => ?_) (fun h9 => absurd h9 (nI_nm1x (n := ixN Ft K nT) (by omega)))
    refine z_aload_n B dX2_trueValue_20 rfl 1 rfl ?_
    have h_1 : Φ1 (x + 80) = some (o_ 4 [.ref (x + 3), .ref (x + 74), .ref (x + 81), .ref (x + 95), .int (nI tm), .int (nI r), .int (nI w), .int aq, .int xp, .int xb, .long ob, .long sm, .long un]) := ((hF1 (x + 80) (fun j9 h8 h7 => (show False from h7).elim)).trans hc0)
    refine z_get (ref := "FlowExporter$Exporter") (C := RX2) (T := TX2) (N := 13) (ci := 4) (v := .ref (x + 95)) B hu_X2_trueValue_X2 rfl 3 (Nat.le_of_ble_eq_true rfl) hv_X2_trueValue_20 rfl h_1 rfl dX2_trueValue_21 ?_
    refine z_iload B dX2_trueValue_24 0 rfl ?_
    have hcg1 : TbT G x nT 99 Ft pt Φ1 := (TbT.fr hcf0 hF1 (fun j9 h7 => (show False from h7).elim))
    have e_3 := TbR.fl hcg1 (show ixN Ft K nT < nT by omega) (show ¬ ixN Ft K nT = 99 by omega)
    have b_1 : (Ft (ixN Ft K nT)).1 < 2 ^ 40 ∧ (Ft (ixN Ft K nT)).2.2.2.1 ≤ 1000000 ∧ (Ft (ixN Ft K nT)).2.2.2.2 ≤ 1000000 := e_3.1
    have h_2 : Φ1 (x + (97 + pt (ixN Ft K nT))) = some (o_ 5 [.long (Int64.ofNat (Ft (ixN Ft K nT)).1), .long ((Ft (ixN Ft K nT)).2.1), .long ((Ft (ixN Ft K nT)).2.2.1), .int (nI ((Ft (ixN Ft K nT)).2.2.2.1)), .int (nI ((Ft (ixN Ft K nT)).2.2.2.2))]) := e_3.2
    have h_3 : Φ1 (x + 95) = some (o_ 6 [.ref (x + 96), .int (nI nT)]) := ((hF1 (x + 95) (fun j9 h8 h7 => (show False from h7).elim)).trans hc1)
    refine z_callV (As := [.int (nI (ixN Ft K nT))]) (rest := []) B (s_X4_flowAt_95 G l Φ1 sz x (ca) nT 99 Ft pt (ixN Ft K nT) hx hI1 h_3 hcg1 (show (ixN Ft K nT) < 24 by omega)) (cwV 1 B.1.2.2.2.2 gX2_trueValue_X4_flowAt rfl rfl rfl (by decide +kernel) ⟨Nat.le_of_ble_eq_true rfl, Nat.le_of_ble_eq_true rfl⟩) h_3 rfl rfl rfl rfl (Nat.le_of_ble_eq_true rfl) dX2_trueValue_26 ⟨Nat.le_of_ble_eq_true rfl, Nat.le_of_ble_eq_true rfl⟩ (fun r_2 Φ2 sz2 st2 hp2 hs2 => ?_)
    obtain ⟨rfl, hq2, hI2, hF2⟩ := hp2
    subst sz2
    replace hs2 : st2 = [.ref (x + (97 + pt (ixN Ft K nT)))] := hs2
    subst st2
    replace hI2 : In G x (ca) Φ2 := hI2
    refine z_iload_n B dX2_trueValue_29 rfl 3 rfl ?_
    refine z_if_ne (tgt := 37) B dX2_trueValue_30 rfl (fun c_3 => ?_) (fun c_3 => ?_)
    · refine z_iconst (v := 5) B dX2_trueValue_37 rfl ?_
      have h_4 : Φ2 (x + (97 + pt (ixN Ft K nT))) = some (o_ 5 [.long (Int64.ofNat (Ft (ixN Ft K nT)).1), .long ((Ft (ixN Ft K nT)).2.1), .long ((Ft (ixN Ft K nT)).2.2.1), .int (nI ((Ft (ixN Ft K nT)).2.2.2.1)), .int (nI ((Ft (ixN Ft K nT)).2.2.2.2))]) := ((hF2 (x + (97 + pt (ixN Ft K nT))) (fun j9 h8 h7 => (show False from h7).elim)).trans h_2)
      refine z_callV (As := [.int 5]) (rest := []) B (s_X3_value5X G l Φ2 sz x (ca) ((Ft (ixN Ft K nT)).1) ((Ft (ixN Ft K nT)).2.1) ((Ft (ixN Ft K nT)).2.2.1) ((Ft (ixN Ft K nT)).2.2.2.1) ((Ft (ixN Ft K nT)).2.2.2.2) (97 + pt (ixN Ft K nT)) hx hI2 (kd_f (k := 96) rfl (show pt (ixN Ft K nT) < 24 from TbR.lt hcg1 (by omega))) h_4 (show ((Ft (ixN Ft K nT)).1) < 2 ^ 40 by omega)) (cwV 1 B.1.2.2.2.2 gX2_trueValue_X3_value rfl rfl rfl (by decide +kernel) ⟨Nat.le_of_ble_eq_true rfl, Nat.le_of_ble_eq_true rfl⟩) h_4 rfl rfl rfl rfl (Nat.le_of_ble_eq_true rfl) dX2_trueValue_38 ⟨Nat.le_of_ble_eq_true rfl, Nat.le_of_ble_eq_true rfl⟩ (fun r_3 Φ3 sz3 st3 hp3 hs3 => ?_)
      obtain ⟨rfl, hq3, hI3, hF3⟩ := hp3
      subst sz3
      replace hs3 : st3 = [.long ((Ft (ixN Ft K nT)).2.2.1)] := hs3
      subst st3
      replace hI3 : In G x (ca) Φ3 := hI3
      exact z_ret_l B dX2_trueValue_41 ⟨(congrArg (fun w9 : Int64 => some (Value.long w9)) ((trL_f (w := a) (by omega)).trans (if_neg c_3)).symm), rfl, hI3, (fun b9 h9 => ((hF3 b9 (fun j9 h8 h7 => (show False from h7).elim)).trans ((hF2 b9 (fun j9 h8 h7 => (show False from h7).elim)).trans ((hF1 b9 (fun j9 h8 h7 => (show False from h7).elim)).trans rfl))))⟩
    · refine z_iconst (v := 4) B dX2_trueValue_33 rfl ?_
      refine z_goto (tgt := 38) B dX2_trueValue_34 rfl ?_
      have h_5 : Φ2 (x + (97 + pt (ixN Ft K nT))) = some (o_ 5 [.long (Int64.ofNat (Ft (ixN Ft K nT)).1), .long ((Ft (ixN Ft K nT)).2.1), .long ((Ft (ixN Ft K nT)).2.2.1), .int (nI ((Ft (ixN Ft K nT)).2.2.2.1)), .int (nI ((Ft (ixN Ft K nT)).2.2.2.2))]) := ((hF2 (x + (97 + pt (ixN Ft K nT))) (fun j9 h8 h7 => (show False from h7).elim)).trans h_2)
      refine z_callV (As := [.int 4]) (rest := []) B (s_X3_value4X G l Φ2 sz x (ca) ((Ft (ixN Ft K nT)).1) ((Ft (ixN Ft K nT)).2.1) ((Ft (ixN Ft K nT)).2.2.1) ((Ft (ixN Ft K nT)).2.2.2.1) ((Ft (ixN Ft K nT)).2.2.2.2) (97 + pt (ixN Ft K nT)) hx hI2 (kd_f (k := 96) rfl (show pt (ixN Ft K nT) < 24 from TbR.lt hcg1 (by omega))) h_5 (show ((Ft (ixN Ft K nT)).1) < 2 ^ 40 by omega)) (cwV 1 B.1.2.2.2.2 gX2_trueValue_X3_value rfl rfl rfl (by decide +kernel) ⟨Nat.le_of_ble_eq_true rfl, Nat.le_of_ble_eq_true rfl⟩) h_5 rfl rfl rfl rfl (Nat.le_of_ble_eq_true rfl) dX2_trueValue_38 ⟨Nat.le_of_ble_eq_true rfl, Nat.le_of_ble_eq_true rfl⟩ (fun r_4 Φ4 sz4 st4 hp4 hs4 => ?_)
      obtain ⟨rfl, hq4, hI4, hF4⟩ := hp4
      subst sz4
      replace hs4 : st4 = [.long ((Ft (ixN Ft K nT)).2.1)] := hs4
      subst st4
      replace hI4 : In G x (ca) Φ4 := hI4
      exact z_ret_l B dX2_trueValue_41 ⟨(congrArg (fun w9 : Int64 => some (Value.long w9)) ((trL_f (w := a) (by omega)).trans (if_pos c_3)).symm), rfl, hI4, (fun b9 h9 => ((hF4 b9 (fun j9 h8 h7 => (show False from h7).elim)).trans ((hF2 b9 (fun j9 h8 h7 => (show False from h7).elim)).trans ((hF1 b9 (fun j9 h8 h7 => (show False from h7).elim)).trans rfl))))⟩

set_option maxHeartbeats 4000000 in
set_option maxRecDepth 100000 in
theorem s_X11_truthX (G : EnvG) (l : Launch) (hl9 : l.stackTraces = false) (Φ : Hm) (sz x ca : Nat) (tm : Nat) (r : Nat) (w : Nat) (aq : Int32) (xp : Int32) (xb : Int32) (ob : Int64) (sm : Int64) (un : Int64) (nT : Nat) (Ft : Nat → Fl) (pt : Nat → Nat) (a : Int32) (b : Int32) (d : Int32) (f : Int32) (g : Int32) (hx : G.2.2.2 ≤ x) (hI : In G x ca Φ) (hc0 : Φ (x + 80) = some (o_ 4 [.ref (x + 3), .ref (x + 74), .ref (x + 81), .ref (x + 95), .int (nI tm), .int (nI r), .int (nI w), .int aq, .int xp, .int xb, .long ob, .long sm, .long un])) (hc1 : Φ (x + 95) = some (o_ 6 [.ref (x + 96), .int (nI nT)])) (hcf0 : TbT G x nT 99 Ft pt Φ) (hnT : nT ≤ 24) : CtB G l yX11_truth wsX11_truth ({ frames := 7, cells := 1, slots := 6, locals := 101 }) 1 6 [.ref x, .int a, .int b, .int d, .int f, .int g] Φ sz (fun v Φ1 sz1 => (v = some (.long (trU a b d f g (nT, Ft))) ∧ (g = 0 ∨ g = 1)) ∧ sz1 = sz ∧ In G x (ca) Φ1 ∧ Fr x (fun j9 => False) Φ Φ1) (fun Φ1 => (¬ (g = 0 ∨ g = 1)) ∧ In G x ca Φ1 ∧ Fr x (fun j9 => False) Φ Φ1) [xIA] := by
  refine CtB.of (cc := cX11_truth) (maxL := 6) (ret := (some .long)) (by decide) rfl (Nat.le_of_ble_eq_true rfl) ?_
  intro p9 e9 s9 m9 w9 t9 k9 B htab9
  show Z p9 l e9 _ s9 m9 _ w9 t9 k9 _ G 6 0 [(0, .ref x), (1, .int a), (2, .int b), (3, .int d), (4, .int f), (5, .int g)] [] Φ sz 0 0
  refine z_iload B dX11_truth_0 5 rfl ?_
  refine zb_callS (As := [.int g]) (rest := []) B htab9 (s_X11_requireWhatX G l hl9 Φ sz x (ca) g hx hI ) (va_cwS 1 B.1.2.2.2.2 gX11_truth_X11_requireWhat rfl rfl rfl (by decide +kernel) ⟨Nat.le_of_ble_eq_true rfl, Nat.le_of_ble_eq_true rfl⟩) rfl rfl (Nat.le_of_ble_eq_true rfl) dX11_truth_2 ⟨Nat.le_of_ble_eq_true rfl, Nat.le_of_ble_eq_true rfl⟩ ⟨Nat.le_of_ble_eq_true rfl, Nat.le_of_ble_eq_true rfl⟩ (by decide) (fun Φ9 h9 => ⟨h9.1, h9.2.1, fun b9 h8 => ((h9.2.2 b9 h8).trans ((fun b9 h9 => rfl) b9 h8))⟩) (fun r_1 Φ1 sz1 st1 hp1 hs1 => ?_)
  obtain ⟨⟨rfl, b_1⟩, hq1, hI1, hF1⟩ := hp1
  subst sz1
  replace hs1 : st1 = [] := hs1
  subst st1
  replace hI1 : In G x (ca) Φ1 := hI1
  replace b_1 : g = 0 ∨ g = 1 := b_1
  refine z_aload_n B dX11_truth_5 rfl 0 rfl ?_
  have h_1 := in0 (k := 0) hI1 rfl
  have h_2 : Φ1 x = some (o_ 13 [.ref (x + 1), .ref (x + 3), .ref (x + 24), .ref (x + 46), .ref (x + 74), .ref (x + 80), .ref (x + 132), .ref (x + 121)]) := h_1
  refine z_get (ref := "FlowExporter") (C := RX11) (T := TX11) (N := 8) (ci := 13) (v := .ref (x + 80)) B hu_X11_truth_X11 rfl 5 (Nat.le_of_ble_eq_true rfl) hv_X11_truth_55 rfl h_2 rfl dX11_truth_6 ?_
  refine z_iload_n B dX11_truth_9 rfl 1 rfl ?_
  refine z_iload_n B dX11_truth_10 rfl 2 rfl ?_
  refine z_iload_n B dX11_truth_11 rfl 3 rfl ?_
  refine z_iload B dX11_truth_12 4 rfl ?_
  refine z_callS (As := [.int a, .int b, .int d, .int f]) (rest := [.ref (x + 80)]) B (s_X3_keyOfX G l Φ1 sz x (ca) a b d f hx hI1 ) (va_cwS 4 B.1.2.2.2.2 gX11_truth_X3_keyOf rfl rfl rfl (by decide +kernel) ⟨Nat.le_of_ble_eq_true rfl, Nat.le_of_ble_eq_true rfl⟩) rfl rfl (Nat.le_of_ble_eq_true rfl) dX11_truth_14 ⟨Nat.le_of_ble_eq_true rfl, Nat.le_of_ble_eq_true rfl⟩ (fun r_2 Φ2 sz2 st2 hp2 hs2 => ?_)
  obtain ⟨ha1, hq2, hI2, hF2⟩ := hp2
  subst sz2
  replace hI2 : In G x (ca) Φ2 := hI2
  rcases ha1 with ⟨rfl, e_1⟩ | ⟨rfl, e_2⟩
  · replace e_1 : KyP a b d f := e_1
    replace hs2 : st2 = [.long (Int64.ofNat (kyN a b d f)), .ref (x + 80)] := hs2
    subst st2
    refine z_iload B dX11_truth_17 5 rfl ?_
    have h_3 : Φ2 (x + 80) = some (o_ 4 [.ref (x + 3), .ref (x + 74), .ref (x + 81), .ref (x + 95), .int (nI tm), .int (nI r), .int (nI w), .int aq, .int xp, .int xb, .long ob, .long sm, .long un]) := ((hF2 (x + 80) (fun j9 h8 h7 => (show False from h7).elim)).trans ((hF1 (x + 80) (fun j9 h8 h7 => (show False from h7).elim)).trans hc0))
    have h_4 : Φ2 (x + 95) = some (o_ 6 [.ref (x + 96), .int (nI nT)]) := ((hF2 (x + 95) (fun j9 h8 h7 => (show False from h7).elim)).trans ((hF1 (x + 95) (fun j9 h8 h7 => (show False from h7).elim)).trans hc1))
    have hcg1 : TbT G x nT 99 Ft pt Φ2 := (TbT.fr (TbT.fr hcf0 hF1 (fun j9 h7 => (show False from h7).elim)) hF2 (fun j9 h7 => (show False from h7).elim))
    refine z_callV (As := [.long (Int64.ofNat (kyN a b d f)), .int g]) (rest := []) B (s_X2_trueValueX G l Φ2 sz x (ca) tm r w aq xp xb ob sm un nT Ft pt (kyN a b d f) g hx hI2 h_3 h_4 hcg1 (show nT ≤ 24 by omega) (keyF_N e_1).2) (cwV 2 B.1.2.2.2.2 gX11_truth_X2_trueValue rfl rfl rfl (by decide +kernel) ⟨Nat.le_of_ble_eq_true rfl, Nat.le_of_ble_eq_true rfl⟩) h_3 rfl rfl rfl rfl (Nat.le_of_ble_eq_true rfl) dX11_truth_19 ⟨Nat.le_of_ble_eq_true rfl, Nat.le_of_ble_eq_true rfl⟩ (fun r_3 Φ3 sz3 st3 hp3 hs3 => ?_)
    obtain ⟨rfl, hq3, hI3, hF3⟩ := hp3
    subst sz3
    replace hs3 : st3 = [.long (trL (kyN a b d f) g (nT, Ft))] := hs3
    subst st3
    replace hI3 : In G x (ca) Φ3 := hI3
    exact zb_ret (Nat.le_of_ble_eq_true rfl) (Nat.le_of_ble_eq_true rfl) (z_ret_l B dX11_truth_22 ⟨⟨(congrArg (fun w9 : Int64 => some (Value.long w9)) (trU_y e_1).symm), b_1⟩, rfl, hI3, (fun b9 h9 => ((hF3 b9 (fun j9 h8 h7 => (show False from h7).elim)).trans ((hF2 b9 (fun j9 h8 h7 => (show False from h7).elim)).trans ((hF1 b9 (fun j9 h8 h7 => (show False from h7).elim)).trans rfl))))⟩)
  · replace e_2 : ¬ KyP a b d f := e_2
    replace hs2 : st2 = [.long (-1), .ref (x + 80)] := hs2
    subst st2
    refine z_iload B dX11_truth_17 5 rfl ?_
    have h_5 : Φ2 (x + 80) = some (o_ 4 [.ref (x + 3), .ref (x + 74), .ref (x + 81), .ref (x + 95), .int (nI tm), .int (nI r), .int (nI w), .int aq, .int xp, .int xb, .long ob, .long sm, .long un]) := ((hF2 (x + 80) (fun j9 h8 h7 => (show False from h7).elim)).trans ((hF1 (x + 80) (fun j9 h8 h7 => (show False from h7).elim)).trans hc0))
    have h_6 : Φ2 (x + 95) = some (o_ 6 [.ref (x + 96), .int (nI nT)]) := ((hF2 (x + 95) (fun j9 h8 h7 => (show False from h7).elim)).trans ((hF1 (x + 95) (fun j9 h8 h7 => (show False from h7).elim)).trans hc1))
    have hcg2 : TbT G x nT 99 Ft pt Φ2 := (TbT.fr (TbT.fr hcf0 hF1 (fun j9 h7 => (show False from h7).elim)) hF2 (fun j9 h7 => (show False from h7).elim))
    refine z_callV (As := [.long (-1), .int g]) (rest := []) B (s_X2_trueValue_m G l Φ2 sz x (ca) tm r w aq xp xb ob sm un nT Ft pt g hx hI2 h_5 h_6 hcg2 (show nT ≤ 24 by omega)) (cwV 2 B.1.2.2.2.2 gX11_truth_X2_trueValue rfl rfl rfl (by decide +kernel) ⟨Nat.le_of_ble_eq_true rfl, Nat.le_of_ble_eq_true rfl⟩) h_5 rfl rfl rfl rfl (Nat.le_of_ble_eq_true rfl) dX11_truth_19 ⟨Nat.le_of_ble_eq_true rfl, Nat.le_of_ble_eq_true rfl⟩ (fun r_4 Φ4 sz4 st4 hp4 hs4 => ?_)
    obtain ⟨rfl, hq4, hI4, hF4⟩ := hp4
    subst sz4
    replace hs4 : st4 = [.long 0] := hs4
    subst st4
    replace hI4 : In G x (ca) Φ4 := hI4
    exact zb_ret (Nat.le_of_ble_eq_true rfl) (Nat.le_of_ble_eq_true rfl) (z_ret_l B dX11_truth_22 ⟨⟨(congrArg (fun w9 : Int64 => some (Value.long w9)) (trU_n e_2).symm), b_1⟩, rfl, hI4, (fun b9 h9 => ((hF4 b9 (fun j9 h8 h7 => (show False from h7).elim)).trans ((hF2 b9 (fun j9 h8 h7 => (show False from h7).elim)).trans ((hF1 b9 (fun j9 h8 h7 => (show False from h7).elim)).trans rfl))))⟩)

set_option maxHeartbeats 4000000 in
set_option maxRecDepth 100000 in
theorem s_X2_clearX (G : EnvG) (l : Launch) (Φ : Hm) (sz x ca : Nat) (nw : Int32) (rt : Int32) (dw : Int32) (aq : Int32) (xp : Int32) (xb : Int32) (ob : Int64) (sm : Int64) (un : Int64) (n : Nat) (Fs : Nat → Fl) (pp : Nat → Nat) (nT : Nat) (Ft : Nat → Fl) (pt : Nat → Nat) (t : Nat) (s : Nat) (c : Cf) (hx : G.2.2.2 ≤ x) (hI : In G x ca Φ) (hc0 : Φ (x + 80) = some (o_ 4 [.ref (x + 3), .ref (x + 74), .ref (x + 81), .ref (x + 95), .int nw, .int rt, .int dw, .int aq, .int xp, .int xb, .long ob, .long sm, .long un])) (hc1 : Φ (x + 81) = some (o_ 6 [.ref (x + 82), .int (nI n)])) (hc2 : Φ (x + 95) = some (o_ 6 [.ref (x + 96), .int (nI nT)])) (hcf0 : TbC G x n 99 Fs pp Φ) (hcf1 : TbT G x nT 99 Ft pt Φ) (hcf2 : CfA G x t s c Φ) (had : aq = 0 ∨ aq = 1) : Ct G l yX2_clear wsX2_clear ({ frames := 1, cells := 0, slots := 0, locals := 21 }) 0 0 [.ref (x + 80)] Φ sz (fun v Φ1 sz1 => (v = none ∧ Φ1 (x + 80) = some (o_ 4 [.ref (x + 3), .ref (x + 74), .ref (x + 81), .ref (x + 95), .int 0, .int (c 0), .int 1, .int 0, .int 0, .int 0, .long 0, .long 0, .long 0]) ∧ Φ1 (x + 81) = some (o_ 6 [.ref (x + 82), .int (nI 0)]) ∧ Φ1 (x + 95) = some (o_ 6 [.ref (x + 96), .int (nI 0)]) ∧ TbC G x 0 99 Fz pp Φ1 ∧ TbT G x 0 99 Fz pt Φ1) ∧ sz1 = sz ∧ In G x (ca) Φ1 ∧ Fr x (fun j9 => j9 = 80 ∨ j9 = 81 ∨ j9 = 95) Φ Φ1) := by
  refine Ct.of (cc := cX2_clear) (maxL := 1) (ret := none) (by decide) rfl (Nat.le_of_ble_eq_true rfl) ?_
  intro p9 e9 s9 m9 w9 t9 k9 B
  show Z p9 l e9 _ s9 m9 _ w9 t9 k9 _ G 1 0 [(0, .ref (x + 80))] [] Φ sz 0 0
  refine z_aload_n B dX2_clear_0 rfl 0 rfl ?_
  refine z_get (ref := "FlowExporter$Exporter") (C := RX2) (T := TX2) (N := 13) (ci := 4) (v := .ref (x + 81)) B hu_X2_clear_X2 rfl 2 (Nat.le_of_ble_eq_true rfl) hv_X2_clear_14 rfl hc0 rfl dX2_clear_1 ?_
  refine z_iconst (v := 0) B dX2_clear_4 rfl ?_
  refine z_put (ref := "FlowExporter$FlowTable") (C := RX4) (T := TX4) (N := 2) (ci := 6) (v := .int 0) B hu_X2_clear_X4 tyX4 tyX4_ok nmX4 rfl 1 (Nat.le_of_ble_eq_true rfl) hv_X2_clear_61 rfl (Or.inl rfl) hc1 (Nat.le_trans hx (Nat.le_add_right x 81)) rfl rfl (Nat.le_of_ble_eq_true rfl) dX2_clear_5 (fun Φ1 hΦ1 => ?_)
  have h_1 : Φ1 (x + 81) = some (o_ 6 [.ref (x + 82), .int 0]) := fset_at hΦ1
  have hI1 : In G x (ca) Φ1 := In.put (k := 81) hI hΦ1 (ok17 (k := 81) rfl ⟨0, rfl, (show 0 ≤ 12 by omega)⟩)
  refine z_aload_n B dX2_clear_8 rfl 0 rfl ?_
  have h_2 : Φ1 (x + 80) = some (o_ 4 [.ref (x + 3), .ref (x + 74), .ref (x + 81), .ref (x + 95), .int nw, .int rt, .int dw, .int aq, .int xp, .int xb, .long ob, .long sm, .long un]) := ((fset_fr hΦ1 (ne_off (x := x) (i := 80) (j := 81) rfl)).trans hc0)
  refine z_get (ref := "FlowExporter$Exporter") (C := RX2) (T := TX2) (N := 13) (ci := 4) (v := .ref (x + 95)) B hu_X2_clear_X2 rfl 3 (Nat.le_of_ble_eq_true rfl) hv_X2_clear_20 rfl h_2 rfl dX2_clear_9 ?_
  refine z_iconst (v := 0) B dX2_clear_12 rfl ?_
  have h_3 : Φ1 (x + 95) = some (o_ 6 [.ref (x + 96), .int (nI nT)]) := ((fset_fr hΦ1 (ne_off (x := x) (i := 95) (j := 81) rfl)).trans hc2)
  refine z_put (ref := "FlowExporter$FlowTable") (C := RX4) (T := TX4) (N := 2) (ci := 6) (v := .int 0) B hu_X2_clear_X4 tyX4 tyX4_ok nmX4 rfl 1 (Nat.le_of_ble_eq_true rfl) hv_X2_clear_61 rfl (Or.inl rfl) h_3 (Nat.le_trans hx (Nat.le_add_right x 95)) rfl rfl (Nat.le_of_ble_eq_true rfl) dX2_clear_13 (fun Φ2 hΦ2 => ?_)
  have h_4 : Φ2 (x + 95) = some (o_ 6 [.ref (x + 96), .int 0]) := fset_at hΦ2
  have hI2 : In G x (ca) Φ2 := In.put (k := 95) hI1 hΦ2 (ok17 (k := 95) rfl ⟨0, rfl, (show 0 ≤ 24 by omega)⟩)
  refine z_aload_n B dX2_clear_16 rfl 0 rfl ?_
  refine z_iconst (v := 0) B dX2_clear_17 rfl ?_
  have h_5 : Φ2 (x + 80) = some (o_ 4 [.ref (x + 3), .ref (x + 74), .ref (x + 81), .ref (x + 95), .int nw, .int rt, .int dw, .int aq, .int xp, .int xb, .long ob, .long sm, .long un]) := ((fset_fr hΦ2 (ne_off (x := x) (i := 80) (j := 95) rfl)).trans h_2)
  refine z_put (ref := "FlowExporter$Exporter") (C := RX2) (T := TX2) (N := 13) (ci := 4) (v := .int 0) B hu_X2_clear_X2 tyX2 tyX2_ok nmX2 rfl 4 (Nat.le_of_ble_eq_true rfl) hv_X2_clear_23 rfl (Or.inl rfl) h_5 (Nat.le_trans hx (Nat.le_add_right x 80)) rfl rfl (Nat.le_of_ble_eq_true rfl) dX2_clear_18 (fun Φ3 hΦ3 => ?_)
  have h_6 : Φ3 (x + 80) = some (o_ 4 [.ref (x + 3), .ref (x + 74), .ref (x + 81), .ref (x + 95), .int 0, .int rt, .int dw, .int aq, .int xp, .int xb, .long ob, .long sm, .long un]) := fset_at hΦ3
  have hI3 : In G x (ca) Φ3 := In.put (k := 80) hI2 hΦ3 (ok16 (k := 80) rfl ⟨0, rt, dw, aq, xp, xb, ob, sm, un, rfl, had⟩)
  refine z_aload_n B dX2_clear_21 rfl 0 rfl ?_
  refine z_aload_n B dX2_clear_22 rfl 0 rfl ?_
  refine z_get (ref := "FlowExporter$Exporter") (C := RX2) (T := TX2) (N := 13) (ci := 4) (v := .ref (x + 3)) B hu_X2_clear_X2 rfl 0 (Nat.le_of_ble_eq_true rfl) hv_X2_clear_53 rfl h_6 rfl dX2_clear_23 ?_
  refine z_iconst (v := 0) B dX2_clear_26 rfl ?_
  obtain ⟨v_1, v_2, h_7⟩ := in3 (k := 3) hI3 rfl
  have h_8 : Φ3 (x + 3) = some (o_ 3 [.ref (x + 4), .ref (x + 5), .ref (x + 6), .ref (x + 7), .int v_1, .int v_2]) := h_7
  have hcg1 : CfA G x t s c Φ3 := (CfA.off (k := 80) (CfA.off (k := 95) (CfA.off (k := 81) hcf2 hΦ1 (by intros; omega)) hΦ2 (by intros; omega)) hΦ3 (by intros; omega))
  refine z_callV (As := [.int 0]) (rest := [.ref (x + 80)]) B (s_X1_getX G l Φ3 sz x (ca) t s c 0 hx hI3 hcg1 (show 0 < 9 by omega)) (cwV 1 B.1.2.2.2.2 gX2_clear_X1_get rfl rfl rfl (by decide +kernel) ⟨Nat.le_of_ble_eq_true rfl, Nat.le_of_ble_eq_true rfl⟩) h_8 rfl rfl rfl rfl (Nat.le_of_ble_eq_true rfl) dX2_clear_27 ⟨Nat.le_of_ble_eq_true rfl, Nat.le_of_ble_eq_true rfl⟩ (fun r_1 Φ4 sz1 st1 hp1 hs1 => ?_)
  obtain ⟨rfl, hq1, hI4, hF1⟩ := hp1
  subst sz1
  replace hs1 : st1 = [.int (c 0), .ref (x + 80)] := hs1
  subst st1
  replace hI4 : In G x (ca) Φ4 := hI4
  have h_9 : Φ4 (x + 80) = some (o_ 4 [.ref (x + 3), .ref (x + 74), .ref (x + 81), .ref (x + 95), .int 0, .int rt, .int dw, .int aq, .int xp, .int xb, .long ob, .long sm, .long un]) := ((hF1 (x + 80) (fun j9 h8 h7 => (show False from h7).elim)).trans h_6)
  refine z_put (ref := "FlowExporter$Exporter") (C := RX2) (T := TX2) (N := 13) (ci := 4) (v := .int (c 0)) B hu_X2_clear_X2 tyX2 tyX2_ok nmX2 rfl 5 (Nat.le_of_ble_eq_true rfl) hv_X2_clear_27 rfl (Or.inl rfl) h_9 (Nat.le_trans hx (Nat.le_add_right x 80)) rfl rfl (Nat.le_of_ble_eq_true rfl) dX2_clear_30 (fun Φ5 hΦ4 => ?_)
  have h_10 : Φ5 (x + 80) = some (o_ 4 [.ref (x + 3), .ref (x + 74), .ref (x + 81), .ref (x + 95), .int 0, .int (c 0), .int dw, .int aq, .int xp, .int xb, .long ob, .long sm, .long un]) := fset_at hΦ4
  have hI5 : In G x (ca) Φ5 := In.put (k := 80) hI4 hΦ4 (ok16 (k := 80) rfl ⟨0, c 0, dw, aq, xp, xb, ob, sm, un, rfl, had⟩)
  refine z_aload_n B dX2_clear_33 rfl 0 rfl ?_
  refine z_iconst (v := 1) B dX2_clear_34 rfl ?_
  refine z_put (ref := "FlowExporter$Exporter") (C := RX2) (T := TX2) (N := 13) (ci := 4) (v := .int 1) B hu_X2_clear_X2 tyX2 tyX2_ok nmX2 rfl 6 (Nat.le_of_ble_eq_true rfl) hv_X2_clear_30 rfl (Or.inl rfl) h_10 (Nat.le_trans hx (Nat.le_add_right x 80)) rfl rfl (Nat.le_of_ble_eq_true rfl) dX2_clear_35 (fun Φ6 hΦ5 => ?_)
  have h_11 : Φ6 (x + 80) = some (o_ 4 [.ref (x + 3), .ref (x + 74), .ref (x + 81), .ref (x + 95), .int 0, .int (c 0), .int 1, .int aq, .int xp, .int xb, .long ob, .long sm, .long un]) := fset_at hΦ5
  have hI6 : In G x (ca) Φ6 := In.put (k := 80) hI5 hΦ5 (ok16 (k := 80) rfl ⟨0, c 0, 1, aq, xp, xb, ob, sm, un, rfl, had⟩)
  refine z_aload_n B dX2_clear_38 rfl 0 rfl ?_
  refine z_iconst (v := 0) B dX2_clear_39 rfl ?_
  refine z_put (ref := "FlowExporter$Exporter") (C := RX2) (T := TX2) (N := 13) (ci := 4) (v := .int 0) B hu_X2_clear_X2 tyX2 tyX2_ok nmX2 rfl 7 (Nat.le_of_ble_eq_true rfl) hv_X2_clear_33 rfl (Or.inl rfl) h_11 (Nat.le_trans hx (Nat.le_add_right x 80)) (by decide +kernel) (by decide +kernel) (Nat.le_of_ble_eq_true rfl) dX2_clear_40 (fun Φ7 hΦ6 => ?_)
  have h_12 : Φ7 (x + 80) = some (o_ 4 [.ref (x + 3), .ref (x + 74), .ref (x + 81), .ref (x + 95), .int 0, .int (c 0), .int 1, .int 0, .int xp, .int xb, .long ob, .long sm, .long un]) := fset_at hΦ6
  have hI7 : In G x (ca) Φ7 := In.put (k := 80) hI6 hΦ6 (ok16 (k := 80) rfl ⟨0, c 0, 1, 0, xp, xb, ob, sm, un, rfl, (by decide)⟩)
  refine z_aload_n B dX2_clear_43 rfl 0 rfl ?_
  refine z_iconst (v := 0) B dX2_clear_44 rfl ?_
  refine z_put (ref := "FlowExporter$Exporter") (C := RX2) (T := TX2) (N := 13) (ci := 4) (v := .int 0) B hu_X2_clear_X2 tyX2 tyX2_ok nmX2 rfl 8 (Nat.le_of_ble_eq_true rfl) hv_X2_clear_37 rfl (Or.inl rfl) h_12 (Nat.le_trans hx (Nat.le_add_right x 80)) rfl rfl (Nat.le_of_ble_eq_true rfl) dX2_clear_45 (fun Φ8 hΦ7 => ?_)
  have h_13 : Φ8 (x + 80) = some (o_ 4 [.ref (x + 3), .ref (x + 74), .ref (x + 81), .ref (x + 95), .int 0, .int (c 0), .int 1, .int 0, .int 0, .int xb, .long ob, .long sm, .long un]) := fset_at hΦ7
  have hI8 : In G x (ca) Φ8 := In.put (k := 80) hI7 hΦ7 (ok16 (k := 80) rfl ⟨0, c 0, 1, 0, 0, xb, ob, sm, un, rfl, (by decide)⟩)
  refine z_aload_n B dX2_clear_48 rfl 0 rfl ?_
  refine z_iconst (v := 0) B dX2_clear_49 rfl ?_
  refine z_put (ref := "FlowExporter$Exporter") (C := RX2) (T := TX2) (N := 13) (ci := 4) (v := .int 0) B hu_X2_clear_X2 tyX2 tyX2_ok nmX2 rfl 9 (Nat.le_of_ble_eq_true rfl) hv_X2_clear_40 rfl (Or.inl rfl) h_13 (Nat.le_trans hx (Nat.le_add_right x 80)) rfl rfl (Nat.le_of_ble_eq_true rfl) dX2_clear_50 (fun Φ9 hΦ8 => ?_)
  have h_14 : Φ9 (x + 80) = some (o_ 4 [.ref (x + 3), .ref (x + 74), .ref (x + 81), .ref (x + 95), .int 0, .int (c 0), .int 1, .int 0, .int 0, .int 0, .long ob, .long sm, .long un]) := fset_at hΦ8
  have hI9 : In G x (ca) Φ9 := In.put (k := 80) hI8 hΦ8 (ok16 (k := 80) rfl ⟨0, c 0, 1, 0, 0, 0, ob, sm, un, rfl, (by decide)⟩)
  refine z_aload_n B dX2_clear_53 rfl 0 rfl ?_
  refine z_lconst (v := 0) B dX2_clear_54 rfl ?_
  refine z_put (ref := "FlowExporter$Exporter") (C := RX2) (T := TX2) (N := 13) (ci := 4) (v := .long 0) B hu_X2_clear_X2 tyX2 tyX2_ok nmX2 rfl 10 (Nat.le_of_ble_eq_true rfl) hv_X2_clear_43 rfl (Or.inl rfl) h_14 (Nat.le_trans hx (Nat.le_add_right x 80)) rfl rfl (Nat.le_of_ble_eq_true rfl) dX2_clear_55 (fun Φ10 hΦ9 => ?_)
  have h_15 : Φ10 (x + 80) = some (o_ 4 [.ref (x + 3), .ref (x + 74), .ref (x + 81), .ref (x + 95), .int 0, .int (c 0), .int 1, .int 0, .int 0, .int 0, .long 0, .long sm, .long un]) := fset_at hΦ9
  have hI10 : In G x (ca) Φ10 := In.put (k := 80) hI9 hΦ9 (ok16 (k := 80) rfl ⟨0, c 0, 1, 0, 0, 0, 0, sm, un, rfl, (by decide)⟩)
  refine z_aload_n B dX2_clear_58 rfl 0 rfl ?_
  refine z_lconst (v := 0) B dX2_clear_59 rfl ?_
  refine z_put (ref := "FlowExporter$Exporter") (C := RX2) (T := TX2) (N := 13) (ci := 4) (v := .long 0) B hu_X2_clear_X2 tyX2 tyX2_ok nmX2 rfl 11 (Nat.le_of_ble_eq_true rfl) hv_X2_clear_47 rfl (Or.inl rfl) h_15 (Nat.le_trans hx (Nat.le_add_right x 80)) rfl rfl (Nat.le_of_ble_eq_true rfl) dX2_clear_60 (fun Φ11 hΦ10 => ?_)
  have h_16 : Φ11 (x + 80) = some (o_ 4 [.ref (x + 3), .ref (x + 74), .ref (x + 81), .ref (x + 95), .int 0, .int (c 0), .int 1, .int 0, .int 0, .int 0, .long 0, .long 0, .long un]) := fset_at hΦ10
  have hI11 : In G x (ca) Φ11 := In.put (k := 80) hI10 hΦ10 (ok16 (k := 80) rfl ⟨0, c 0, 1, 0, 0, 0, 0, 0, un, rfl, (by decide)⟩)
  refine z_aload_n B dX2_clear_63 rfl 0 rfl ?_
  refine z_lconst (v := 0) B dX2_clear_64 rfl ?_
  refine z_put (ref := "FlowExporter$Exporter") (C := RX2) (T := TX2) (N := 13) (ci := 4) (v := .long 0) B hu_X2_clear_X2 tyX2 tyX2_ok nmX2 rfl 12 (Nat.le_of_ble_eq_true rfl) hv_X2_clear_50 rfl (Or.inl rfl) h_16 (Nat.le_trans hx (Nat.le_add_right x 80)) rfl rfl (Nat.le_of_ble_eq_true rfl) dX2_clear_65 (fun Φ12 hΦ11 => ?_)
  have h_17 : Φ12 (x + 80) = some (o_ 4 [.ref (x + 3), .ref (x + 74), .ref (x + 81), .ref (x + 95), .int 0, .int (c 0), .int 1, .int 0, .int 0, .int 0, .long 0, .long 0, .long 0]) := fset_at hΦ11
  have hI12 : In G x (ca) Φ12 := In.put (k := 80) hI11 hΦ11 (ok16 (k := 80) rfl ⟨0, c 0, 1, 0, 0, 0, 0, 0, 0, rfl, (by decide)⟩)
  have h_18 : Φ12 (x + 81) = some (o_ 6 [.ref (x + 82), .int 0]) := ((fset_fr hΦ11 (ne_off (x := x) (i := 81) (j := 80) rfl)).trans ((fset_fr hΦ10 (ne_off (x := x) (i := 81) (j := 80) rfl)).trans ((fset_fr hΦ9 (ne_off (x := x) (i := 81) (j := 80) rfl)).trans ((fset_fr hΦ8 (ne_off (x := x) (i := 81) (j := 80) rfl)).trans ((fset_fr hΦ7 (ne_off (x := x) (i := 81) (j := 80) rfl)).trans ((fset_fr hΦ6 (ne_off (x := x) (i := 81) (j := 80) rfl)).trans ((fset_fr hΦ5 (ne_off (x := x) (i := 81) (j := 80) rfl)).trans ((fset_fr hΦ4 (ne_off (x := x) (i := 81) (j := 80) rfl)).trans ((hF1 (x + 81) (fun j9 h8 h7 => (show False from h7).elim)).trans ((fset_fr hΦ3 (ne_off (x := x) (i := 81) (j := 80) rfl)).trans ((fset_fr hΦ2 (ne_off (x := x) (i := 81) (j := 95) rfl)).trans h_1)))))))))))
  have h_19 : Φ12 (x + 95) = some (o_ 6 [.ref (x + 96), .int 0]) := ((fset_fr hΦ11 (ne_off (x := x) (i := 95) (j := 80) rfl)).trans ((fset_fr hΦ10 (ne_off (x := x) (i := 95) (j := 80) rfl)).trans ((fset_fr hΦ9 (ne_off (x := x) (i := 95) (j := 80) rfl)).trans ((fset_fr hΦ8 (ne_off (x := x) (i := 95) (j := 80) rfl)).trans ((fset_fr hΦ7 (ne_off (x := x) (i := 95) (j := 80) rfl)).trans ((fset_fr hΦ6 (ne_off (x := x) (i := 95) (j := 80) rfl)).trans ((fset_fr hΦ5 (ne_off (x := x) (i := 95) (j := 80) rfl)).trans ((fset_fr hΦ4 (ne_off (x := x) (i := 95) (j := 80) rfl)).trans ((hF1 (x + 95) (fun j9 h8 h7 => (show False from h7).elim)).trans ((fset_fr hΦ3 (ne_off (x := x) (i := 95) (j := 80) rfl)).trans h_4))))))))))
  have hcg2 : TbC G x n 99 Fs pp Φ12 := (TbC.off (k := 80) (TbC.off (k := 80) (TbC.off (k := 80) (TbC.off (k := 80) (TbC.off (k := 80) (TbC.off (k := 80) (TbC.off (k := 80) (TbC.off (k := 80) (TbC.fr (TbC.off (k := 80) (TbC.off (k := 95) (TbC.off (k := 81) hcf0 hΦ1 (by omega)) hΦ2 (by omega)) hΦ3 (by omega)) hF1 (fun j9 h7 => (show False from h7).elim)) hΦ4 (by omega)) hΦ5 (by omega)) hΦ6 (by omega)) hΦ7 (by omega)) hΦ8 (by omega)) hΦ9 (by omega)) hΦ10 (by omega)) hΦ11 (by omega))
  have hcg3 : TbT G x nT 99 Ft pt Φ12 := (TbT.off (k := 80) (TbT.off (k := 80) (TbT.off (k := 80) (TbT.off (k := 80) (TbT.off (k := 80) (TbT.off (k := 80) (TbT.off (k := 80) (TbT.off (k := 80) (TbT.fr (TbT.off (k := 80) (TbT.off (k := 95) (TbT.off (k := 81) hcf1 hΦ1 (by omega)) hΦ2 (by omega)) hΦ3 (by omega)) hF1 (fun j9 h7 => (show False from h7).elim)) hΦ4 (by omega)) hΦ5 (by omega)) hΦ6 (by omega)) hΦ7 (by omega)) hΦ8 (by omega)) hΦ9 (by omega)) hΦ10 (by omega)) hΦ11 (by omega))
  exact z_ret_v B dX2_clear_68 ⟨⟨rfl, h_17, h_18, h_19, (TbR.z0 hcg2), (TbR.z0 hcg3)⟩, rfl, hI12, (fun b9 h9 => ((fset_fr hΦ11 (fun h8 => h9 (80) h8 (show 80 = 80 ∨ 80 = 81 ∨ 80 = 95 by decide))).trans ((fset_fr hΦ10 (fun h8 => h9 (80) h8 (show 80 = 80 ∨ 80 = 81 ∨ 80 = 95 by decide))).trans ((fset_fr hΦ9 (fun h8 => h9 (80) h8 (show 80 = 80 ∨ 80 = 81 ∨ 80 = 95 by decide))).trans ((fset_fr hΦ8 (fun h8 => h9 (80) h8 (show 80 = 80 ∨ 80 = 81 ∨ 80 = 95 by decide))).trans ((fset_fr hΦ7 (fun h8 => h9 (80) h8 (show 80 = 80 ∨ 80 = 81 ∨ 80 = 95 by decide))).trans ((fset_fr hΦ6 (fun h8 => h9 (80) h8 (show 80 = 80 ∨ 80 = 81 ∨ 80 = 95 by decide))).trans ((fset_fr hΦ5 (fun h8 => h9 (80) h8 (show 80 = 80 ∨ 80 = 81 ∨ 80 = 95 by decide))).trans ((fset_fr hΦ4 (fun h8 => h9 (80) h8 (show 80 = 80 ∨ 80 = 81 ∨ 80 = 95 by decide))).trans ((hF1 b9 (fun j9 h8 h7 => (show False from h7).elim)).trans ((fset_fr hΦ3 (fun h8 => h9 (80) h8 (show 80 = 80 ∨ 80 = 81 ∨ 80 = 95 by decide))).trans ((fset_fr hΦ2 (fun h8 => h9 (95) h8 (show 95 = 80 ∨ 95 = 81 ∨ 95 = 95 by decide))).trans ((fset_fr hΦ1 (fun h8 => h9 (81) h8 (show 81 = 80 ∨ 81 = 81 ∨ 81 = 95 by decide))).trans rfl)))))))))))))⟩

theorem fq_749 {x : Nat} : ∀ j9 : Nat, x + 81 = x + j9 → (3 ≤ j9 ∧ j9 < 24) → False := by
  intro j9 h1 h2
  omega

theorem fq_750 {x : Nat} : ∀ j9 : Nat, x + 81 = x + j9 → (j9 = 46) → False := by
  intro j9 h1 h2
  omega

theorem fq_751 {x : Nat} : ∀ j9 : Nat, x + 95 = x + j9 → (3 ≤ j9 ∧ j9 < 24) → False := by
  intro j9 h1 h2
  omega

theorem fq_752 {x : Nat} : ∀ j9 : Nat, x + 95 = x + j9 → (j9 = 46) → False := by
  intro j9 h1 h2
  omega

theorem fq_753 {x : Nat} : ∀ j9 : Nat, x + 95 = x + j9 → (74 ≤ j9 ∧ j9 < 80) → False := by
  intro j9 h1 h2
  omega

theorem fq_754 : ∀ j9 : Nat, (3 ≤ j9 ∧ j9 < 24) → ¬ (82 ≤ j9 ∧ j9 < 95) := by
  intro j9 h
  omega

theorem fq_755 : ∀ j9 : Nat, (j9 = 46) → ¬ (82 ≤ j9 ∧ j9 < 95) := by
  intro j9 h
  omega

theorem fq_756 : ∀ j9 : Nat, (3 ≤ j9 ∧ j9 < 24) → ¬ (96 ≤ j9 ∧ j9 < 121) := by
  intro j9 h
  omega

theorem fq_757 : ∀ j9 : Nat, (j9 = 46) → ¬ (96 ≤ j9 ∧ j9 < 121) := by
  intro j9 h
  omega

theorem fq_758 : ∀ j9 : Nat, (74 ≤ j9 ∧ j9 < 80) → ¬ (96 ≤ j9 ∧ j9 < 121) := by
  intro j9 h
  omega

theorem fq_759 {x : Nat} : ∀ j9 : Nat, x + 81 = x + j9 → (132 ≤ j9 ∧ j9 < 149) → False := by
  intro j9 h1 h2
  omega

theorem fq_760 {x : Nat} : ∀ j9 : Nat, x + 95 = x + j9 → (132 ≤ j9 ∧ j9 < 149) → False := by
  intro j9 h1 h2
  omega

theorem fq_761 : ∀ j9 : Nat, (132 ≤ j9 ∧ j9 < 149) → ¬ (82 ≤ j9 ∧ j9 < 95) := by
  intro j9 h
  omega

theorem fq_762 : ∀ j9 : Nat, (132 ≤ j9 ∧ j9 < 149) → ¬ (96 ≤ j9 ∧ j9 < 121) := by
  intro j9 h
  omega

set_option maxHeartbeats 4000000 in
set_option maxRecDepth 100000 in
theorem s_X11_startAnewX (G : EnvG) (l : Launch) (Φ : Hm) (sz x ca : Nat) (nw : Int32) (rt : Int32) (dw : Int32) (aq : Int32) (xp : Int32) (xb : Int32) (ob : Int64) (sm : Int64) (un : Int64) (nC : Nat) (Fs : Nat → Fl) (pp : Nat → Nat) (nT : Nat) (Ft : Nat → Fl) (pt : Nat → Nat) (t : Nat) (c : Cf) (hx : G.2.2.2 ≤ x) (hI : In G x ca Φ) (hc0 : Φ (x + 80) = some (o_ 4 [.ref (x + 3), .ref (x + 74), .ref (x + 81), .ref (x + 95), .int nw, .int rt, .int dw, .int aq, .int xp, .int xb, .long ob, .long sm, .long un])) (hc1 : Φ (x + 81) = some (o_ 6 [.ref (x + 82), .int (nI nC)])) (hc2 : Φ (x + 95) = some (o_ 6 [.ref (x + 96), .int (nI nT)])) (hcf0 : TbC G x nC 99 Fs pp Φ) (hcf1 : TbT G x nT 99 Ft pt Φ) (hcf2 : CfP G x 25 t 4 c Φ) (ht : t ≤ 4) (had : aq = 0 ∨ aq = 1) : Ct G l yX11_startAnew wsX11_startAnew ({ frames := 4, cells := 0, slots := 0, locals := 89 }) 0 0 [.ref x] Φ sz (fun v Φ1 sz1 => (∃ (s8 : Nat), v = none ∧ Φ1 (x + 80) = some (o_ 4 [.ref (x + 3), .ref (x + 74), .ref (x + 81), .ref (x + 95), .int 0, .int (c 0), .int 1, .int 0, .int 0, .int 0, .long 0, .long 0, .long 0]) ∧ Φ1 (x + 81) = some (o_ 6 [.ref (x + 82), .int (nI 0)]) ∧ Φ1 (x + 95) = some (o_ 6 [.ref (x + 96), .int (nI 0)]) ∧ CfA G x t s8 c Φ1 ∧ TbC G x 0 99 Fz pp Φ1 ∧ TbT G x 0 99 Fz pt Φ1) ∧ sz1 = sz ∧ In G x (ca) Φ1 ∧ Fr x (fun j9 => (3 ≤ j9 ∧ j9 < 24) ∨ (46 ≤ j9 ∧ j9 < 149)) Φ Φ1) := by
  refine Ct.of (cc := cX11_startAnew) (maxL := 1) (ret := none) (by decide) rfl (Nat.le_of_ble_eq_true rfl) ?_
  intro p9 e9 s9 m9 w9 t9 k9 B
  show Z p9 l e9 _ s9 m9 _ w9 t9 k9 _ G 1 0 [(0, .ref x)] [] Φ sz 0 0
  refine z_aload_n B dX11_startAnew_0 rfl 0 rfl ?_
  have h_1 := in0 (k := 0) hI rfl
  have h_2 : Φ x = some (o_ 13 [.ref (x + 1), .ref (x + 3), .ref (x + 24), .ref (x + 46), .ref (x + 74), .ref (x + 80), .ref (x + 132), .ref (x + 121)]) := h_1
  refine z_get (ref := "FlowExporter") (C := RX11) (T := TX11) (N := 8) (ci := 13) (v := .ref (x + 3)) B hu_X11_startAnew_X11 rfl 1 (Nat.le_of_ble_eq_true rfl) hv_X11_startAnew_21 rfl h_2 rfl dX11_startAnew_1 ?_
  refine z_aload_n B dX11_startAnew_4 rfl 0 rfl ?_
  refine z_get (ref := "FlowExporter") (C := RX11) (T := TX11) (N := 8) (ci := 13) (v := .ref (x + 24)) B hu_X11_startAnew_X11 rfl 2 (Nat.le_of_ble_eq_true rfl) hv_X11_startAnew_30 rfl h_2 rfl dX11_startAnew_5 ?_
  obtain ⟨v_1, v_2, v_3, v_4, v_5, v_6, h_3⟩ := in10 (k := 24) hI rfl
  have h_4 : Φ (x + 24) = some (o_ 8 [.ref (x + 25), .int v_1, .int v_2, .ref (x + 1), .int v_3, .int v_4, .int v_5, .int v_6]) := h_3
  refine z_get (ref := "FlowExporter$Parser") (C := RX6) (T := TX6) (N := 8) (ci := 8) (v := .ref (x + 25)) B hu_X11_startAnew_X6 rfl 0 (Nat.le_of_ble_eq_true rfl) hv_X11_startAnew_82 rfl h_4 rfl dX11_startAnew_8 ?_
  obtain ⟨v_7, v_8, h_5⟩ := in3 (k := 3) hI rfl
  have h_6 : Φ (x + 3) = some (o_ 3 [.ref (x + 4), .ref (x + 5), .ref (x + 6), .ref (x + 7), .int v_7, .int v_8]) := h_5
  refine z_callV (As := [.ref (x + 25)]) (rest := []) B (s_X1_copyFromF G l Φ sz x (ca) t c hx hI hcf2 (show t ≤ 4 by omega)) (cwV 1 B.1.2.2.2.2 gX11_startAnew_X1_copyFrom rfl rfl rfl (by decide +kernel) ⟨Nat.le_of_ble_eq_true rfl, Nat.le_of_ble_eq_true rfl⟩) h_6 rfl rfl rfl rfl (Nat.le_of_ble_eq_true rfl) dX11_startAnew_11 ⟨Nat.le_of_ble_eq_true rfl, Nat.le_of_ble_eq_true rfl⟩ (fun r_1 Φ1 sz1 st1 hp1 hs1 => ?_)
  obtain ⟨⟨rfl, hcg1, hcg2, s_1, b_1, e_1, hE1⟩, hq1, hI1, hF1⟩ := hp1
  subst sz1
  replace hs1 : st1 = [] := hs1
  subst st1
  replace hI1 : In G x (ca) Φ1 := hI1
  have hcg3 : CfA G x t s_1 c Φ1 := ⟨hcg1, ⟨b_1, e_1⟩, hE1⟩
  refine z_aload_n B dX11_startAnew_14 rfl 0 rfl ?_
  have h_7 : Φ1 x = some (o_ 13 [.ref (x + 1), .ref (x + 3), .ref (x + 24), .ref (x + 46), .ref (x + 74), .ref (x + 80), .ref (x + 132), .ref (x + 121)]) := ((hF1 x fq_386).trans h_2)
  refine z_get (ref := "FlowExporter") (C := RX11) (T := TX11) (N := 8) (ci := 13) (v := .ref (x + 46)) B hu_X11_startAnew_X11 rfl 3 (Nat.le_of_ble_eq_true rfl) hv_X11_startAnew_37 rfl h_7 rfl dX11_startAnew_15 ?_
  obtain ⟨n_1, v_9, h_8, b_2⟩ := in11 (k := 46) hI1 rfl
  have h_9 : Φ1 (x + 46) = some (o_ 9 [.ref (x + 47), .int (nI n_1), .int v_9]) := h_8
  refine z_callV (As := []) (rest := []) B (s_X7_clear G l Φ1 sz x (ca)  hx hI1 ) (cwV 0 B.1.2.2.2.2 gX11_startAnew_X7_clear rfl rfl rfl (by decide +kernel) ⟨Nat.le_of_ble_eq_true rfl, Nat.le_of_ble_eq_true rfl⟩) h_9 rfl rfl rfl rfl (Nat.le_of_ble_eq_true rfl) dX11_startAnew_18 ⟨Nat.le_of_ble_eq_true rfl, Nat.le_of_ble_eq_true rfl⟩ (fun r_2 Φ2 sz2 st2 hp2 hs2 => ?_)
  obtain ⟨rfl, hq2, hI2, hF2⟩ := hp2
  subst sz2
  replace hs2 : st2 = [] := hs2
  subst st2
  replace hI2 : In G x (ca) Φ2 := hI2
  refine z_aload_n B dX11_startAnew_21 rfl 0 rfl ?_
  have h_10 : Φ2 x = some (o_ 13 [.ref (x + 1), .ref (x + 3), .ref (x + 24), .ref (x + 46), .ref (x + 74), .ref (x + 80), .ref (x + 132), .ref (x + 121)]) := ((hF2 x fq_388).trans h_7)
  refine z_get (ref := "FlowExporter") (C := RX11) (T := TX11) (N := 8) (ci := 13) (v := .ref (x + 74)) B hu_X11_startAnew_X11 rfl 4 (Nat.le_of_ble_eq_true rfl) hv_X11_startAnew_46 rfl h_10 rfl dX11_startAnew_22 ?_
  obtain ⟨n_2, v_10, v_11, v_12, h_11, b_3⟩ := in13 (k := 74) hI2 rfl
  have h_12 : Φ2 (x + 74) = some (o_ 10 [.ref (x + 3), .ref (x + 46), .ref (x + 75), .ref (x + 77), .int (nI n_2), .ref (x + 78), .ref (x + 79), .int v_10, .long v_11, .int v_12]) := h_11
  refine z_callV (As := []) (rest := []) B (s_X8_clear G l Φ2 sz x (ca)  hx hI2 ) (cwV 0 B.1.2.2.2.2 gX11_startAnew_X8_clear rfl rfl rfl (by decide +kernel) ⟨Nat.le_of_ble_eq_true rfl, Nat.le_of_ble_eq_true rfl⟩) h_12 rfl rfl rfl rfl (Nat.le_of_ble_eq_true rfl) dX11_startAnew_25 ⟨Nat.le_of_ble_eq_true rfl, Nat.le_of_ble_eq_true rfl⟩ (fun r_3 Φ3 sz3 st3 hp3 hs3 => ?_)
  obtain ⟨rfl, hq3, hI3, hF3⟩ := hp3
  subst sz3
  replace hs3 : st3 = [] := hs3
  subst st3
  replace hI3 : In G x (ca) Φ3 := hI3
  refine z_aload_n B dX11_startAnew_28 rfl 0 rfl ?_
  have h_13 : Φ3 x = some (o_ 13 [.ref (x + 1), .ref (x + 3), .ref (x + 24), .ref (x + 46), .ref (x + 74), .ref (x + 80), .ref (x + 132), .ref (x + 121)]) := ((hF3 x fq_390).trans h_10)
  refine z_get (ref := "FlowExporter") (C := RX11) (T := TX11) (N := 8) (ci := 13) (v := .ref (x + 80)) B hu_X11_startAnew_X11 rfl 5 (Nat.le_of_ble_eq_true rfl) hv_X11_startAnew_55 rfl h_13 rfl dX11_startAnew_29 ?_
  have h_14 : Φ3 (x + 80) = some (o_ 4 [.ref (x + 3), .ref (x + 74), .ref (x + 81), .ref (x + 95), .int nw, .int rt, .int dw, .int aq, .int xp, .int xb, .long ob, .long sm, .long un]) := ((hF3 (x + 80) fq_394).trans ((hF2 (x + 80) fq_393).trans ((hF1 (x + 80) fq_392).trans hc0)))
  have h_15 : Φ3 (x + 81) = some (o_ 6 [.ref (x + 82), .int (nI nC)]) := ((hF3 (x + 81) fq_740).trans ((hF2 (x + 81) fq_750).trans ((hF1 (x + 81) fq_749).trans hc1)))
  have h_16 : Φ3 (x + 95) = some (o_ 6 [.ref (x + 96), .int (nI nT)]) := ((hF3 (x + 95) fq_753).trans ((hF2 (x + 95) fq_752).trans ((hF1 (x + 95) fq_751).trans hc2)))
  have hcg4 : TbC G x nC 99 Fs pp Φ3 := (TbC.fr (TbC.fr (TbC.fr hcf0 hF1 (fun j9 h7 => fq_754 j9 h7)) hF2 (fun j9 h7 => fq_755 j9 h7)) hF3 (fun j9 h7 => fq_741 j9 h7))
  have hcg5 : TbT G x nT 99 Ft pt Φ3 := (TbT.fr (TbT.fr (TbT.fr hcf1 hF1 (fun j9 h7 => fq_756 j9 h7)) hF2 (fun j9 h7 => fq_757 j9 h7)) hF3 (fun j9 h7 => fq_758 j9 h7))
  have hcg6 : CfA G x t s_1 c Φ3 := (CfA.fr (CfA.fr hcg3 hF2 (fun j9 h7 => by have h6 : j9 = 46 := h7; intros; omega)) hF3 (fun j9 h7 => by have h6 : 74 ≤ j9 ∧ j9 < 80 := h7; intros; omega))
  refine z_callV (As := []) (rest := []) B (s_X2_clearX G l Φ3 sz x (ca) nw rt dw aq xp xb ob sm un nC Fs pp nT Ft pt t s_1 c hx hI3 h_14 h_15 h_16 hcg4 hcg5 hcg6 had) (cwV 0 B.1.2.2.2.2 gX11_startAnew_X2_clear rfl rfl rfl (by decide +kernel) ⟨Nat.le_of_ble_eq_true rfl, Nat.le_of_ble_eq_true rfl⟩) h_14 rfl rfl rfl rfl (Nat.le_of_ble_eq_true rfl) dX11_startAnew_32 ⟨Nat.le_of_ble_eq_true rfl, Nat.le_of_ble_eq_true rfl⟩ (fun r_4 Φ4 sz4 st4 hp4 hs4 => ?_)
  obtain ⟨⟨rfl, h_17, h_18, h_19, hcg7, hcg8⟩, hq4, hI4, hF4⟩ := hp4
  subst sz4
  replace hs4 : st4 = [] := hs4
  subst st4
  replace hI4 : In G x (ca) Φ4 := hI4
  refine z_aload_n B dX11_startAnew_35 rfl 0 rfl ?_
  have h_20 : Φ4 x = some (o_ 13 [.ref (x + 1), .ref (x + 3), .ref (x + 24), .ref (x + 46), .ref (x + 74), .ref (x + 80), .ref (x + 132), .ref (x + 121)]) := ((hF4 x fq_395).trans h_13)
  refine z_get (ref := "FlowExporter") (C := RX11) (T := TX11) (N := 8) (ci := 13) (v := .ref (x + 121)) B hu_X11_startAnew_X11 rfl 7 (Nat.le_of_ble_eq_true rfl) hv_X11_startAnew_62 rfl h_20 rfl dX11_startAnew_36 ?_
  refine z_iconst (v := 0) B dX11_startAnew_39 rfl ?_
  obtain ⟨n_3, h_21, b_4⟩ := in20 (k := 121) hI4 rfl
  have h_22 : Φ4 (x + 121) = some (o_ 11 [.ref (x + 122), .ref (x + 123), .ref (x + 126), .ref (x + 129), .int (nI n_3)]) := h_21
  refine z_put (ref := "FlowExporter$Sums") (C := RX9) (T := TX9) (N := 5) (ci := 11) (v := .int 0) B hu_X11_startAnew_X9 tyX9 tyX9_ok nmX9 rfl 4 (Nat.le_of_ble_eq_true rfl) hv_X11_startAnew_92 rfl (Or.inl rfl) h_22 (Nat.le_trans hx (Nat.le_add_right x 121)) rfl rfl (Nat.le_of_ble_eq_true rfl) dX11_startAnew_40 (fun Φ5 hΦ1 => ?_)
  have h_23 : Φ5 (x + 121) = some (o_ 11 [.ref (x + 122), .ref (x + 123), .ref (x + 126), .ref (x + 129), .int 0]) := fset_at hΦ1
  have hI5 : In G x (ca) Φ5 := In.put (k := 121) hI4 hΦ1 (ok20 (k := 121) rfl ⟨0, rfl, (show 0 ≤ 24 by omega)⟩)
  refine z_aload_n B dX11_startAnew_43 rfl 0 rfl ?_
  have h_24 : Φ5 x = some (o_ 13 [.ref (x + 1), .ref (x + 3), .ref (x + 24), .ref (x + 46), .ref (x + 74), .ref (x + 80), .ref (x + 132), .ref (x + 121)]) := ((fset_fr hΦ1 (ne_off (x := x) (i := 0) (j := 121) rfl)).trans h_20)
  refine z_get (ref := "FlowExporter") (C := RX11) (T := TX11) (N := 8) (ci := 13) (v := .ref (x + 132)) B hu_X11_startAnew_X11 rfl 6 (Nat.le_of_ble_eq_true rfl) hv_X11_startAnew_71 rfl h_24 rfl dX11_startAnew_44 ?_
  obtain ⟨n_4, v_13, v_14, h_25, b_5⟩ := in25 (k := 132) hI5 rfl
  have h_26 : Φ5 (x + 132) = some (o_ 2 [.ref (x + 3), .ref (x + 121), .ref (x + 133), .ref (x + 134), .ref (x + 135), .ref (x + 137), .ref (x + 138), .ref (x + 139), .ref (x + 140), .int (nI n_4), .int v_13, .int v_14]) := h_25
  refine z_callV (As := []) (rest := []) B (s_X0_clear G l Φ5 sz x (ca)  hx hI5 ) (cwV 0 B.1.2.2.2.2 gX11_startAnew_X0_clear rfl rfl rfl (by decide +kernel) ⟨Nat.le_of_ble_eq_true rfl, Nat.le_of_ble_eq_true rfl⟩) h_26 rfl rfl rfl rfl (Nat.le_of_ble_eq_true rfl) dX11_startAnew_47 ⟨Nat.le_of_ble_eq_true rfl, Nat.le_of_ble_eq_true rfl⟩ (fun r_5 Φ6 sz5 st5 hp5 hs5 => ?_)
  obtain ⟨rfl, hq5, hI6, hF5⟩ := hp5
  subst sz5
  replace hs5 : st5 = [] := hs5
  subst st5
  replace hI6 : In G x (ca) Φ6 := hI6
  have hcg9 : CfA G x t s_1 c Φ6 := (CfA.fr (CfA.off (k := 121) (CfA.fr hcg6 hF4 (fun j9 h7 => by have h6 : j9 = 80 ∨ j9 = 81 ∨ j9 = 95 := h7; intros; omega)) hΦ1 (by intros; omega)) hF5 (fun j9 h7 => by have h6 : 132 ≤ j9 ∧ j9 < 149 := h7; intros; omega))
  have h_27 : Φ6 (x + 80) = some (o_ 4 [.ref (x + 3), .ref (x + 74), .ref (x + 81), .ref (x + 95), .int 0, .int (c 0), .int 1, .int 0, .int 0, .int 0, .long 0, .long 0, .long 0]) := ((hF5 (x + 80) fq_400).trans ((fset_fr hΦ1 (ne_off (x := x) (i := 80) (j := 121) rfl)).trans h_17))
  have h_28 : Φ6 (x + 81) = some (o_ 6 [.ref (x + 82), .int (nI 0)]) := ((hF5 (x + 81) fq_759).trans ((fset_fr hΦ1 (ne_off (x := x) (i := 81) (j := 121) rfl)).trans h_18))
  have h_29 : Φ6 (x + 95) = some (o_ 6 [.ref (x + 96), .int (nI 0)]) := ((hF5 (x + 95) fq_760).trans ((fset_fr hΦ1 (ne_off (x := x) (i := 95) (j := 121) rfl)).trans h_19))
  have hcg10 : TbC G x 0 99 Fz pp Φ6 := (TbC.fr (TbC.off (k := 121) hcg7 hΦ1 (by omega)) hF5 (fun j9 h7 => fq_761 j9 h7))
  have hcg11 : TbT G x 0 99 Fz pt Φ6 := (TbT.fr (TbT.off (k := 121) hcg8 hΦ1 (by omega)) hF5 (fun j9 h7 => fq_762 j9 h7))
  exact z_ret_v B dX11_startAnew_50 ⟨⟨s_1, rfl, h_27, h_28, h_29, hcg9, hcg10, hcg11⟩, rfl, hI6, (fun b9 h9 => ((hF5 b9 (fun j9 h8 h7 => h9 j9 h8 (fq_405 j9 h7))).trans ((fset_fr hΦ1 (fun h8 => h9 (121) h8 (show (3 ≤ 121 ∧ 121 < 24) ∨ (46 ≤ 121 ∧ 121 < 149) by decide))).trans ((hF4 b9 (fun j9 h8 h7 => h9 j9 h8 (fq_404 j9 h7))).trans ((hF3 b9 (fun j9 h8 h7 => h9 j9 h8 (fq_403 j9 h7))).trans ((hF2 b9 (fun j9 h8 h7 => h9 j9 h8 (fq_402 j9 h7))).trans ((hF1 b9 (fun j9 h8 h7 => h9 j9 h8 (fq_401 j9 h7))).trans rfl)))))))⟩

theorem fq_763 {x : Nat} : ∀ j9 : Nat, x + 81 = x + j9 → (24 ≤ j9 ∧ j9 < 46) → False := by
  intro j9 h1 h2
  omega

theorem fq_764 {x : Nat} : ∀ j9 : Nat, x + 95 = x + j9 → (24 ≤ j9 ∧ j9 < 46) → False := by
  intro j9 h1 h2
  omega

theorem fq_765 : ∀ j9 : Nat, (24 ≤ j9 ∧ j9 < 46) → ¬ (82 ≤ j9 ∧ j9 < 95) := by
  intro j9 h
  omega

theorem fq_766 : ∀ j9 : Nat, (24 ≤ j9 ∧ j9 < 46) → ¬ (96 ≤ j9 ∧ j9 < 121) := by
  intro j9 h
  omega

set_option maxHeartbeats 4000000 in
set_option maxRecDepth 100000 in
theorem s_X11_loadX (G : EnvG) (l : Launch) (Φ : Hm) (sz x ca : Nat) (n : Nat) (f : Nat → Int32) (co : Int32) (po : Int32) (nx : Nat) (ki : Nat) (sa : Nat) (nu : Nat) (nw : Int32) (rt : Int32) (dw : Int32) (aq : Int32) (xp : Int32) (xb : Int32) (ob : Int64) (sm : Int64) (un : Int64) (nC : Nat) (Fs : Nat → Fl) (pp : Nat → Nat) (nT : Nat) (Ft : Nat → Fl) (pt : Nat → Nat) (t : Nat) (s : Nat) (c : Cf) (hx : G.2.2.2 ≤ x) (hI : In G x ca Φ) (hc0 : Φ (x + 1) = some (o_ 7 [.ref (x + 2), .int (nI n)])) (hc1 : Φ (x + 2) = some (ab_ G 700 f)) (hc2 : Φ (x + 24) = some (o_ 8 [.ref (x + 25), .int co, .int po, .ref (x + 1), .int (nI nx), .int (nI ki), .int (nI sa), .int (nI nu)])) (hc3 : Φ (x + 80) = some (o_ 4 [.ref (x + 3), .ref (x + 74), .ref (x + 81), .ref (x + 95), .int nw, .int rt, .int dw, .int aq, .int xp, .int xb, .long ob, .long sm, .long un])) (hc4 : Φ (x + 81) = some (o_ 6 [.ref (x + 82), .int (nI nC)])) (hc5 : Φ (x + 95) = some (o_ 6 [.ref (x + 96), .int (nI nT)])) (hcf0 : TbC G x nC 99 Fs pp Φ) (hcf1 : TbT G x nT 99 Ft pt Φ) (hcf2 : CfA G x t s c Φ) (hn : n ≤ 700) (hnC : nC ≤ 12) (hnT : nT ≤ 24) (had : aq = 0 ∨ aq = 1) : Ct G l yX11_load wsX11_load ({ frames := 9, cells := 0, slots := 0, locals := 198 }) 0 0 [.ref x] Φ sz (fun v Φ1 sz1 => (∃ (co8 po8 : Int32) (nx8 ki8 sa8 nu8 : Nat) (nw8 rt8 dw8 aq8 xp8 xb8 : Int32) (ob8 sm8 un8 : Int64) (t8 s8 : Nat) (c8 : Cf) (n8 : Nat) (F8 : Nat → Fl) (p8 : Nat → Nat) (m8 : Nat) (G8 : Nat → Fl) (q8 : Nat → Nat), Φ1 (x + 24) = some (o_ 8 [.ref (x + 25), .int co8, .int po8, .ref (x + 1), .int (nI nx8), .int (nI ki8), .int (nI sa8), .int (nI nu8)]) ∧ Φ1 (x + 1) = some (o_ 7 [.ref (x + 2), .int (nI 0)]) ∧ Φ1 (x + 80) = some (o_ 4 [.ref (x + 3), .ref (x + 74), .ref (x + 81), .ref (x + 95), .int nw8, .int rt8, .int dw8, .int aq8, .int xp8, .int xb8, .long ob8, .long sm8, .long un8]) ∧ LdW (bA f n) v co8 po8 nw aq ob nw8 aq8 ob8 ∧ CfA G x t8 s8 c8 Φ1 ∧ CfL (bA f n) c c8 ∧ Φ1 (x + 81) = some (o_ 6 [.ref (x + 82), .int (nI n8)]) ∧ Φ1 (x + 95) = some (o_ 6 [.ref (x + 96), .int (nI m8)]) ∧ TbC G x n8 99 F8 p8 Φ1 ∧ TbT G x m8 99 G8 q8 Φ1 ∧ LdX (bA f n) ((nC, Fs), (nT, Ft), rt, dw, xp - xb, sm, un) c8 ((n8, F8), (m8, G8), rt8, dw8, xp8 - xb8, sm8, un8) ∧ n8 ≤ 12 ∧ m8 ≤ 24) ∧ sz1 = sz ∧ In G x (ca) Φ1 ∧ Fr x (fun j9 => 1 ≤ j9 ∧ ¬ j9 = 2 ∧ j9 < 149) Φ Φ1) := by
  refine Ct.of (cc := cX11_load) (maxL := 2) (ret := (some .int)) (by decide) rfl (Nat.le_of_ble_eq_true rfl) ?_
  intro p9 e9 s9 m9 w9 t9 k9 B
  show Z p9 l e9 _ s9 m9 _ w9 t9 k9 _ G 2 0 [(0, .ref x)] [] Φ sz 0 0
  refine z_aload_n B dX11_load_0 rfl 0 rfl ?_
  have h_1 := in0 (k := 0) hI rfl
  have h_2 : Φ x = some (o_ 13 [.ref (x + 1), .ref (x + 3), .ref (x + 24), .ref (x + 46), .ref (x + 74), .ref (x + 80), .ref (x + 132), .ref (x + 121)]) := h_1
  refine z_get (ref := "FlowExporter") (C := RX11) (T := TX11) (N := 8) (ci := 13) (v := .ref (x + 24)) B hu_X11_load_X11 rfl 2 (Nat.le_of_ble_eq_true rfl) hv_X11_load_30 rfl h_2 rfl dX11_load_1 ?_
  refine z_callV (As := []) (rest := []) B (s_X6_readText G l Φ sz x (ca) n f co po nx ki sa nu hx hI hc0 hc1 hc2 (show n ≤ 700 by omega)) (cwV 0 B.1.2.2.2.2 gX11_load_X6_readText rfl rfl rfl (by decide +kernel) ⟨Nat.le_of_ble_eq_true rfl, Nat.le_of_ble_eq_true rfl⟩) hc2 rfl rfl rfl rfl (Nat.le_of_ble_eq_true rfl) dX11_load_4 ⟨Nat.le_of_ble_eq_true rfl, Nat.le_of_ble_eq_true rfl⟩ (fun r_1 Φ1 sz1 st1 hp1 hs1 => ?_)
  obtain ⟨ha1, hq1, hI1, hF1⟩ := hp1
  subst sz1
  replace hI1 : In G x (ca) Φ1 := hI1
  rcases ha1 with ⟨m_1, e_1, k_1, s_1, u_1, q_1, t_1, c_1, rfl, hN1, h_3, b_1, hcg1⟩ | ⟨er_1, s_2, e_2, k_2, u_2, m_2, c_2, rfl, hN2, he1, h_4⟩
  · replace b_1 : m_1 ≤ 700 := b_1
    replace hs1 : st1 = [.int (nI m_1)] := hs1
    subst st1
    refine z_istore_n (lv' := [(1, .int (nI m_1)), (0, .ref x)]) B dX11_load_7 rfl (Nat.le_of_ble_eq_true rfl) rfl ?_
    refine z_aload_n B dX11_load_8 rfl 1 rfl ?_
    have h_5 : Φ1 x = some (o_ 13 [.ref (x + 1), .ref (x + 3), .ref (x + 24), .ref (x + 46), .ref (x + 74), .ref (x + 80), .ref (x + 132), .ref (x + 121)]) := ((hF1 x fq_622).trans h_2)
    refine z_get (ref := "FlowExporter") (C := RX11) (T := TX11) (N := 8) (ci := 13) (v := .ref (x + 1)) B hu_X11_load_X11 rfl 0 (Nat.le_of_ble_eq_true rfl) hv_X11_load_14 rfl h_5 rfl dX11_load_9 ?_
    refine z_iconst (v := 0) B dX11_load_12 rfl ?_
    have h_6 : Φ1 (x + 1) = some (o_ 7 [.ref (x + 2), .int (nI n)]) := ((hF1 (x + 1) fq_575).trans hc0)
    refine z_put (ref := "FlowExporter$Message") (C := RX5) (T := TX5) (N := 2) (ci := 7) (v := .int 0) B hu_X11_load_X5 tyX5 tyX5_ok nmX5 rfl 1 (Nat.le_of_ble_eq_true rfl) hv_X11_load_97 rfl (Or.inl rfl) h_6 (Nat.le_trans hx (Nat.le_add_right x 1)) rfl rfl (Nat.le_of_ble_eq_true rfl) dX11_load_13 (fun Φ2 hΦ1 => ?_)
    have h_7 : Φ2 (x + 1) = some (o_ 7 [.ref (x + 2), .int 0]) := fset_at hΦ1
    have hI2 : In G x (ca) Φ2 := In.put (k := 1) hI1 hΦ1 (ok1 (k := 1) rfl ⟨0, rfl, (show 0 ≤ 700 by omega)⟩)
    refine z_iload_n B dX11_load_16 rfl 0 rfl ?_
    refine z_if_lt (tgt := 24) B dX11_load_17 rfl (fun c_3 => ?_) (fun c_3 => ?_)
    · have e_3 : m_1 < 0 := (nI_ltI (a := m_1) (b := 0) (by omega) (by omega)).mp c_3
      refine z_iload_n B dX11_load_24 rfl 0 rfl ?_
      have h_8 : Φ2 (x + 24) = some (o_ 8 [.ref (x + 25), .int 0, .int (-1), .ref (x + 1), .int (nI e_1), .int (nI k_1), .int (nI s_1), .int (nI u_1)]) := ((fset_fr hΦ1 (ne_off (x := x) (i := 24) (j := 1) rfl)).trans h_3)
      have h_9 : Φ2 (x + 80) = some (o_ 4 [.ref (x + 3), .ref (x + 74), .ref (x + 81), .ref (x + 95), .int nw, .int rt, .int dw, .int aq, .int xp, .int xb, .long ob, .long sm, .long un]) := ((fset_fr hΦ1 (ne_off (x := x) (i := 80) (j := 1) rfl)).trans ((hF1 (x + 80) fq_626).trans hc3))
      exact z_ret_i B dX11_load_25 ⟨((show False by omega).elim), rfl, hI2, (fun b9 h9 => ((fset_fr hΦ1 (fun h8 => h9 (1) h8 (show 1 ≤ 1 ∧ ¬ 1 = 2 ∧ 1 < 149 by decide))).trans ((hF1 b9 (fun j9 h8 h7 => h9 j9 h8 (fq_627 j9 h7))).trans rfl)))⟩
    · have e_4 : ¬ (m_1 < 0) := fun h9 => c_3 ((nI_ltI (a := m_1) (b := 0) (by omega) (by omega)).mpr h9)
      refine z_aload_n B dX11_load_20 rfl 1 rfl ?_
      have hcg2 : CfP G x 25 t_1 4 (finC c_1) Φ2 := (CfP.off (k := 1) hcg1 hΦ1 (by intros; omega))
      have b_2 := hcg2.2.1
      have h_10 : Φ2 (x + 80) = some (o_ 4 [.ref (x + 3), .ref (x + 74), .ref (x + 81), .ref (x + 95), .int nw, .int rt, .int dw, .int aq, .int xp, .int xb, .long ob, .long sm, .long un]) := ((fset_fr hΦ1 (ne_off (x := x) (i := 80) (j := 1) rfl)).trans ((hF1 (x + 80) fq_626).trans hc3))
      have h_11 : Φ2 (x + 81) = some (o_ 6 [.ref (x + 82), .int (nI nC)]) := ((fset_fr hΦ1 (ne_off (x := x) (i := 81) (j := 1) rfl)).trans ((hF1 (x + 81) fq_763).trans hc4))
      have h_12 : Φ2 (x + 95) = some (o_ 6 [.ref (x + 96), .int (nI nT)]) := ((fset_fr hΦ1 (ne_off (x := x) (i := 95) (j := 1) rfl)).trans ((hF1 (x + 95) fq_764).trans hc5))
      have hcg3 : TbC G x nC 99 Fs pp Φ2 := (TbC.off (k := 1) (TbC.fr hcf0 hF1 (fun j9 h7 => fq_765 j9 h7)) hΦ1 (by omega))
      have hcg4 : TbT G x nT 99 Ft pt Φ2 := (TbT.off (k := 1) (TbT.fr hcf1 hF1 (fun j9 h7 => fq_766 j9 h7)) hΦ1 (by omega))
      have h_13 : Φ2 x = some (o_ 13 [.ref (x + 1), .ref (x + 3), .ref (x + 24), .ref (x + 46), .ref (x + 74), .ref (x + 80), .ref (x + 132), .ref (x + 121)]) := ((fset_fr hΦ1 (ne_off (x := x) (i := 0) (j := 1) rfl)).trans h_5)
      refine z_callV (As := []) (rest := []) B (s_X11_startAnewX G l Φ2 sz x (ca) nw rt dw aq xp xb ob sm un nC Fs pp nT Ft pt t_1 (finC c_1) hx hI2 h_10 h_11 h_12 hcg3 hcg4 hcg2 (show t_1 ≤ 4 by omega) had) (cwV 0 B.1.2.2.2.2 gX11_load_X11_startAnew rfl rfl rfl (by decide +kernel) ⟨Nat.le_of_ble_eq_true rfl, Nat.le_of_ble_eq_true rfl⟩) h_13 rfl rfl rfl rfl (Nat.le_of_ble_eq_true rfl) dX11_load_21 ⟨Nat.le_of_ble_eq_true rfl, Nat.le_of_ble_eq_true rfl⟩ (fun r_2 Φ3 sz2 st2 hp2 hs2 => ?_)
      obtain ⟨⟨n_1, rfl, h_14, h_15, h_16, hcg5, hcg6, hcg7⟩, hq2, hI3, hF2⟩ := hp2
      subst sz2
      replace hs2 : st2 = [] := hs2
      subst st2
      replace hI3 : In G x (ca) Φ3 := hI3
      refine z_iload_n B dX11_load_24 rfl 0 rfl ?_
      have h_17 : Φ3 (x + 24) = some (o_ 8 [.ref (x + 25), .int 0, .int (-1), .ref (x + 1), .int (nI e_1), .int (nI k_1), .int (nI s_1), .int (nI u_1)]) := ((hF2 (x + 24) fq_628).trans ((fset_fr hΦ1 (ne_off (x := x) (i := 24) (j := 1) rfl)).trans h_3))
      have h_18 : Φ3 (x + 1) = some (o_ 7 [.ref (x + 2), .int 0]) := ((hF2 (x + 1) fq_629).trans h_7)
      exact z_ret_i B dX11_load_25 ⟨⟨0, (-1), e_1, k_1, s_1, u_1, 0, (finC c_1) 0, 1, 0, 0, 0, 0, 0, 0, t_1, n_1, finC c_1, 0, Fz, pp, 0, Fz, pt, h_17, (h_18.trans (congrArg (fun w9 : Nat => some (o_ 7 [.ref (x + 2), .int (nI w9)])) (show 0 = 0 by omega))), h_14, Or.inl ⟨_, _, _, rfl, hN1, rfl, rfl, rfl, rfl, rfl⟩, hcg5, Or.inl ⟨_, _, _, hN1, rfl⟩, h_15, h_16, hcg6, hcg7, Or.inl ⟨_, _, _, hN1, rfl⟩, by omega, by omega⟩, rfl, hI3, (fun b9 h9 => ((hF2 b9 (fun j9 h8 h7 => h9 j9 h8 (fq_630 j9 h7))).trans ((fset_fr hΦ1 (fun h8 => h9 (1) h8 (show 1 ≤ 1 ∧ ¬ 1 = 2 ∧ 1 < 149 by decide))).trans ((hF1 b9 (fun j9 h8 h7 => h9 j9 h8 (fq_627 j9 h7))).trans rfl))))⟩
  · replace hs1 : st1 = [.int (-2)] := hs1
    subst st1
    refine z_istore_n (lv' := [(1, .int (-2)), (0, .ref x)]) B dX11_load_7 rfl (Nat.le_of_ble_eq_true rfl) rfl ?_
    refine z_aload_n B dX11_load_8 rfl 1 rfl ?_
    have h_19 : Φ1 x = some (o_ 13 [.ref (x + 1), .ref (x + 3), .ref (x + 24), .ref (x + 46), .ref (x + 74), .ref (x + 80), .ref (x + 132), .ref (x + 121)]) := ((hF1 x fq_622).trans h_2)
    refine z_get (ref := "FlowExporter") (C := RX11) (T := TX11) (N := 8) (ci := 13) (v := .ref (x + 1)) B hu_X11_load_X11 rfl 0 (Nat.le_of_ble_eq_true rfl) hv_X11_load_14 rfl h_19 rfl dX11_load_9 ?_
    refine z_iconst (v := 0) B dX11_load_12 rfl ?_
    have h_20 : Φ1 (x + 1) = some (o_ 7 [.ref (x + 2), .int (nI n)]) := ((hF1 (x + 1) fq_575).trans hc0)
    refine z_put (ref := "FlowExporter$Message") (C := RX5) (T := TX5) (N := 2) (ci := 7) (v := .int 0) B hu_X11_load_X5 tyX5 tyX5_ok nmX5 rfl 1 (Nat.le_of_ble_eq_true rfl) hv_X11_load_97 rfl (Or.inl rfl) h_20 (Nat.le_trans hx (Nat.le_add_right x 1)) rfl rfl (Nat.le_of_ble_eq_true rfl) dX11_load_13 (fun Φ4 hΦ2 => ?_)
    have h_21 : Φ4 (x + 1) = some (o_ 7 [.ref (x + 2), .int 0]) := fset_at hΦ2
    have hI4 : In G x (ca) Φ4 := In.put (k := 1) hI1 hΦ2 (ok1 (k := 1) rfl ⟨0, rfl, (show 0 ≤ 700 by omega)⟩)
    refine z_iload_n B dX11_load_16 rfl 0 rfl ?_
    refine z_if_lt (tgt := 24) B dX11_load_17 rfl (fun c_4 => ?_) (fun h9 => absurd (by decide) h9)
    refine z_iload_n B dX11_load_24 rfl 0 rfl ?_
    have h_22 : Φ4 (x + 24) = some (o_ 8 [.ref (x + 25), .int (nI er_1), .int (nI s_2), .ref (x + 1), .int (nI e_2), .int (nI k_2), .int (nI s_2), .int (nI u_2)]) := ((fset_fr hΦ2 (ne_off (x := x) (i := 24) (j := 1) rfl)).trans h_4)
    have h_23 : Φ4 (x + 80) = some (o_ 4 [.ref (x + 3), .ref (x + 74), .ref (x + 81), .ref (x + 95), .int nw, .int rt, .int dw, .int aq, .int xp, .int xb, .long ob, .long sm, .long un]) := ((fset_fr hΦ2 (ne_off (x := x) (i := 80) (j := 1) rfl)).trans ((hF1 (x + 80) fq_626).trans hc3))
    have hcg8 : CfA G x t s c Φ4 := (CfA.off (k := 1) (CfA.fr hcf2 hF1 (fun j9 h7 => by have h6 : 24 ≤ j9 ∧ j9 < 46 := h7; intros; omega)) hΦ2 (by intros; omega))
    have hcg9 : TbC G x nC 99 Fs pp Φ4 := (TbC.off (k := 1) (TbC.fr hcf0 hF1 (fun j9 h7 => fq_765 j9 h7)) hΦ2 (by omega))
    have hcg10 : TbT G x nT 99 Ft pt Φ4 := (TbT.off (k := 1) (TbT.fr hcf1 hF1 (fun j9 h7 => fq_766 j9 h7)) hΦ2 (by omega))
    have h_24 : Φ4 (x + 81) = some (o_ 6 [.ref (x + 82), .int (nI nC)]) := ((fset_fr hΦ2 (ne_off (x := x) (i := 81) (j := 1) rfl)).trans ((hF1 (x + 81) fq_763).trans hc4))
    have h_25 : Φ4 (x + 95) = some (o_ 6 [.ref (x + 96), .int (nI nT)]) := ((fset_fr hΦ2 (ne_off (x := x) (i := 95) (j := 1) rfl)).trans ((hF1 (x + 95) fq_764).trans hc5))
    exact z_ret_i B dX11_load_25 ⟨⟨nI er_1, nI s_2, e_2, k_2, s_2, u_2, nw, rt, dw, aq, xp, xb, ob, sm, un, t, s, c, nC, Fs, pp, nT, Ft, pt, h_22, (h_21.trans (congrArg (fun w9 : Nat => some (o_ 7 [.ref (x + 2), .int (nI w9)])) (show 0 = 0 by omega))), h_23, Or.inr ⟨_, _, _, _, rfl, hN2, he1, rfl, rfl, rfl, rfl, rfl⟩, hcg8, Or.inr ⟨_, _, _, _, hN2, he1, rfl⟩, h_24, h_25, hcg9, hcg10, Or.inr ⟨_, _, _, _, hN2, he1, rfl⟩, by omega, by omega⟩, rfl, hI4, (fun b9 h9 => ((fset_fr hΦ2 (fun h8 => h9 (1) h8 (show 1 ≤ 1 ∧ ¬ 1 = 2 ∧ 1 < 149 by decide))).trans ((hF1 b9 (fun j9 h8 h7 => h9 j9 h8 (fq_627 j9 h7))).trans rfl)))⟩

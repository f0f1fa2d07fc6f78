set_option maxHeartbeats 4000000 in
set_option maxRecDepth 100000 in
theorem s_X11_deliverAllX (G : EnvG) (l : Launch) (Φ : Hm) (sz x ca : Nat) (qn : Nat) (qL : Nat → Nat) (qd : Int32) (qp : Nat → Nat) (hx : G.2.2.2 ≤ x) (hI : In G x ca Φ) (hcf0 : QbR G x qn qL qd qp Φ) (hca : ca < 900000) : Ct G l yX11_deliverAll wsX11_deliverAll ({ frames := 6, cells := 0, slots := 0, locals := 156 }) 0 0 [.ref x] Φ sz (fun v Φ1 sz1 => (∃ L9 p9 : Nat → Nat, (∃ r9 : Int32, v = some (.int r9)) ∧ QbR G x 0 L9 qd p9 Φ1) ∧ sz1 = sz ∧ In G x (ca + 12) Φ1 ∧ Fr x (fun j9 => j9 = 46 ∨ (j9 = 47 ∨ (121 ≤ j9 ∧ j9 < 149))) Φ Φ1) := by
  refine Ct.of (cc := cX11_deliverAll) (maxL := 3) (ret := (some .int)) (by decide) rfl (Nat.le_of_ble_eq_true rfl) ?_
  intro p9 e9 s9 m9 w9 t9 k9 B
  show Z p9 l e9 _ s9 m9 _ w9 t9 k9 _ G 3 0 [(0, .ref x)] [] Φ sz 0 0
  refine z_iconst (v := 0) B dX11_deliverAll_0 rfl ?_
  refine z_istore_n (lv' := [(1, .int 0), (0, .ref x)]) B dX11_deliverAll_1 rfl (Nat.le_of_ble_eq_true rfl) rfl ?_
  refine z_aload_n B dX11_deliverAll_2 rfl 1 rfl ?_
  have h_1 : Φ (x + 46) = some (o_ 9 [.ref (x + 47), .int (nI qn), .int qd]) := hcf0.1
  have b_1 : qn ≤ 12 := QbR.le hcf0
  have h_2 := in0 (k := 0) hI rfl
  have h_3 : Φ x = some (o_ 13 [.ref (x + 1), .ref (x + 3), .ref (x + 24), .ref (x + 46), .ref (x + 74), .ref (x + 80), .ref (x + 132), .ref (x + 121)]) := h_2
  refine z_get (ref := "FlowExporter") (C := RX11) (T := TX11) (N := 8) (ci := 13) (v := .ref (x + 46)) B hu_X11_deliverAll_X11 rfl 3 (Nat.le_of_ble_eq_true rfl) hv_X11_deliverAll_37 rfl h_3 rfl dX11_deliverAll_3 ?_
  refine z_get (ref := "FlowExporter$Queue") (C := RX7) (T := TX7) (N := 3) (ci := 9) (v := .int (nI qn)) B hu_X11_deliverAll_X7 rfl 1 (Nat.le_of_ble_eq_true rfl) hv_X11_deliverAll_231 rfl h_1 rfl dX11_deliverAll_6 ?_
  refine z_istore_n (lv' := [(2, .int (nI qn)), (1, .int 0), (0, .ref x)]) B dX11_deliverAll_9 rfl (Nat.le_of_ble_eq_true rfl) rfl ?_
  refine z_lv [0, 1, 2] rfl ?_
  refine z_loop (α := Nat × Int32 × Nat × (Nat → Nat) × (Nat → Nat)) (fun (a9 : Nat × Int32 × Nat × (Nat → Nat) × (Nat → Nat)) Φi => In G x (ca + (12 - a9.1)) Φi ∧ Fr x (fun j9 => j9 = 46 ∨ (j9 = 47 ∨ (121 ≤ j9 ∧ j9 < 149))) Φ Φi ∧ (a9.1 ≤ 12) ∧ (a9.2.2.1 ≤ 12) ∧ (a9.2.2.1 = a9.1) ∧ (QbR G x a9.2.2.1 a9.2.2.2.1 qd a9.2.2.2.2 Φi) ∧ True) (fun a9 => [(2, .int (nI (a9.1))), (1, .int a9.2.1), (0, .ref x)]) (fun a9 => a9.1) ?_ (qn, 0, qn, qL, qp) ⟨(In.mono hI (by omega)), fun _ _ => rfl, (show qn ≤ 12 by omega), (show qn ≤ 12 by omega), (show qn = qn by omega), hcf0, trivial⟩
  rintro ⟨i_1, i_2, i_3, i_4, i_5⟩ Φl1 ⟨hI1, hF1, b_2, b_3, b_4, b_5, -⟩ ih1
  replace hI1 : In G x (ca + (12 - i_1)) Φl1 := hI1
  replace b_2 : i_1 ≤ 12 := b_2
  replace b_3 : i_3 ≤ 12 := b_3
  replace b_4 : i_3 = i_1 := b_4
  replace b_5 : QbR G x i_3 i_4 qd i_5 Φl1 := b_5
  show Z p9 l e9 _ s9 m9 _ w9 t9 k9 _ G 3 10 [(2, .int (nI i_1)), (1, .int i_2), (0, .ref x)] [] Φl1 _ _ _
  refine z_iload_n B dX11_deliverAll_10 rfl 0 rfl ?_
  refine z_if_le (tgt := 45) B dX11_deliverAll_11 rfl (fun c_1 => ?_) (fun c_1 => ?_)
  · have e_1 : i_1 ≤ 0 := (nI_leI (a := i_1) (b := 0) (by omega) (by omega)).mp c_1
    refine z_iload_n B dX11_deliverAll_45 rfl 1 rfl ?_
    have hi0 : i_3 = 0 := by omega
    have hcg1 : QbR G x 0 i_4 qd i_5 Φl1 := hi0 ▸ b_5
    exact z_ret_i B dX11_deliverAll_46 ⟨⟨i_4, i_5, ⟨_, rfl⟩, hcg1⟩, rfl, (In.mono hI1 (by omega)), (fun b9 h9 => ((hF1 b9 h9).trans rfl))⟩
  · have e_2 : ¬ (i_1 ≤ 0) := fun h9 => c_1 ((nI_leI (a := i_1) (b := 0) (by omega) (by omega)).mpr h9)
    refine z_iload_n B dX11_deliverAll_14 rfl 1 rfl ?_
    refine z_aload_n B dX11_deliverAll_15 rfl 2 rfl ?_
    have h_4 : Φl1 x = some (o_ 13 [.ref (x + 1), .ref (x + 3), .ref (x + 24), .ref (x + 46), .ref (x + 74), .ref (x + 80), .ref (x + 132), .ref (x + 121)]) := ((hF1 x fq_764).trans h_3)
    refine z_get (ref := "FlowExporter") (C := RX11) (T := TX11) (N := 8) (ci := 13) (v := .ref (x + 132)) B hu_X11_deliverAll_X11 rfl 6 (Nat.le_of_ble_eq_true rfl) hv_X11_deliverAll_71 rfl h_4 rfl dX11_deliverAll_16 ?_
    refine z_aload_n B dX11_deliverAll_19 rfl 2 rfl ?_
    refine z_get (ref := "FlowExporter") (C := RX11) (T := TX11) (N := 8) (ci := 13) (v := .ref (x + 46)) B hu_X11_deliverAll_X11 rfl 3 (Nat.le_of_ble_eq_true rfl) hv_X11_deliverAll_37 rfl h_4 rfl dX11_deliverAll_20 ?_
    refine z_iconst (v := 0) B dX11_deliverAll_23 rfl ?_
    have h_5 : Φl1 (x + 46) = some (o_ 9 [.ref (x + 47), .int (nI i_3), .int qd]) := b_5.1
    have b_6 : i_3 ≤ 12 := QbR.le b_5
    refine z_callV (As := [.int 0]) (rest := [.ref (x + 132), .int i_2]) B (s_X7_takeOutX G l Φl1 sz x (ca + (12 - i_1)) i_3 i_4 qd i_5 0 hx hI1 b_5 (show 0 < i_3 by omega) (show i_3 ≤ 12 by omega)) (cwV 1 B.1.2.2.2.2 gX11_deliverAll_X7_takeOut rfl rfl rfl (by decide +kernel) ⟨Nat.le_of_ble_eq_true rfl, Nat.le_of_ble_eq_true rfl⟩) h_5 rfl rfl rfl rfl (Nat.le_of_ble_eq_true rfl) dX11_deliverAll_24 ⟨Nat.le_of_ble_eq_true rfl, Nat.le_of_ble_eq_true rfl⟩ (fun r_1 Φ1 sz1 st1 hp1 hs1 => ?_)
    obtain ⟨⟨rfl, hcg2⟩, hq1, hI2, hF2⟩ := hp1
    subst sz1
    replace hs1 : st1 = [.ref (x + (48 + 2 * i_5 0)), .ref (x + 132), .int i_2] := hs1
    subst st1
    replace hI2 : In G x (ca + (12 - i_1)) Φ1 := hI2
    refine z_aload_n B dX11_deliverAll_27 rfl 2 rfl ?_
    have h_6 : Φ1 x = some (o_ 13 [.ref (x + 1), .ref (x + 3), .ref (x + 24), .ref (x + 46), .ref (x + 74), .ref (x + 80), .ref (x + 132), .ref (x + 121)]) := ((hF2 x fq_532).trans h_4)
    refine z_get (ref := "FlowExporter") (C := RX11) (T := TX11) (N := 8) (ci := 13) (v := .ref (x + 80)) B hu_X11_deliverAll_X11 rfl 5 (Nat.le_of_ble_eq_true rfl) hv_X11_deliverAll_55 rfl h_6 rfl dX11_deliverAll_28 ?_
    obtain ⟨v_1, v_2, v_3, v_4, v_5, v_6, v_7, v_8, v_9, h_7, b_7⟩ := in16 (k := 80) hI2 rfl
    have h_8 : Φ1 (x + 80) = some (o_ 4 [.ref (x + 3), .ref (x + 74), .ref (x + 81), .ref (x + 95), .int v_1, .int v_2, .int v_3, .int v_4, .int v_5, .int v_6, .long v_7, .long v_8, .long v_9]) := h_7
    refine z_get (ref := "FlowExporter$Exporter") (C := RX2) (T := TX2) (N := 13) (ci := 4) (v := .int v_1) B hu_X11_deliverAll_X2 rfl 4 (Nat.le_of_ble_eq_true rfl) hv_X11_deliverAll_110 rfl h_8 rfl dX11_deliverAll_31 ?_
    obtain ⟨n_1, v_10, v_11, h_9, b_8⟩ := in25 (k := 132) hI2 rfl
    have h_10 : Φ1 (x + 132) = some (o_ 2 [.ref (x + 3), .ref (x + 121), .ref (x + 133), .ref (x + 134), .ref (x + 135), .ref (x + 137), .ref (x + 138), .ref (x + 139), .ref (x + 140), .int (nI n_1), .int v_10, .int v_11]) := h_9
    refine z_callV (As := [.ref (x + (48 + 2 * i_5 0)), .int v_1]) (rest := [.int i_2]) B (s_X0_take G l Φ1 sz x (ca + (12 - i_1)) (48 + 2 * i_5 0) v_1 hx hI2 (kd_q (QbR.lt b_5 (show 0 < 13 by omega))) (show (ca + (12 - i_1)) < 1000000 by omega)) (cwV 2 B.1.2.2.2.2 gX11_deliverAll_X0_take rfl rfl rfl (by decide +kernel) ⟨Nat.le_of_ble_eq_true rfl, Nat.le_of_ble_eq_true rfl⟩) h_10 rfl rfl rfl rfl (Nat.le_of_ble_eq_true rfl) dX11_deliverAll_34 ⟨Nat.le_of_ble_eq_true rfl, Nat.le_of_ble_eq_true rfl⟩ (fun r_2 Φ2 sz2 st2 hp2 hs2 => ?_)
    obtain ⟨⟨v_12, rfl⟩, hq2, hI3, hF3⟩ := hp2
    subst sz2
    replace hs2 : st2 = [.int v_12, .int i_2] := hs2
    subst st2
    replace hI3 : In G x (ca + (12 - i_1) + 1) Φ2 := hI3
    refine z_iadd B dX11_deliverAll_37 ?_
    refine z_fi (fun v_13 => ?_)
    refine z_istore_n (lv' := [(1, .int v_13), (2, .int (nI i_1)), (0, .ref x)]) B dX11_deliverAll_38 rfl (Nat.le_of_ble_eq_true rfl) rfl ?_
    refine z_iinc (k := 1) (v := nI (i_1 - 1)) (lv' := [(2, .int (nI (i_1 - 1))), (1, .int v_13), (0, .ref x)]) B dX11_deliverAll_39 rfl (nI_m1 (show 1 ≤ i_1 by omega)) (Nat.le_of_ble_eq_true rfl) rfl ?_
    refine z_goto (tgt := 10) B dX11_deliverAll_42 rfl ?_
    have hcg3 : QbR G x (i_3 - 1) (rmL i_4 0) qd (shP i_5 i_3 0) Φ2 := (QbR.frw hcg2 hF3 (fun j9 h7 => by have h6 : (121 ≤ j9 ∧ j9 < 149) := h7; omega))
    refine z_lv [0, 1, 2] rfl ?_
    exact ih1 (i_1 - 1, v_13, i_3 - 1, rmL i_4 0, shP i_5 i_3 0) Φ2 (show (i_1 - 1) < i_1 by omega) ⟨(In.mono hI3 (by omega)), (fun b9 h9 => ((hF3 b9 (fun j9 h8 h7 => h9 j9 h8 (fq_763 j9 h7))).trans ((hF2 b9 (fun j9 h8 h7 => h9 j9 h8 (fq_762 j9 h7))).trans ((hF1 b9 h9).trans rfl)))), (show (i_1 - 1) ≤ 12 by omega), (show (i_3 - 1) ≤ 12 by omega), (show (i_3 - 1) = (i_1 - 1) by omega), hcg3, trivial⟩

set_option maxHeartbeats 4000000 in
set_option maxRecDepth 100000 in
theorem s_X11_queueLengthX (G : EnvG) (l : Launch) (Φ : Hm) (sz x ca : Nat) (qn : Nat) (qL : Nat → Nat) (qd : Int32) (qp : Nat → Nat) (hx : G.2.2.2 ≤ x) (hI : In G x ca Φ) (hcf0 : QbR G x qn qL qd qp Φ) : Ct G l yX11_queueLength wsX11_queueLength ({ frames := 0, cells := 0, slots := 0, locals := 0 }) 0 0 [.ref x] Φ sz (fun v Φ1 sz1 => (v = some (.int (nI qn))) ∧ sz1 = sz ∧ In G x (ca) Φ1 ∧ Fr x (fun j9 => False) Φ Φ1) := by
  refine Ct.of (cc := cX11_queueLength) (maxL := 1) (ret := (some .int)) (by decide) rfl (Nat.le_of_ble_eq_true rfl) ?_
  intro p9 e9 s9 m9 w9 t9 k9 B
  show Z p9 l e9 _ s9 m9 _ w9 t9 k9 _ G 1 0 [(0, .ref x)] [] Φ sz 0 0
  refine z_aload_n B dX11_queueLength_0 rfl 0 rfl ?_
  have h_1 := in0 (k := 0) hI rfl
  have h_2 : Φ x = some (o_ 13 [.ref (x + 1), .ref (x + 3), .ref (x + 24), .ref (x + 46), .ref (x + 74), .ref (x + 80), .ref (x + 132), .ref (x + 121)]) := h_1
  refine z_get (ref := "FlowExporter") (C := RX11) (T := TX11) (N := 8) (ci := 13) (v := .ref (x + 46)) B hu_X11_queueLength_X11 rfl 3 (Nat.le_of_ble_eq_true rfl) hv_X11_queueLength_37 rfl h_2 rfl dX11_queueLength_1 ?_
  have h_3 : Φ (x + 46) = some (o_ 9 [.ref (x + 47), .int (nI qn), .int qd]) := hcf0.1
  have b_1 : qn ≤ 12 := QbR.le hcf0
  refine z_get (ref := "FlowExporter$Queue") (C := RX7) (T := TX7) (N := 3) (ci := 9) (v := .int (nI qn)) B hu_X11_queueLength_X7 rfl 1 (Nat.le_of_ble_eq_true rfl) hv_X11_queueLength_231 rfl h_3 rfl dX11_queueLength_4 ?_
  exact z_ret_i B dX11_queueLength_7 ⟨rfl, rfl, hI, (fun b9 h9 => rfl)⟩

set_option maxHeartbeats 4000000 in
set_option maxRecDepth 100000 in
theorem s_X11_droppedX (G : EnvG) (l : Launch) (Φ : Hm) (sz x ca : Nat) (qn : Nat) (qL : Nat → Nat) (qd : Int32) (qp : Nat → Nat) (hx : G.2.2.2 ≤ x) (hI : In G x ca Φ) (hcf0 : QbR G x qn qL qd qp Φ) : Ct G l yX11_dropped wsX11_dropped ({ frames := 0, cells := 0, slots := 0, locals := 0 }) 0 0 [.ref x] Φ sz (fun v Φ1 sz1 => (v = some (.int qd)) ∧ sz1 = sz ∧ In G x (ca) Φ1 ∧ Fr x (fun j9 => False) Φ Φ1) := by
  refine Ct.of (cc := cX11_dropped) (maxL := 1) (ret := (some .int)) (by decide) rfl (Nat.le_of_ble_eq_true rfl) ?_
  intro p9 e9 s9 m9 w9 t9 k9 B
  show Z p9 l e9 _ s9 m9 _ w9 t9 k9 _ G 1 0 [(0, .ref x)] [] Φ sz 0 0
  refine z_aload_n B dX11_dropped_0 rfl 0 rfl ?_
  have h_1 := in0 (k := 0) hI rfl
  have h_2 : Φ x = some (o_ 13 [.ref (x + 1), .ref (x + 3), .ref (x + 24), .ref (x + 46), .ref (x + 74), .ref (x + 80), .ref (x + 132), .ref (x + 121)]) := h_1
  refine z_get (ref := "FlowExporter") (C := RX11) (T := TX11) (N := 8) (ci := 13) (v := .ref (x + 46)) B hu_X11_dropped_X11 rfl 3 (Nat.le_of_ble_eq_true rfl) hv_X11_dropped_37 rfl h_2 rfl dX11_dropped_1 ?_
  have h_3 : Φ (x + 46) = some (o_ 9 [.ref (x + 47), .int (nI qn), .int qd]) := hcf0.1
  have b_1 : qn ≤ 12 := QbR.le hcf0
  refine z_get (ref := "FlowExporter$Queue") (C := RX7) (T := TX7) (N := 3) (ci := 9) (v := .int qd) B hu_X11_dropped_X7 rfl 2 (Nat.le_of_ble_eq_true rfl) hv_X11_dropped_235 rfl h_3 rfl dX11_dropped_4 ?_
  exact z_ret_i B dX11_dropped_7 ⟨rfl, rfl, hI, (fun b9 h9 => rfl)⟩

set_option maxHeartbeats 4000000 in
set_option maxRecDepth 100000 in
theorem s_X11_sentX (G : EnvG) (l : Launch) (Φ : Hm) (sz x ca : Nat) (c : Cf) (sn : SN) (hx : G.2.2.2 ≤ x) (hI : In G x ca Φ) (hcf0 : SdP G x c sn uZ0 Φ) : Ct G l yX11_sent wsX11_sent ({ frames := 0, cells := 0, slots := 0, locals := 0 }) 0 0 [.ref x] Φ sz (fun v Φ1 sz1 => (v = some (.long (sn.2.2.2.1))) ∧ sz1 = sz ∧ In G x (ca) Φ1 ∧ Fr x (fun j9 => False) Φ Φ1) := by
  refine Ct.of (cc := cX11_sent) (maxL := 1) (ret := (some .long)) (by decide) rfl (Nat.le_of_ble_eq_true rfl) ?_
  intro p9 e9 s9 m9 w9 t9 k9 B
  show Z p9 l e9 _ s9 m9 _ w9 t9 k9 _ G 1 0 [(0, .ref x)] [] Φ sz 0 0
  obtain ⟨f_1, h_1, h_2, h_3, h_4, h_5, h_6, h_7⟩ := hcf0
  refine z_aload_n B dX11_sent_0 rfl 0 rfl ?_
  have h_8 := in0 (k := 0) hI rfl
  have h_9 : Φ x = some (o_ 13 [.ref (x + 1), .ref (x + 3), .ref (x + 24), .ref (x + 46), .ref (x + 74), .ref (x + 80), .ref (x + 132), .ref (x + 121)]) := h_8
  refine z_get (ref := "FlowExporter") (C := RX11) (T := TX11) (N := 8) (ci := 13) (v := .ref (x + 74)) B hu_X11_sent_X11 rfl 4 (Nat.le_of_ble_eq_true rfl) hv_X11_sent_46 rfl h_9 rfl dX11_sent_1 ?_
  refine z_get (ref := "FlowExporter$Sender") (C := RX8) (T := TX8) (N := 10) (ci := 10) (v := .long (sn.2.2.2.1)) B hu_X11_sent_X8 rfl 8 (Nat.le_of_ble_eq_true rfl) hv_X11_sent_232 rfl h_1 rfl dX11_sent_4 ?_
  exact z_ret_l B dX11_sent_7 ⟨rfl, rfl, hI, (fun b9 h9 => rfl)⟩

set_option maxHeartbeats 4000000 in
set_option maxRecDepth 100000 in
theorem s_X11_sequenceX (G : EnvG) (l : Launch) (Φ : Hm) (sz x ca : Nat) (c : Cf) (sn : SN) (hx : G.2.2.2 ≤ x) (hI : In G x ca Φ) (hcf0 : SdP G x c sn uZ0 Φ) : Ct G l yX11_sequence wsX11_sequence ({ frames := 0, cells := 0, slots := 0, locals := 0 }) 0 0 [.ref x] Φ sz (fun v Φ1 sz1 => (v = some (.long (sn.2.2.2.2.toInt64 &&& 4294967295))) ∧ sz1 = sz ∧ In G x (ca) Φ1 ∧ Fr x (fun j9 => False) Φ Φ1) := by
  refine Ct.of (cc := cX11_sequence) (maxL := 1) (ret := (some .long)) (by decide) rfl (Nat.le_of_ble_eq_true rfl) ?_
  intro p9 e9 s9 m9 w9 t9 k9 B
  show Z p9 l e9 _ s9 m9 _ w9 t9 k9 _ G 1 0 [(0, .ref x)] [] Φ sz 0 0
  obtain ⟨f_1, h_1, h_2, h_3, h_4, h_5, h_6, h_7⟩ := hcf0
  refine z_aload_n B dX11_sequence_0 rfl 0 rfl ?_
  have h_8 := in0 (k := 0) hI rfl
  have h_9 : Φ x = some (o_ 13 [.ref (x + 1), .ref (x + 3), .ref (x + 24), .ref (x + 46), .ref (x + 74), .ref (x + 80), .ref (x + 132), .ref (x + 121)]) := h_8
  refine z_get (ref := "FlowExporter") (C := RX11) (T := TX11) (N := 8) (ci := 13) (v := .ref (x + 74)) B hu_X11_sequence_X11 rfl 4 (Nat.le_of_ble_eq_true rfl) hv_X11_sequence_46 rfl h_9 rfl dX11_sequence_1 ?_
  refine z_get (ref := "FlowExporter$Sender") (C := RX8) (T := TX8) (N := 10) (ci := 10) (v := .int (sn.2.2.2.2)) B hu_X11_sequence_X8 rfl 9 (Nat.le_of_ble_eq_true rfl) hv_X11_sequence_238 rfl h_1 rfl dX11_sequence_4 ?_
  refine z_i2l (v := sn.2.2.2.2.toInt64) B dX11_sequence_7 rfl ?_
  refine z_ldc2 (v := 4294967295) B (by decide +kernel) dX11_sequence_8 ?_
  refine z_land B dX11_sequence_11 ?_
  exact z_ret_l B dX11_sequence_12 ⟨rfl, rfl, hI, (fun b9 h9 => rfl)⟩

theorem fq_765 {x : Nat} : ∀ j9 : Nat, x + 77 = x + j9 → (j9 = 78) → False := by
  intro j9 h1 h2
  omega

theorem fq_766 {x : Nat} : ∀ j9 : Nat, x + 79 = x + j9 → (j9 = 78) → False := by
  intro j9 h1 h2
  omega

set_option maxHeartbeats 4000000 in
set_option maxRecDepth 100000 in
theorem s_X11_requestTemplatesX (G : EnvG) (l : Launch) (Φ : Hm) (sz x ca : Nat) (c : Cf) (sn : SN) (hx : G.2.2.2 ≤ x) (hI : In G x ca Φ) (hcf0 : SdP G x c sn uZ0 Φ) : Ct G l yX11_requestTemplates wsX11_requestTemplates ({ frames := 2, cells := 0, slots := 0, locals := 43 }) 0 0 [.ref x] Φ sz (fun v Φ1 sz1 => (v = none ∧ SdP G x c ((fun _ => 0), sn.2) uZ0 Φ1) ∧ sz1 = sz ∧ In G x (ca) Φ1 ∧ Fr x (fun j9 => j9 = 78) Φ Φ1) := by
  refine Ct.of (cc := cX11_requestTemplates) (maxL := 1) (ret := none) (by decide) rfl (Nat.le_of_ble_eq_true rfl) ?_
  intro p9 e9 s9 m9 w9 t9 k9 B
  show Z p9 l e9 _ s9 m9 _ w9 t9 k9 _ G 1 0 [(0, .ref x)] [] Φ sz 0 0
  obtain ⟨f_1, h_1, h_2, h_3, h_4, h_5, h_6, h_7⟩ := hcf0
  refine z_aload_n B dX11_requestTemplates_0 rfl 0 rfl ?_
  have h_8 := in0 (k := 0) hI rfl
  have h_9 : Φ x = some (o_ 13 [.ref (x + 1), .ref (x + 3), .ref (x + 24), .ref (x + 46), .ref (x + 74), .ref (x + 80), .ref (x + 132), .ref (x + 121)]) := h_8
  refine z_get (ref := "FlowExporter") (C := RX11) (T := TX11) (N := 8) (ci := 13) (v := .ref (x + 74)) B hu_X11_requestTemplates_X11 rfl 4 (Nat.le_of_ble_eq_true rfl) hv_X11_requestTemplates_46 rfl h_9 rfl dX11_requestTemplates_1 ?_
  refine z_callV (As := []) (rest := []) B (s_X8_forgetTemplatesX G l Φ sz x (ca) sn.1 hx hI h_6) (cwV 0 B.1.2.2.2.2 gX11_requestTemplates_X8_forgetTemplates rfl rfl rfl (by decide +kernel) ⟨Nat.le_of_ble_eq_true rfl, Nat.le_of_ble_eq_true rfl⟩) h_1 rfl rfl rfl rfl (Nat.le_of_ble_eq_true rfl) dX11_requestTemplates_4 ⟨Nat.le_of_ble_eq_true rfl, Nat.le_of_ble_eq_true rfl⟩ (fun r_1 Φ1 sz1 st1 hp1 hs1 => ?_)
  obtain ⟨⟨rfl, h_10⟩, hq1, hI1, hF1⟩ := hp1
  subst sz1
  replace hs1 : st1 = [] := hs1
  subst st1
  replace hI1 : In G x (ca) Φ1 := hI1
  have h_11 : Φ1 (x + 74) = some (o_ 10 [.ref (x + 3), .ref (x + 46), .ref (x + 75), .ref (x + 77), .int (nI (uZ0.2.1)), .ref (x + 78), .ref (x + 79), .int (sn.2.2.1), .long (sn.2.2.2.1), .int (sn.2.2.2.2)]) := ((hF1 (x + 74) fq_724).trans h_1)
  have h_12 : Φ1 (x + 75) = some (o_ 7 [.ref (x + 76), .int (nI ((plN c uZ0.2.2 uZ0.2.1)))]) := ((hF1 (x + 75) fq_725).trans h_2)
  have h_13 : Φ1 (x + 77) = some (ai_ G 12 f_1) := ((hF1 (x + 77) fq_765).trans h_3)
  have h_14 : Φ1 (x + 79) = some (ai_ G 4 sn.2.1) := ((hF1 (x + 79) fq_766).trans h_7)
  have hcg1 : SdP G x c ((fun _ => 0), sn.2) uZ0 Φ1 := ⟨f_1, h_11, h_12, h_13, fun j9 h9 => absurd h9 (Nat.not_lt_zero j9), Nat.zero_le 12, h_10, h_14⟩
  exact z_ret_v B dX11_requestTemplates_7 ⟨⟨rfl, hcg1⟩, rfl, hI1, (fun b9 h9 => ((hF1 b9 h9).trans rfl))⟩

set_option maxHeartbeats 4000000 in
set_option maxRecDepth 100000 in
theorem s_X11_isDueX (G : EnvG) (l : Launch) (hl9 : l.stackTraces = false) (Φ : Hm) (sz x ca : Nat) (tm : Nat) (r : Nat) (w : Nat) (aq : Int32) (xp : Int32) (xb : Int32) (ob : Int64) (sm : Int64) (un : UN) (t : Nat) (s : Nat) (c : Cf) (sn : SN) (a : Int32) (hx : G.2.2.2 ≤ x) (hI : In G x ca Φ) (hc0 : Φ (x + 80) = some (o_ 4 [.ref (x + 3), .ref (x + 74), .ref (x + 81), .ref (x + 95), .int (nI tm), .int (nI r), .int (nI w), .int aq, .int xp, .int xb, .long ob, .long sm, .long (un.1)])) (hcf0 : CfA G x t s c Φ) (hcf1 : SdP G x c sn uZ0 Φ) (hg : CfG c) (had : aq = 0 ∨ aq = 1) : CtB G l yX11_isDue wsX11_isDue ({ frames := 7, cells := 1, slots := 6, locals := 102 }) 1 6 [.ref x, .int a] Φ sz (fun v Φ1 sz1 => (∃ u9 : Nat, u9 < t ∧ a = nI u9 ∧ ((v = some (.int 1) ∧ dueP c (nI tm) sn u9) ∨ (v = some (.int 0) ∧ ¬ dueP c (nI tm) sn u9))) ∧ sz1 = sz ∧ In G x (ca) Φ1 ∧ Fr x (fun j9 => False) Φ Φ1) (fun Φ1 => (¬ InT c a) ∧ In G x ca Φ1 ∧ Fr x (fun j9 => False) Φ Φ1) [xIO] := by
  refine CtB.of (cc := cX11_isDue) (maxL := 2) (ret := (some .boolean)) (by decide) rfl (Nat.le_of_ble_eq_true rfl) ?_
  intro p9 e9 s9 m9 w9 t9 k9 B htab9
  show Z p9 l e9 _ s9 m9 _ w9 t9 k9 _ G 2 0 [(0, .ref x), (1, .int a)] [] Φ sz 0 0
  obtain ⟨f_1, h_1, h_2, h_3, h_4, h_5, h_6, h_7⟩ := hcf1
  refine z_aload_n B dX11_isDue_0 rfl 0 rfl ?_
  refine z_iload_n B dX11_isDue_1 rfl 1 rfl ?_
  have h_8 : Φ (x + 3) = some (o_ 3 [.ref (x + 4), .ref (x + 5), .ref (x + 6), .ref (x + 7), .int (nI t), .int (nI s)]) := CfA.obj hcf0
  have b_1 := hcf0.1.2.1
  have h_9 := in0 (k := 0) hI rfl
  have h_10 : Φ x = some (o_ 13 [.ref (x + 1), .ref (x + 3), .ref (x + 24), .ref (x + 46), .ref (x + 74), .ref (x + 80), .ref (x + 132), .ref (x + 121)]) := h_9
  refine zb_callV (As := [.int a]) (rest := []) B htab9 (s_X11_requireTemplateC G l hl9 Φ sz x (ca) t s c a hx hI hcf0) (cwV 1 B.1.2.2.2.2 gX11_isDue_X11_requireTemplate rfl rfl rfl (by decide +kernel) ⟨Nat.le_of_ble_eq_true rfl, Nat.le_of_ble_eq_true rfl⟩) h_10 rfl rfl rfl rfl (Nat.le_of_ble_eq_true rfl) dX11_isDue_2 ⟨Nat.le_of_ble_eq_true rfl, Nat.le_of_ble_eq_true rfl⟩ ⟨Nat.le_of_ble_eq_true rfl, Nat.le_of_ble_eq_true rfl⟩ (by decide) (fun Φ9 h9 => ⟨h9.1, h9.2.1, fun b9 h8 => ((h9.2.2 b9 h8).trans ((fun b9 h9 => rfl) b9 h8))⟩) (fun r_1 Φ1 sz1 st1 hp1 hs1 => ?_)
  obtain ⟨⟨rfl, n_1, b_2, rfl⟩, hq1, hI1, hF1⟩ := hp1
  subst sz1
  replace hs1 : st1 = [] := hs1
  subst st1
  replace hI1 : In G x (ca) Φ1 := hI1
  replace b_2 : n_1 < t := b_2
  refine z_aload_n B dX11_isDue_5 rfl 0 rfl ?_
  have h_11 : Φ1 x = some (o_ 13 [.ref (x + 1), .ref (x + 3), .ref (x + 24), .ref (x + 46), .ref (x + 74), .ref (x + 80), .ref (x + 132), .ref (x + 121)]) := ((hF1 x (fun j9 h8 h7 => (show False from h7).elim)).trans h_10)
  refine z_get (ref := "FlowExporter") (C := RX11) (T := TX11) (N := 8) (ci := 13) (v := .ref (x + 74)) B hu_X11_isDue_X11 rfl 4 (Nat.le_of_ble_eq_true rfl) hv_X11_isDue_46 rfl h_11 rfl dX11_isDue_6 ?_
  refine z_iload_n B dX11_isDue_9 rfl 1 rfl ?_
  refine z_aload_n B dX11_isDue_10 rfl 0 rfl ?_
  refine z_get (ref := "FlowExporter") (C := RX11) (T := TX11) (N := 8) (ci := 13) (v := .ref (x + 80)) B hu_X11_isDue_X11 rfl 5 (Nat.le_of_ble_eq_true rfl) hv_X11_isDue_55 rfl h_11 rfl dX11_isDue_11 ?_
  have h_12 : Φ1 (x + 80) = some (o_ 4 [.ref (x + 3), .ref (x + 74), .ref (x + 81), .ref (x + 95), .int (nI tm), .int (nI r), .int (nI w), .int aq, .int xp, .int xb, .long ob, .long sm, .long un.1]) := ((hF1 (x + 80) (fun j9 h8 h7 => (show False from h7).elim)).trans hc0)
  refine z_get (ref := "FlowExporter$Exporter") (C := RX2) (T := TX2) (N := 13) (ci := 4) (v := .int (nI tm)) B hu_X11_isDue_X2 rfl 4 (Nat.le_of_ble_eq_true rfl) hv_X11_isDue_110 rfl h_12 rfl dX11_isDue_14 ?_
  have h_13 : Φ1 (x + 74) = some (o_ 10 [.ref (x + 3), .ref (x + 46), .ref (x + 75), .ref (x + 77), .int (nI (uZ0.2.1)), .ref (x + 78), .ref (x + 79), .int sn.2.2.1, .long sn.2.2.2.1, .int sn.2.2.2.2]) := ((hF1 (x + 74) (fun j9 h8 h7 => (show False from h7).elim)).trans h_1)
  have h_14 : Φ1 (x + 78) = some (ai_ G 4 sn.1) := ((hF1 (x + 78) (fun j9 h8 h7 => (show False from h7).elim)).trans h_6)
  have h_15 : Φ1 (x + 79) = some (ai_ G 4 sn.2.1) := ((hF1 (x + 79) (fun j9 h8 h7 => (show False from h7).elim)).trans h_7)
  have hcg1 : CfA G x t s c Φ1 := (CfA.fr hcf0 hF1 (fun j9 h7 => (show False from h7).elim))
  refine z_callV (As := [.int (nI n_1), .int (nI tm)]) (rest := []) B (s_X8_mustSendX G l Φ1 sz x (ca) uZ0.2.1 sn.2.2.1 sn.2.2.2.1 sn.2.2.2.2 sn.1 sn.2.1 t s c n_1 (nI tm) hx hI1 h_13 h_14 h_15 hcg1 (show n_1 < 4 by omega) hg) (cwV 2 B.1.2.2.2.2 gX11_isDue_X8_mustSend rfl rfl rfl (by decide +kernel) ⟨Nat.le_of_ble_eq_true rfl, Nat.le_of_ble_eq_true rfl⟩) h_13 rfl rfl rfl rfl (Nat.le_of_ble_eq_true rfl) dX11_isDue_17 ⟨Nat.le_of_ble_eq_true rfl, Nat.le_of_ble_eq_true rfl⟩ (fun r_2 Φ2 sz2 st2 hp2 hs2 => ?_)
  obtain ⟨ha1, hq2, hI2, hF2⟩ := hp2
  subst sz2
  replace hI2 : In G x (ca) Φ2 := hI2
  rcases ha1 with ⟨rfl, e_1⟩ | ⟨rfl, e_2⟩
  · replace e_1 : dueP c (nI tm) (sn.1, sn.2.1, sn.2.2.1, sn.2.2.2.1, sn.2.2.2.2) n_1 := e_1
    replace hs2 : st2 = [.int 1] := hs2
    subst st2
    exact zb_ret (Nat.le_of_ble_eq_true rfl) (Nat.le_of_ble_eq_true rfl) (z_ret_z B dX11_isDue_20 (by decide) ⟨⟨n_1, by omega, rfl, Or.inl ⟨rfl, e_1⟩⟩, rfl, hI2, (fun b9 h9 => ((hF2 b9 (fun j9 h8 h7 => (show False from h7).elim)).trans ((hF1 b9 (fun j9 h8 h7 => (show False from h7).elim)).trans rfl)))⟩)
  · replace e_2 : ¬ dueP c (nI tm) (sn.1, sn.2.1, sn.2.2.1, sn.2.2.2.1, sn.2.2.2.2) n_1 := e_2
    replace hs2 : st2 = [.int 0] := hs2
    subst st2
    exact zb_ret (Nat.le_of_ble_eq_true rfl) (Nat.le_of_ble_eq_true rfl) (z_ret_z B dX11_isDue_20 (by decide) ⟨⟨n_1, by omega, rfl, Or.inr ⟨rfl, e_2⟩⟩, rfl, hI2, (fun b9 h9 => ((hF2 b9 (fun j9 h8 h7 => (show False from h7).elim)).trans ((hF1 b9 (fun j9 h8 h7 => (show False from h7).elim)).trans rfl)))⟩)

theorem tfF_9 {c : Cf} {v : Int32} {u : Nat} : tfF (upd c 9 v) u = tfF c u := by
  have e1 : rwC (upd c 9 v) u = rwC c u := funext (fun j => upd_ne (by omega))
  have e2 : szC (upd c 9 v) u = szC c u := congrArg Int32.toNatClampNeg (upd_ne (by omega))
  unfold tfF
  rw [e1, e2]
theorem fgW_9 {c : Cf} {a v : Int32} {f : Nat → Int32} {j : Nat} : fgW (upd c 9 v) a f j = fgW c a f j := by
  show @ite Int32 (bitI a (tfF (upd c 9 v) j)) (Classical.propDecidable _) 0 (f j) = _
  rw [tfF_9]
  rfl
theorem CfG_9 {c : Cf} {v : Int32} (h : CfG c) : CfG (upd c 9 v) := by
  obtain ⟨⟨r, g5, g6, g7⟩, r2, g8, g9, g10⟩ := h.2.2
  refine ⟨fun j hj => ?_, fun u n hu e1 hn => ?_, ⟨r, g5, g6, (upd_ne (by decide)).trans g7⟩, r2, g8, g9, (upd_ne (by decide)).trans g10⟩
  · obtain ⟨u, q1, q2⟩ := h.1 j hj
    exact ⟨u, q1, (upd_ne (by omega)).trans q2⟩
  · exact (upd_ne (by omega)).trans (h.2.1 u n hu ((upd_ne (by decide)).symm.trans e1) hn)

theorem fq_767 {x : Nat} : ∀ j9 : Nat, x + 78 = x + j9 → (j9 = 3 ∨ (10 ≤ j9 ∧ j9 < 24)) → False := by
  intro j9 h1 h2
  omega

theorem fq_768 {x : Nat} : ∀ j9 : Nat, x + 74 = x + j9 → (j9 = 3 ∨ (10 ≤ j9 ∧ j9 < 24)) → False := by
  intro j9 h1 h2
  omega

theorem fq_769 {x : Nat} : ∀ j9 : Nat, x + 75 = x + j9 → (j9 = 3 ∨ (10 ≤ j9 ∧ j9 < 24)) → False := by
  intro j9 h1 h2
  omega

theorem fq_770 {x : Nat} : ∀ j9 : Nat, x + 77 = x + j9 → (j9 = 3 ∨ (10 ≤ j9 ∧ j9 < 24)) → False := by
  intro j9 h1 h2
  omega

theorem fq_771 {x : Nat} : ∀ j9 : Nat, x + 79 = x + j9 → (j9 = 3 ∨ (10 ≤ j9 ∧ j9 < 24)) → False := by
  intro j9 h1 h2
  omega

set_option maxHeartbeats 4000000 in
set_option maxRecDepth 100000 in
theorem s_X11_setSupportX (G : EnvG) (l : Launch) (hl9 : l.stackTraces = false) (Φ : Hm) (sz x ca : Nat) (t : Nat) (s : Nat) (c : Cf) (sn : SN) (a : Int32) (b : Int32) (hx : G.2.2.2 ≤ x) (hI : In G x ca Φ) (hcf0 : CfA G x t s c Φ) (hcf1 : SdP G x c sn uZ0 Φ) (hb : b = 0 ∨ b = 1) (hg : CfG c) : CtB G l yX11_setSupport wsX11_setSupport ({ frames := 6, cells := 1, slots := 6, locals := 81 }) 1 6 [.ref x, .int a, .int b] Φ sz (fun v Φ1 sz1 => (v = some (.int (suV c a)) ∧ InF a ∧ (∃ s8 : Nat, CfA G x t s8 (suC c a b) Φ1) ∧ ∃ a8 : Nat → Int32, SdP G x (suC c a b) (a8, sn.2) uZ0 Φ1 ∧ ((suV c a = b ∧ a8 = sn.1) ∨ (¬ suV c a = b ∧ ∀ j9, j9 < 4 → a8 j9 = fgW c a sn.1 j9))) ∧ sz1 = sz ∧ In G x (ca) Φ1 ∧ Fr x (fun j9 => (3 ≤ j9 ∧ j9 < 24) ∨ j9 = 78) Φ Φ1) (fun Φ1 => (¬ InF a) ∧ In G x ca Φ1 ∧ Fr x (fun j9 => False) Φ Φ1) [xIA] := by
  refine CtB.of (cc := cX11_setSupport) (maxL := 4) (ret := (some .boolean)) (by decide) rfl (Nat.le_of_ble_eq_true rfl) ?_
  intro p9 e9 s9 m9 w9 t9 k9 B htab9
  show Z p9 l e9 _ s9 m9 _ w9 t9 k9 _ G 4 0 [(0, .ref x), (1, .int a), (2, .int b)] [] Φ sz 0 0
  obtain ⟨f_1, h_1, h_2, h_3, h_4, h_5, h_6, h_7⟩ := hcf1
  refine z_iload_n B dX11_setSupport_0 rfl 1 rfl ?_
  refine z_if_lt (tgt := 10) B dX11_setSupport_1 rfl (fun c_1 => ?_) (fun c_1 => ?_)
  · have k_1 : (0 : Int32).toInt = 0 := by decide
    have q_1 : (a.toInt < (0 : Int32).toInt) := Int32.lt_iff_toInt_lt.mp c_1
    exact zb_throw (cls := xIA) (ik := 116) (ic := 118) B hl9 htab9 (by decide) ⟨(fun h9 => by obtain ⟨h8, h7⟩ := h9; omega), hI, (fun b9 h9 => rfl)⟩ (by decide) (by decide +kernel) (by decide +kernel) (by decide +kernel) (by decide +kernel) (by decide +kernel) (by decide +kernel) (by decide +kernel) dX11_setSupport_10 dX11_setSupport_13 dX11_setSupport_14 dX11_setSupport_17 ⟨Nat.le_of_ble_eq_true rfl, Nat.le_of_ble_eq_true rfl, Nat.le_of_ble_eq_true rfl, Nat.le_of_ble_eq_true rfl⟩ ⟨Nat.le_of_ble_eq_true rfl, Nat.le_of_ble_eq_true rfl⟩
  · obtain ⟨n_1, e_1, rfl⟩ := nI_of c_1
    refine z_iload_n B dX11_setSupport_4 rfl 1 rfl ?_
    refine z_bipush (v := 9) B dX11_setSupport_5 rfl ?_
    refine z_icmp_lt (tgt := 18) B dX11_setSupport_7 rfl (fun c_2 => ?_) (fun c_2 => ?_)
    · have e_2 : n_1 < 9 := (nI_ltI (a := n_1) (b := 9) (by omega) (by omega)).mp c_2
      refine z_aload_n B dX11_setSupport_18 rfl 0 rfl ?_
      have h_8 := in0 (k := 0) hI rfl
      have h_9 : Φ x = some (o_ 13 [.ref (x + 1), .ref (x + 3), .ref (x + 24), .ref (x + 46), .ref (x + 74), .ref (x + 80), .ref (x + 132), .ref (x + 121)]) := h_8
      refine z_get (ref := "FlowExporter") (C := RX11) (T := TX11) (N := 8) (ci := 13) (v := .ref (x + 3)) B hu_X11_setSupport_X11 rfl 1 (Nat.le_of_ble_eq_true rfl) hv_X11_setSupport_21 rfl h_9 rfl dX11_setSupport_19 ?_
      have h_10 : Φ (x + 3) = some (o_ 3 [.ref (x + 4), .ref (x + 5), .ref (x + 6), .ref (x + 7), .int (nI t), .int (nI s)]) := CfA.obj hcf0
      have b_1 := hcf0.1.2.1
      refine z_get (ref := "FlowExporter$Config") (C := RX1) (T := TX1) (N := 6) (ci := 3) (v := .int (nI s)) B hu_X11_setSupport_X1 rfl 5 (Nat.le_of_ble_eq_true rfl) hv_X11_setSupport_215 rfl h_10 rfl dX11_setSupport_22 ?_
      refine z_iload_n B dX11_setSupport_25 rfl 1 rfl ?_
      refine z_ishr B dX11_setSupport_26 ?_
      refine z_iconst (v := 1) B dX11_setSupport_27 rfl ?_
      refine z_iand B dX11_setSupport_28 ?_
      refine z_iconst (v := 1) B dX11_setSupport_29 rfl ?_
      refine z_icmp_ne (tgt := 37) B dX11_setSupport_30 rfl (fun c_3 => ?_) (fun c_3 => ?_)
      · have hv1 : suV c (nI n_1) = 0 := suV_0 (by show ¬ ((c 9 >>> (nI n_1 &&& 31)) &&& 1 = 1); rw [hcf0.2.1.2]; exact c_3)
        refine z_iconst (v := 0) B dX11_setSupport_37 rfl ?_
        refine z_istore_n (lv' := [(3, .int 0), (0, .ref x), (1, .int (nI n_1)), (2, .int b)]) B dX11_setSupport_38 rfl (Nat.le_of_ble_eq_true rfl) rfl ?_
        refine z_iload_n B dX11_setSupport_39 rfl 0 rfl ?_
        refine z_iload_n B dX11_setSupport_40 rfl 3 rfl ?_
        refine z_icmp_eq (tgt := 70) B dX11_setSupport_41 rfl (fun c_4 => ?_) (fun c_4 => ?_)
        · refine z_iload_n B dX11_setSupport_70 rfl 0 rfl ?_
          have hcg1 : SdP G x (suC c (nI n_1) b) (sn.1, sn.2) uZ0 Φ := ⟨f_1, h_1, h_2, h_3, fun j9 h9 => absurd h9 (Nat.not_lt_zero j9), Nat.zero_le 12, h_6, h_7⟩
          exact zb_ret (Nat.le_of_ble_eq_true rfl) (Nat.le_of_ble_eq_true rfl) (z_ret_z B dX11_setSupport_71 (by decide) ⟨⟨congrArg (fun w9 : Int32 => some (Value.int w9)) hv1.symm, ⟨by rw [nI_toInt (by omega)]; omega, by rw [nI_toInt (by omega)]; omega⟩, su_eq (hv1.trans c_4) hcf0, sn.1, hcg1, Or.inl ⟨hv1.trans c_4, rfl⟩⟩, rfl, hI, (fun b9 h9 => rfl)⟩)
        · refine z_aload_n B dX11_setSupport_44 rfl 1 rfl ?_
          refine z_get (ref := "FlowExporter") (C := RX11) (T := TX11) (N := 8) (ci := 13) (v := .ref (x + 3)) B hu_X11_setSupport_X11 rfl 1 (Nat.le_of_ble_eq_true rfl) hv_X11_setSupport_21 rfl h_9 rfl dX11_setSupport_45 ?_
          refine z_aload_n B dX11_setSupport_48 rfl 1 rfl ?_
          refine z_get (ref := "FlowExporter") (C := RX11) (T := TX11) (N := 8) (ci := 13) (v := .ref (x + 3)) B hu_X11_setSupport_X11 rfl 1 (Nat.le_of_ble_eq_true rfl) hv_X11_setSupport_21 rfl h_9 rfl dX11_setSupport_49 ?_
          have h_11 : Φ (x + 3) = some (o_ 3 [.ref (x + 4), .ref (x + 5), .ref (x + 6), .ref (x + 7), .int (nI t), .int (nI s)]) := CfA.obj hcf0
          have b_2 := hcf0.1.2.1
          refine z_get (ref := "FlowExporter$Config") (C := RX1) (T := TX1) (N := 6) (ci := 3) (v := .int (nI s)) B hu_X11_setSupport_X1 rfl 5 (Nat.le_of_ble_eq_true rfl) hv_X11_setSupport_215 rfl h_11 rfl dX11_setSupport_52 ?_
          refine z_iconst (v := 1) B dX11_setSupport_55 rfl ?_
          refine z_iload_n B dX11_setSupport_56 rfl 2 rfl ?_
          refine z_ishl B dX11_setSupport_57 ?_
          refine z_ixor B dX11_setSupport_58 ?_
          have hcg2 := CfA.q hcf0
          obtain ⟨q_2, b_3, e_3⟩ := xor_k s hcf0.2.1.1 n_1 (by omega)
          refine z_top (st1 := [.int (nI q_2), .ref (x + 3)]) (congrArg (fun w9 : Int32 => ([.int w9, .ref (x + 3)] : List Value)) (e_3)) ?_
          obtain ⟨v_1, v_2, h_12⟩ := in3 (k := 3) hI rfl
          have h_13 : Φ (x + 3) = some (o_ 3 [.ref (x + 4), .ref (x + 5), .ref (x + 6), .ref (x + 7), .int v_1, .int v_2]) := h_12
          refine z_callV (As := [.int (nI q_2)]) (rest := []) B (s_X1_supportF G l Φ sz x (ca) t c q_2 hx hI hcg2 (show q_2 < 512 by omega)) (cwV 1 B.1.2.2.2.2 gX11_setSupport_X1_support rfl rfl rfl (by decide +kernel) ⟨Nat.le_of_ble_eq_true rfl, Nat.le_of_ble_eq_true rfl⟩) h_13 rfl rfl rfl rfl (Nat.le_of_ble_eq_true rfl) dX11_setSupport_59 ⟨Nat.le_of_ble_eq_true rfl, Nat.le_of_ble_eq_true rfl⟩ (fun r_1 Φ1 sz1 st1 hp1 hs1 => ?_)
          obtain ⟨⟨rfl, hcg3, hE1⟩, hq1, hI1, hF1⟩ := hp1
          subst sz1
          replace hs1 : st1 = [] := hs1
          subst st1
          replace hI1 : In G x (ca) Φ1 := hI1
          have hcg4 : CfA G x t q_2 (upd c 9 (nI q_2)) Φ1 := ⟨hcg3, ⟨b_3, upd_at⟩, hE1⟩
          refine z_aload_n B dX11_setSupport_62 rfl 1 rfl ?_
          have h_14 : Φ1 x = some (o_ 13 [.ref (x + 1), .ref (x + 3), .ref (x + 24), .ref (x + 46), .ref (x + 74), .ref (x + 80), .ref (x + 132), .ref (x + 121)]) := ((hF1 x fq_719).trans h_9)
          refine z_get (ref := "FlowExporter") (C := RX11) (T := TX11) (N := 8) (ci := 13) (v := .ref (x + 74)) B hu_X11_setSupport_X11 rfl 4 (Nat.le_of_ble_eq_true rfl) hv_X11_setSupport_46 rfl h_14 rfl dX11_setSupport_63 ?_
          refine z_iload_n B dX11_setSupport_66 rfl 2 rfl ?_
          have h_15 : Φ1 (x + 78) = some (ai_ G 4 sn.1) := ((hF1 (x + 78) fq_767).trans h_6)
          have h_16 : Φ1 (x + 74) = some (o_ 10 [.ref (x + 3), .ref (x + 46), .ref (x + 75), .ref (x + 77), .int (nI (uZ0.2.1)), .ref (x + 78), .ref (x + 79), .int sn.2.2.1, .long sn.2.2.2.1, .int sn.2.2.2.2]) := ((hF1 (x + 74) fq_768).trans h_1)
          refine z_callV (As := [.int (nI n_1)]) (rest := []) B (s_X8_forgetTemplatesWithX G l Φ1 sz x (ca) sn.1 t q_2 (upd c 9 (nI q_2)) n_1 hx hI1 h_15 hcg4 (show n_1 < 9 by omega) (CfG_9 hg)) (cwV 1 B.1.2.2.2.2 gX11_setSupport_X8_forgetTemplatesWith rfl rfl rfl (by decide +kernel) ⟨Nat.le_of_ble_eq_true rfl, Nat.le_of_ble_eq_true rfl⟩) h_16 rfl rfl rfl rfl (Nat.le_of_ble_eq_true rfl) dX11_setSupport_67 ⟨Nat.le_of_ble_eq_true rfl, Nat.le_of_ble_eq_true rfl⟩ (fun r_2 Φ2 sz2 st2 hp2 hs2 => ?_)
          obtain ⟨⟨f_2, rfl, h_17, e_4⟩, hq2, hI2, hF2⟩ := hp2
          subst sz2
          replace hs2 : st2 = [] := hs2
          subst st2
          replace hI2 : In G x (ca) Φ2 := hI2
          replace e_4 : ∀ j9, j9 < 4 → f_2 j9 = fgW (upd c 9 (nI q_2)) (nI n_1) (sn.1) j9 := e_4
          refine z_iload_n B dX11_setSupport_70 rfl 0 rfl ?_
          have hcg5 : CfA G x t q_2 (upd c 9 (nI q_2)) Φ2 := (CfA.fr hcg4 hF2 (fun j9 h7 => by have h6 : j9 = 78 := h7; intros; omega))
          have h_18 : Φ2 (x + 74) = some (o_ 10 [.ref (x + 3), .ref (x + 46), .ref (x + 75), .ref (x + 77), .int (nI (uZ0.2.1)), .ref (x + 78), .ref (x + 79), .int sn.2.2.1, .long sn.2.2.2.1, .int sn.2.2.2.2]) := ((hF2 (x + 74) fq_724).trans h_16)
          have h_19 : Φ2 (x + 75) = some (o_ 7 [.ref (x + 76), .int (nI ((plN c uZ0.2.2 uZ0.2.1)))]) := ((hF2 (x + 75) fq_725).trans ((hF1 (x + 75) fq_769).trans h_2))
          have h_20 : Φ2 (x + 77) = some (ai_ G 12 f_1) := ((hF2 (x + 77) fq_765).trans ((hF1 (x + 77) fq_770).trans h_3))
          have h_21 : Φ2 (x + 79) = some (ai_ G 4 sn.2.1) := ((hF2 (x + 79) fq_766).trans ((hF1 (x + 79) fq_771).trans h_7))
          have hcg6 : SdP G x (suC c (nI n_1) b) (f_2, sn.2) uZ0 Φ2 := ⟨f_1, h_18, h_19, h_20, fun j9 h9 => absurd h9 (Nat.not_lt_zero j9), Nat.zero_le 12, h_17, h_21⟩
          exact zb_ret (Nat.le_of_ble_eq_true rfl) (Nat.le_of_ble_eq_true rfl) (z_ret_z B dX11_setSupport_71 (by decide) ⟨⟨congrArg (fun w9 : Int32 => some (Value.int w9)) hv1.symm, ⟨by rw [nI_toInt (by omega)]; omega, by rw [nI_toInt (by omega)]; omega⟩, su_ne (fun h9 => c_4 (hv1.symm.trans h9)) hcf0.2.1.2 e_3 hcg5, f_2, hcg6, Or.inr ⟨fun h9 => c_4 (hv1.symm.trans h9), fun j9 h9 => (e_4 j9 h9).trans fgW_9⟩⟩, rfl, hI2, (fun b9 h9 => ((hF2 b9 (fun j9 h8 h7 => h9 j9 h8 (fq_716 j9 h7))).trans ((hF1 b9 (fun j9 h8 h7 => h9 j9 h8 (fq_720 j9 h7))).trans rfl)))⟩)
      · have hv2 : suV c (nI n_1) = 1 := suV_1 (by show ((c 9 >>> (nI n_1 &&& 31)) &&& 1 = 1); rw [hcf0.2.1.2]; exact c_3)
        refine z_iconst (v := 1) B dX11_setSupport_33 rfl ?_
        refine z_goto (tgt := 38) B dX11_setSupport_34 rfl ?_
        refine z_istore_n (lv' := [(3, .int 1), (0, .ref x), (1, .int (nI n_1)), (2, .int b)]) B dX11_setSupport_38 rfl (Nat.le_of_ble_eq_true rfl) rfl ?_
        refine z_iload_n B dX11_setSupport_39 rfl 0 rfl ?_
        refine z_iload_n B dX11_setSupport_40 rfl 3 rfl ?_
        refine z_icmp_eq (tgt := 70) B dX11_setSupport_41 rfl (fun c_5 => ?_) (fun c_5 => ?_)
        · refine z_iload_n B dX11_setSupport_70 rfl 0 rfl ?_
          have hcg7 : SdP G x (suC c (nI n_1) b) (sn.1, sn.2) uZ0 Φ := ⟨f_1, h_1, h_2, h_3, fun j9 h9 => absurd h9 (Nat.not_lt_zero j9), Nat.zero_le 12, h_6, h_7⟩
          exact zb_ret (Nat.le_of_ble_eq_true rfl) (Nat.le_of_ble_eq_true rfl) (z_ret_z B dX11_setSupport_71 (by decide) ⟨⟨congrArg (fun w9 : Int32 => some (Value.int w9)) hv2.symm, ⟨by rw [nI_toInt (by omega)]; omega, by rw [nI_toInt (by omega)]; omega⟩, su_eq (hv2.trans c_5) hcf0, sn.1, hcg7, Or.inl ⟨hv2.trans c_5, rfl⟩⟩, rfl, hI, (fun b9 h9 => rfl)⟩)
        · refine z_aload_n B dX11_setSupport_44 rfl 1 rfl ?_
          refine z_get (ref := "FlowExporter") (C := RX11) (T := TX11) (N := 8) (ci := 13) (v := .ref (x + 3)) B hu_X11_setSupport_X11 rfl 1 (Nat.le_of_ble_eq_true rfl) hv_X11_setSupport_21 rfl h_9 rfl dX11_setSupport_45 ?_
          refine z_aload_n B dX11_setSupport_48 rfl 1 rfl ?_
          refine z_get (ref := "FlowExporter") (C := RX11) (T := TX11) (N := 8) (ci := 13) (v := .ref (x + 3)) B hu_X11_setSupport_X11 rfl 1 (Nat.le_of_ble_eq_true rfl) hv_X11_setSupport_21 rfl h_9 rfl dX11_setSupport_49 ?_
          have h_22 : Φ (x + 3) = some (o_ 3 [.ref (x + 4), .ref (x + 5), .ref (x + 6), .ref (x + 7), .int (nI t), .int (nI s)]) := CfA.obj hcf0
          have b_4 := hcf0.1.2.1
          refine z_get (ref := "FlowExporter$Config") (C := RX1) (T := TX1) (N := 6) (ci := 3) (v := .int (nI s)) B hu_X11_setSupport_X1 rfl 5 (Nat.le_of_ble_eq_true rfl) hv_X11_setSupport_215 rfl h_22 rfl dX11_setSupport_52 ?_
          refine z_iconst (v := 1) B dX11_setSupport_55 rfl ?_
          refine z_iload_n B dX11_setSupport_56 rfl 2 rfl ?_
          refine z_ishl B dX11_setSupport_57 ?_
          refine z_ixor B dX11_setSupport_58 ?_
          have hcg8 := CfA.q hcf0
          obtain ⟨q_3, b_5, e_5⟩ := xor_k s hcf0.2.1.1 n_1 (by omega)
          refine z_top (st1 := [.int (nI q_3), .ref (x + 3)]) (congrArg (fun w9 : Int32 => ([.int w9, .ref (x + 3)] : List Value)) (e_5)) ?_
          obtain ⟨v_3, v_4, h_23⟩ := in3 (k := 3) hI rfl
          have h_24 : Φ (x + 3) = some (o_ 3 [.ref (x + 4), .ref (x + 5), .ref (x + 6), .ref (x + 7), .int v_3, .int v_4]) := h_23
          refine z_callV (As := [.int (nI q_3)]) (rest := []) B (s_X1_supportF G l Φ sz x (ca) t c q_3 hx hI hcg8 (show q_3 < 512 by omega)) (cwV 1 B.1.2.2.2.2 gX11_setSupport_X1_support rfl rfl rfl (by decide +kernel) ⟨Nat.le_of_ble_eq_true rfl, Nat.le_of_ble_eq_true rfl⟩) h_24 rfl rfl rfl rfl (Nat.le_of_ble_eq_true rfl) dX11_setSupport_59 ⟨Nat.le_of_ble_eq_true rfl, Nat.le_of_ble_eq_true rfl⟩ (fun r_3 Φ3 sz3 st3 hp3 hs3 => ?_)
          obtain ⟨⟨rfl, hcg9, hE2⟩, hq3, hI3, hF3⟩ := hp3
          subst sz3
          replace hs3 : st3 = [] := hs3
          subst st3
          replace hI3 : In G x (ca) Φ3 := hI3
          have hcg10 : CfA G x t q_3 (upd c 9 (nI q_3)) Φ3 := ⟨hcg9, ⟨b_5, upd_at⟩, hE2⟩
          refine z_aload_n B dX11_setSupport_62 rfl 1 rfl ?_
          have h_25 : Φ3 x = some (o_ 13 [.ref (x + 1), .ref (x + 3), .ref (x + 24), .ref (x + 46), .ref (x + 74), .ref (x + 80), .ref (x + 132), .ref (x + 121)]) := ((hF3 x fq_719).trans h_9)
          refine z_get (ref := "FlowExporter") (C := RX11) (T := TX11) (N := 8) (ci := 13) (v := .ref (x + 74)) B hu_X11_setSupport_X11 rfl 4 (Nat.le_of_ble_eq_true rfl) hv_X11_setSupport_46 rfl h_25 rfl dX11_setSupport_63 ?_
          refine z_iload_n B dX11_setSupport_66 rfl 2 rfl ?_
          have h_26 : Φ3 (x + 78) = some (ai_ G 4 sn.1) := ((hF3 (x + 78) fq_767).trans h_6)
          have h_27 : Φ3 (x + 74) = some (o_ 10 [.ref (x + 3), .ref (x + 46), .ref (x + 75), .ref (x + 77), .int (nI (uZ0.2.1)), .ref (x + 78), .ref (x + 79), .int sn.2.2.1, .long sn.2.2.2.1, .int sn.2.2.2.2]) := ((hF3 (x + 74) fq_768).trans h_1)
          refine z_callV (As := [.int (nI n_1)]) (rest := []) B (s_X8_forgetTemplatesWithX G l Φ3 sz x (ca) sn.1 t q_3 (upd c 9 (nI q_3)) n_1 hx hI3 h_26 hcg10 (show n_1 < 9 by omega) (CfG_9 hg)) (cwV 1 B.1.2.2.2.2 gX11_setSupport_X8_forgetTemplatesWith rfl rfl rfl (by decide +kernel) ⟨Nat.le_of_ble_eq_true rfl, Nat.le_of_ble_eq_true rfl⟩) h_27 rfl rfl rfl rfl (Nat.le_of_ble_eq_true rfl) dX11_setSupport_67 ⟨Nat.le_of_ble_eq_true rfl, Nat.le_of_ble_eq_true rfl⟩ (fun r_4 Φ4 sz4 st4 hp4 hs4 => ?_)
          obtain ⟨⟨f_3, rfl, h_28, e_6⟩, hq4, hI4, hF4⟩ := hp4
          subst sz4
          replace hs4 : st4 = [] := hs4
          subst st4
          replace hI4 : In G x (ca) Φ4 := hI4
          replace e_6 : ∀ j9, j9 < 4 → f_3 j9 = fgW (upd c 9 (nI q_3)) (nI n_1) (sn.1) j9 := e_6
          refine z_iload_n B dX11_setSupport_70 rfl 0 rfl ?_
          have hcg11 : CfA G x t q_3 (upd c 9 (nI q_3)) Φ4 := (CfA.fr hcg10 hF4 (fun j9 h7 => by have h6 : j9 = 78 := h7; intros; omega))
          have h_29 : Φ4 (x + 74) = some (o_ 10 [.ref (x + 3), .ref (x + 46), .ref (x + 75), .ref (x + 77), .int (nI (uZ0.2.1)), .ref (x + 78), .ref (x + 79), .int sn.2.2.1, .long sn.2.2.2.1, .int sn.2.2.2.2]) := ((hF4 (x + 74) fq_724).trans h_27)
          have h_30 : Φ4 (x + 75) = some (o_ 7 [.ref (x + 76), .int (nI ((plN c uZ0.2.2 uZ0.2.1)))]) := ((hF4 (x + 75) fq_725).trans ((hF3 (x + 75) fq_769).trans h_2))
          have h_31 : Φ4 (x + 77) = some (ai_ G 12 f_1) := ((hF4 (x + 77) fq_765).trans ((hF3 (x + 77) fq_770).trans h_3))
          have h_32 : Φ4 (x + 79) = some (ai_ G 4 sn.2.1) := ((hF4 (x + 79) fq_766).trans ((hF3 (x + 79) fq_771).trans h_7))
          have hcg12 : SdP G x (suC c (nI n_1) b) (f_3, sn.2) uZ0 Φ4 := ⟨f_1, h_29, h_30, h_31, fun j9 h9 => absurd h9 (Nat.not_lt_zero j9), Nat.zero_le 12, h_28, h_32⟩
          exact zb_ret (Nat.le_of_ble_eq_true rfl) (Nat.le_of_ble_eq_true rfl) (z_ret_z B dX11_setSupport_71 (by decide) ⟨⟨congrArg (fun w9 : Int32 => some (Value.int w9)) hv2.symm, ⟨by rw [nI_toInt (by omega)]; omega, by rw [nI_toInt (by omega)]; omega⟩, su_ne (fun h9 => c_5 (hv2.symm.trans h9)) hcf0.2.1.2 e_5 hcg11, f_3, hcg12, Or.inr ⟨fun h9 => c_5 (hv2.symm.trans h9), fun j9 h9 => (e_6 j9 h9).trans fgW_9⟩⟩, rfl, hI4, (fun b9 h9 => ((hF4 b9 (fun j9 h8 h7 => h9 j9 h8 (fq_716 j9 h7))).trans ((hF3 b9 (fun j9 h8 h7 => h9 j9 h8 (fq_720 j9 h7))).trans rfl)))⟩)
    · have e_7 : ¬ (n_1 < 9) := fun h9 => c_2 ((nI_ltI (a := n_1) (b := 9) (by omega) (by omega)).mpr h9)
      have k_2 : (nI n_1).toInt = ((n_1 : Nat) : Int) := nI_toInt (by omega)
      have k_3 : (0 : Int32).toInt = 0 := by decide
      have q_4 : ¬ ((nI n_1).toInt < (0 : Int32).toInt) := fun h9 => c_1 (Int32.lt_iff_toInt_lt.mpr h9)
      have k_4 : (9 : Int32).toInt = 9 := by decide
      have q_5 : ¬ ((nI n_1).toInt < (9 : Int32).toInt) := fun h9 => c_2 (Int32.lt_iff_toInt_lt.mpr h9)
      exact zb_throw (cls := xIA) (ik := 116) (ic := 118) B hl9 htab9 (by decide) ⟨(fun h9 => by obtain ⟨h8, h7⟩ := h9; omega), hI, (fun b9 h9 => rfl)⟩ (by decide) (by decide +kernel) (by decide +kernel) (by decide +kernel) (by decide +kernel) (by decide +kernel) (by decide +kernel) (by decide +kernel) dX11_setSupport_10 dX11_setSupport_13 dX11_setSupport_14 dX11_setSupport_17 ⟨Nat.le_of_ble_eq_true rfl, Nat.le_of_ble_eq_true rfl, Nat.le_of_ble_eq_true rfl, Nat.le_of_ble_eq_true rfl⟩ ⟨Nat.le_of_ble_eq_true rfl, Nat.le_of_ble_eq_true rfl⟩

set_option maxHeartbeats 4000000 in
set_option maxRecDepth 100000 in
theorem s_X7_clearX (G : EnvG) (l : Launch) (Φ : Hm) (sz x ca : Nat) (qn : Nat) (qL : Nat → Nat) (qd : Int32) (qp : Nat → Nat) (hx : G.2.2.2 ≤ x) (hI : In G x ca Φ) (hcf0 : QbR G x qn qL qd qp Φ) : Ct G l yX7_clear wsX7_clear ({ frames := 0, cells := 0, slots := 0, locals := 0 }) 0 0 [.ref (x + 46)] Φ sz (fun v Φ1 sz1 => (v = none ∧ QbR G x 0 (fun _ => 0) 0 qp Φ1) ∧ sz1 = sz ∧ In G x (ca) Φ1 ∧ Fr x (fun j9 => j9 = 46) Φ Φ1) := by
  refine Ct.of (cc := cX7_clear) (maxL := 1) (ret := none) (by decide) rfl (Nat.le_of_ble_eq_true rfl) ?_
  intro p9 e9 s9 m9 w9 t9 k9 B
  show Z p9 l e9 _ s9 m9 _ w9 t9 k9 _ G 1 0 [(0, .ref (x + 46))] [] Φ sz 0 0
  have h_1 : Φ (x + 46) = some (o_ 9 [.ref (x + 47), .int (nI qn), .int qd]) := hcf0.1
  have b_1 : qn ≤ 12 := QbR.le hcf0
  refine z_aload_n B dX7_clear_0 rfl 0 rfl ?_
  refine z_iconst (v := 0) B dX7_clear_1 rfl ?_
  refine z_put (ref := "FlowExporter$Queue") (C := RX7) (T := TX7) (N := 3) (ci := 9) (v := .int 0) B hu_X7_clear_X7 tyX7 tyX7_ok nmX7 rfl 1 (Nat.le_of_ble_eq_true rfl) hv_X7_clear_17 rfl (Or.inl rfl) h_1 (Nat.le_trans hx (Nat.le_add_right x 46)) rfl rfl (Nat.le_of_ble_eq_true rfl) dX7_clear_2 (fun Φ1 hΦ1 => ?_)
  have h_2 : Φ1 (x + 46) = some (o_ 9 [.ref (x + 47), .int 0, .int qd]) := fset_at hΦ1
  have hI1 : In G x (ca) Φ1 := In.put (k := 46) hI hΦ1 (ok11 (k := 46) rfl ⟨0, qd, rfl, (show 0 ≤ 12 by omega)⟩)
  refine z_aload_n B dX7_clear_5 rfl 0 rfl ?_
  refine z_iconst (v := 0) B dX7_clear_6 rfl ?_
  refine z_put (ref := "FlowExporter$Queue") (C := RX7) (T := TX7) (N := 3) (ci := 9) (v := .int 0) B hu_X7_clear_X7 tyX7 tyX7_ok nmX7 rfl 2 (Nat.le_of_ble_eq_true rfl) hv_X7_clear_21 rfl (Or.inl rfl) h_2 (Nat.le_trans hx (Nat.le_add_right x 46)) rfl rfl (Nat.le_of_ble_eq_true rfl) dX7_clear_7 (fun Φ2 hΦ2 => ?_)
  have h_3 : Φ2 (x + 46) = some (o_ 9 [.ref (x + 47), .int 0, .int 0]) := fset_at hΦ2
  have hI2 : In G x (ca) Φ2 := In.put (k := 46) hI1 hΦ2 (ok11 (k := 46) rfl ⟨0, 0, rfl, (show 0 ≤ 12 by omega)⟩)
  exact z_ret_v B dX7_clear_10 ⟨⟨rfl, QbR.z hcf0 (h_3.trans (congrArg (fun w9 : Nat => some (o_ 9 [.ref (x + 47), .int (nI w9), .int 0])) (show 0 = 0 by omega))) ((fset_fr hΦ2 (by omega)).trans ((fset_fr hΦ1 (by omega)).trans rfl))⟩, rfl, hI2, (fun b9 h9 => ((fset_fr hΦ2 (fun h8 => h9 (46) h8 (show 46 = 46 by decide))).trans ((fset_fr hΦ1 (fun h8 => h9 (46) h8 (show 46 = 46 by decide))).trans rfl)))⟩

theorem fq_772 {x : Nat} : ∀ j9 : Nat, x + 80 = x + j9 → (j9 = 74 ∨ (j9 = 75 ∨ j9 = 78)) → False := by
  intro j9 h1 h2
  omega

theorem fq_773 {x : Nat} : ∀ j9 : Nat, x + 81 = x + j9 → (j9 = 74 ∨ (j9 = 75 ∨ j9 = 78)) → False := by
  intro j9 h1 h2
  omega

theorem fq_774 : ∀ j9 : Nat, (j9 = 74 ∨ (j9 = 75 ∨ j9 = 78)) → ¬ (82 ≤ j9 ∧ j9 < 95) := by
  intro j9 h
  omega

theorem fq_775 {x : Nat} : ∀ j9 : Nat, x + 77 = x + j9 → (j9 = 74 ∨ (j9 = 75 ∨ j9 = 78)) → False := by
  intro j9 h1 h2
  omega

theorem fq_776 {x : Nat} : ∀ j9 : Nat, x + 79 = x + j9 → (j9 = 74 ∨ (j9 = 75 ∨ j9 = 78)) → False := by
  intro j9 h1 h2
  omega

theorem fq_777 : ∀ j9 : Nat, (j9 = 74 ∨ (j9 = 75 ∨ j9 = 78)) → (74 ≤ j9 ∧ j9 < 82) := by
  intro j9 h
  omega

set_option maxHeartbeats 4000000 in
set_option maxRecDepth 100000 in
theorem s_X11_restartExporterS (G : EnvG) (l : Launch) (Φ : Hm) (sz x ca : Nat) (tm : Nat) (r : Nat) (w : Nat) (aq : Int32) (xp : Int32) (xb : Int32) (ob : Int64) (sm : Int64) (un : UN) (n : Nat) (Fs : Nat → Fl) (pp : Nat → Nat) (c : Cf) (sn : SN) (hx : G.2.2.2 ≤ x) (hI : In G x ca Φ) (hc0 : Φ (x + 80) = some (o_ 4 [.ref (x + 3), .ref (x + 74), .ref (x + 81), .ref (x + 95), .int (nI tm), .int (nI r), .int (nI w), .int aq, .int xp, .int xb, .long ob, .long sm, .long (un.1)])) (hc1 : Φ (x + 81) = some (o_ 6 [.ref (x + 82), .int (nI n)])) (hcf0 : TbC G x n 99 Fs pp Φ) (hcf1 : SdP G x c sn uZ0 Φ) (had : aq = 0 ∨ aq = 1) : Ct G l yX11_restartExporter wsX11_restartExporter ({ frames := 3, cells := 0, slots := 0, locals := 63 }) 0 0 [.ref x] Φ sz (fun v Φ1 sz1 => (v = some (.int (nI n)) ∧ Φ1 (x + 80) = some (o_ 4 [.ref (x + 3), .ref (x + 74), .ref (x + 81), .ref (x + 95), .int (nI tm), .int (nI r), .int (nI w), .int aq, .int xp, .int xb, .long ob, .long sm, .long (un.1)]) ∧ Φ1 (x + 81) = some (o_ 6 [.ref (x + 82), .int (nI 0)]) ∧ TbC G x 0 99 Fs pp Φ1 ∧ SdP G x c ((fun _ => 0), sn.2.1, sn.2.2.1, sn.2.2.2.1, 0) uZ0 Φ1) ∧ sz1 = sz ∧ In G x (ca) Φ1 ∧ Fr x (fun j9 => 74 ≤ j9 ∧ j9 < 82) Φ Φ1) := by
  refine Ct.of (cc := cX11_restartExporter) (maxL := 2) (ret := (some .int)) (by decide) rfl (Nat.le_of_ble_eq_true rfl) ?_
  intro p9 e9 s9 m9 w9 t9 k9 B
  show Z p9 l e9 _ s9 m9 _ w9 t9 k9 _ G 2 0 [(0, .ref x)] [] Φ sz 0 0
  obtain ⟨f_1, h_1, h_2, h_3, h_4, h_5, h_6, h_7⟩ := hcf1
  refine z_aload_n B dX11_restartExporter_0 rfl 0 rfl ?_
  have h_8 := in0 (k := 0) hI rfl
  have h_9 : Φ x = some (o_ 13 [.ref (x + 1), .ref (x + 3), .ref (x + 24), .ref (x + 46), .ref (x + 74), .ref (x + 80), .ref (x + 132), .ref (x + 121)]) := h_8
  refine z_get (ref := "FlowExporter") (C := RX11) (T := TX11) (N := 8) (ci := 13) (v := .ref (x + 80)) B hu_X11_restartExporter_X11 rfl 5 (Nat.le_of_ble_eq_true rfl) hv_X11_restartExporter_55 rfl h_9 rfl dX11_restartExporter_1 ?_
  refine z_get (ref := "FlowExporter$Exporter") (C := RX2) (T := TX2) (N := 13) (ci := 4) (v := .ref (x + 81)) B hu_X11_restartExporter_X2 rfl 2 (Nat.le_of_ble_eq_true rfl) hv_X11_restartExporter_146 rfl hc0 rfl dX11_restartExporter_4 ?_
  refine z_get (ref := "FlowExporter$FlowTable") (C := RX4) (T := TX4) (N := 2) (ci := 6) (v := .int (nI n)) B hu_X11_restartExporter_X4 rfl 1 (Nat.le_of_ble_eq_true rfl) hv_X11_restartExporter_150 rfl hc1 rfl dX11_restartExporter_7 ?_
  refine z_istore_n (lv' := [(1, .int (nI n)), (0, .ref x)]) B dX11_restartExporter_10 rfl (Nat.le_of_ble_eq_true rfl) rfl ?_
  refine z_aload_n B dX11_restartExporter_11 rfl 1 rfl ?_
  refine z_get (ref := "FlowExporter") (C := RX11) (T := TX11) (N := 8) (ci := 13) (v := .ref (x + 80)) B hu_X11_restartExporter_X11 rfl 5 (Nat.le_of_ble_eq_true rfl) hv_X11_restartExporter_55 rfl h_9 rfl dX11_restartExporter_12 ?_
  refine z_get (ref := "FlowExporter$Exporter") (C := RX2) (T := TX2) (N := 13) (ci := 4) (v := .ref (x + 81)) B hu_X11_restartExporter_X2 rfl 2 (Nat.le_of_ble_eq_true rfl) hv_X11_restartExporter_146 rfl hc0 rfl dX11_restartExporter_15 ?_
  refine z_iconst (v := 0) B dX11_restartExporter_18 rfl ?_
  refine z_put (ref := "FlowExporter$FlowTable") (C := RX4) (T := TX4) (N := 2) (ci := 6) (v := .int 0) B hu_X11_restartExporter_X4 tyX4 tyX4_ok nmX4 rfl 1 (Nat.le_of_ble_eq_true rfl) hv_X11_restartExporter_150 rfl (Or.inl rfl) hc1 (Nat.le_trans hx (Nat.le_add_right x 81)) rfl rfl (Nat.le_of_ble_eq_true rfl) dX11_restartExporter_19 (fun Φ1 hΦ1 => ?_)
  have h_10 : Φ1 (x + 81) = some (o_ 6 [.ref (x + 82), .int 0]) := fset_at hΦ1
  have hI1 : In G x (ca) Φ1 := In.put (k := 81) hI hΦ1 (ok17 (k := 81) rfl ⟨0, rfl, (show 0 ≤ 12 by omega)⟩)
  refine z_aload_n B dX11_restartExporter_22 rfl 1 rfl ?_
  have h_11 : Φ1 x = some (o_ 13 [.ref (x + 1), .ref (x + 3), .ref (x + 24), .ref (x + 46), .ref (x + 74), .ref (x + 80), .ref (x + 132), .ref (x + 121)]) := ((fset_fr hΦ1 (ne_off (x := x) (i := 0) (j := 81) rfl)).trans h_9)
  refine z_get (ref := "FlowExporter") (C := RX11) (T := TX11) (N := 8) (ci := 13) (v := .ref (x + 74)) B hu_X11_restartExporter_X11 rfl 4 (Nat.le_of_ble_eq_true rfl) hv_X11_restartExporter_46 rfl h_11 rfl dX11_restartExporter_23 ?_
  have h_12 : Φ1 (x + 74) = some (o_ 10 [.ref (x + 3), .ref (x + 46), .ref (x + 75), .ref (x + 77), .int (nI (uZ0.2.1)), .ref (x + 78), .ref (x + 79), .int (sn.2.2.1), .long (sn.2.2.2.1), .int (sn.2.2.2.2)]) := ((fset_fr hΦ1 (ne_off (x := x) (i := 74) (j := 81) rfl)).trans h_1)
  have h_13 : Φ1 (x + 75) = some (o_ 7 [.ref (x + 76), .int (nI ((plN c uZ0.2.2 uZ0.2.1)))]) := ((fset_fr hΦ1 (ne_off (x := x) (i := 75) (j := 81) rfl)).trans h_2)
  have h_14 : Φ1 (x + 78) = some (ai_ G 4 sn.1) := ((fset_fr hΦ1 (ne_off (x := x) (i := 78) (j := 81) rfl)).trans h_6)
  refine z_callV (As := []) (rest := []) B (s_X8_restartX G l Φ1 sz x (ca) uZ0.2.1 sn.2.2.1 sn.2.2.2.1 sn.2.2.2.2 (plN c uZ0.2.2 uZ0.2.1) sn.1 hx hI1 h_12 h_13 h_14) (cwV 0 B.1.2.2.2.2 gX11_restartExporter_X8_restart rfl rfl rfl (by decide +kernel) ⟨Nat.le_of_ble_eq_true rfl, Nat.le_of_ble_eq_true rfl⟩) h_12 rfl rfl rfl rfl (Nat.le_of_ble_eq_true rfl) dX11_restartExporter_26 ⟨Nat.le_of_ble_eq_true rfl, Nat.le_of_ble_eq_true rfl⟩ (fun r_1 Φ2 sz1 st1 hp1 hs1 => ?_)
  obtain ⟨⟨rfl, h_15, h_16, h_17⟩, hq1, hI2, hF1⟩ := hp1
  subst sz1
  replace hs1 : st1 = [] := hs1
  subst st1
  replace hI2 : In G x (ca) Φ2 := hI2
  refine z_iload_n B dX11_restartExporter_29 rfl 0 rfl ?_
  have h_18 : Φ2 (x + 80) = some (o_ 4 [.ref (x + 3), .ref (x + 74), .ref (x + 81), .ref (x + 95), .int (nI tm), .int (nI r), .int (nI w), .int aq, .int xp, .int xb, .long ob, .long sm, .long (un.1)]) := ((hF1 (x + 80) fq_772).trans ((fset_fr hΦ1 (ne_off (x := x) (i := 80) (j := 81) rfl)).trans hc0))
  have h_19 : Φ2 (x + 81) = some (o_ 6 [.ref (x + 82), .int 0]) := ((hF1 (x + 81) fq_773).trans h_10)
  have hcg1 : TbC G x n 99 Fs pp Φ2 := (TbC.fr (TbC.off (k := 81) hcf0 hΦ1 (by omega)) hF1 (fun j9 h7 => fq_774 j9 h7))
  have h_20 : Φ2 (x + 77) = some (ai_ G 12 f_1) := ((hF1 (x + 77) fq_775).trans ((fset_fr hΦ1 (ne_off (x := x) (i := 77) (j := 81) rfl)).trans h_3))
  have h_21 : Φ2 (x + 79) = some (ai_ G 4 sn.2.1) := ((hF1 (x + 79) fq_776).trans ((fset_fr hΦ1 (ne_off (x := x) (i := 79) (j := 81) rfl)).trans h_7))
  have hcg2 : SdP G x c ((fun _ => 0), sn.2.1, sn.2.2.1, sn.2.2.2.1, 0) uZ0 Φ2 := ⟨f_1, h_15, h_16, h_20, fun j9 h9 => absurd h9 (Nat.not_lt_zero j9), Nat.zero_le 12, h_17, h_21⟩
  exact z_ret_i B dX11_restartExporter_30 ⟨⟨rfl, h_18, h_19, (TbR.less hcg1 (Nat.zero_le _)), hcg2⟩, rfl, hI2, (fun b9 h9 => ((hF1 b9 (fun j9 h8 h7 => h9 j9 h8 (fq_777 j9 h7))).trans ((fset_fr hΦ1 (fun h8 => h9 (81) h8 (show 74 ≤ 81 ∧ 81 < 82 by decide))).trans rfl)))⟩

theorem fq_778 {x : Nat} : ∀ j9 : Nat, x = x + j9 → (j9 = 74 ∨ (j9 = 75 ∨ j9 = 78)) → False := by
  intro j9 h1 h2
  omega

theorem fq_779 {x : Nat} : ∀ j9 : Nat, x + 81 = x + j9 → (3 ≤ j9 ∧ j9 < 24) → False := by
  intro j9 h1 h2
  omega

theorem fq_780 {x : Nat} : ∀ j9 : Nat, x + 81 = x + j9 → (j9 = 46) → False := by
  intro j9 h1 h2
  omega

theorem fq_781 {x : Nat} : ∀ j9 : Nat, x + 95 = x + j9 → (3 ≤ j9 ∧ j9 < 24) → False := by
  intro j9 h1 h2
  omega

theorem fq_782 {x : Nat} : ∀ j9 : Nat, x + 95 = x + j9 → (j9 = 46) → False := by
  intro j9 h1 h2
  omega

theorem fq_783 {x : Nat} : ∀ j9 : Nat, x + 95 = x + j9 → (j9 = 74 ∨ (j9 = 75 ∨ j9 = 78)) → False := by
  intro j9 h1 h2
  omega

theorem fq_784 : ∀ j9 : Nat, (3 ≤ j9 ∧ j9 < 24) → ¬ (82 ≤ j9 ∧ j9 < 95) := by
  intro j9 h
  omega

theorem fq_785 : ∀ j9 : Nat, (j9 = 46) → ¬ (82 ≤ j9 ∧ j9 < 95) := by
  intro j9 h
  omega

theorem fq_786 : ∀ j9 : Nat, (3 ≤ j9 ∧ j9 < 24) → ¬ (96 ≤ j9 ∧ j9 < 121) := by
  intro j9 h
  omega

theorem fq_787 : ∀ j9 : Nat, (j9 = 46) → ¬ (96 ≤ j9 ∧ j9 < 121) := by
  intro j9 h
  omega

theorem fq_788 : ∀ j9 : Nat, (j9 = 74 ∨ (j9 = 75 ∨ j9 = 78)) → ¬ (96 ≤ j9 ∧ j9 < 121) := by
  intro j9 h
  omega

theorem fq_789 {x : Nat} : ∀ j9 : Nat, x + 81 = x + j9 → (132 ≤ j9 ∧ j9 < 149) → False := by
  intro j9 h1 h2
  omega

theorem fq_790 {x : Nat} : ∀ j9 : Nat, x + 95 = x + j9 → (132 ≤ j9 ∧ j9 < 149) → False := by
  intro j9 h1 h2
  omega

theorem fq_791 : ∀ j9 : Nat, (132 ≤ j9 ∧ j9 < 149) → ¬ (82 ≤ j9 ∧ j9 < 95) := by
  intro j9 h
  omega

theorem fq_792 : ∀ j9 : Nat, (132 ≤ j9 ∧ j9 < 149) → ¬ (96 ≤ j9 ∧ j9 < 121) := by
  intro j9 h
  omega

theorem fq_793 : ∀ j9 : Nat, (j9 = 74 ∨ (j9 = 75 ∨ j9 = 78)) → ((3 ≤ j9 ∧ j9 < 24) ∨ (46 ≤ j9 ∧ j9 < 149)) := by
  intro j9 h
  omega

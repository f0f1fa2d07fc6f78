set_option maxHeartbeats 4000000 in
set_option maxRecDepth 100000 in
theorem s_X11_requirePackets (G : EnvG) (l : Launch) (hl9 : l.stackTraces = false) (Φ : Hm) (sz x ca : Nat) (a : Int64) (b : Int32) (d : Int32) (hx : G.2.2.2 ≤ x) (hI : In G x ca Φ)  : CtB G l yX11_requirePackets wsX11_requirePackets ({ frames := 6, cells := 1, slots := 6, locals := 81 }) 1 6 [.long a, .int b, .int d] Φ sz (fun v Φ1 sz1 => (v = none) ∧ sz1 = sz ∧ In G x (ca) Φ1 ∧ Fr x (fun j9 => False) Φ Φ1) (fun Φ1 => In G x ca Φ1 ∧ Fr x (fun j9 => False) Φ Φ1) [xIA] := by
  refine CtB.of (cc := cX11_requirePackets) (maxL := 4) (ret := none) (by decide) rfl (Nat.le_of_ble_eq_true rfl) ?_
  intro p9 e9 s9 m9 w9 t9 k9 B htab9
  show Z p9 l e9 _ s9 m9 _ w9 t9 k9 _ G 4 0 [(0, .long a), (2, .int b), (3, .int d)] [] Φ sz 0 0
  refine z_lload_n B dX11_requirePackets_0 rfl 0 rfl ?_
  refine z_ldc2 (v := (-1)) B (by decide +kernel) dX11_requirePackets_1 ?_
  refine z_lcmp B dX11_requirePackets_4 ?_
  refine z_fi (fun v_1 => ?_)
  refine z_if_eq (tgt := 31) B dX11_requirePackets_5 rfl (fun c_1 => ?_) (fun c_1 => ?_)
  · exact zb_throw (cls := xIA) (ik := 116) (ic := 118) B hl9 htab9 (by decide) ⟨hI, (fun b9 h9 => rfl)⟩ (by decide) (by decide +kernel) (by decide +kernel) (by decide +kernel) (by decide +kernel) (by decide +kernel) (by decide +kernel) (by decide +kernel) dX11_requirePackets_31 dX11_requirePackets_34 dX11_requirePackets_35 dX11_requirePackets_38 ⟨Nat.le_of_ble_eq_true rfl, Nat.le_of_ble_eq_true rfl, Nat.le_of_ble_eq_true rfl, Nat.le_of_ble_eq_true rfl⟩ ⟨Nat.le_of_ble_eq_true rfl, Nat.le_of_ble_eq_true rfl⟩
  · refine z_iload_n B dX11_requirePackets_8 rfl 1 rfl ?_
    refine z_iconst (v := 1) B dX11_requirePackets_9 rfl ?_
    refine z_icmp_lt (tgt := 31) B dX11_requirePackets_10 rfl (fun c_2 => ?_) (fun c_2 => ?_)
    · exact zb_throw (cls := xIA) (ik := 116) (ic := 118) B hl9 htab9 (by decide) ⟨hI, (fun b9 h9 => rfl)⟩ (by decide) (by decide +kernel) (by decide +kernel) (by decide +kernel) (by decide +kernel) (by decide +kernel) (by decide +kernel) (by decide +kernel) dX11_requirePackets_31 dX11_requirePackets_34 dX11_requirePackets_35 dX11_requirePackets_38 ⟨Nat.le_of_ble_eq_true rfl, Nat.le_of_ble_eq_true rfl, Nat.le_of_ble_eq_true rfl, Nat.le_of_ble_eq_true rfl⟩ ⟨Nat.le_of_ble_eq_true rfl, Nat.le_of_ble_eq_true rfl⟩
    · obtain ⟨n_1, e_2, e_1, rfl⟩ := nI_ofge (c := 1) (by omega) c_2
      refine z_iload_n B dX11_requirePackets_13 rfl 1 rfl ?_
      refine z_ldc (v := 65535) B (by decide +kernel) dX11_requirePackets_14 ?_
      refine z_icmp_gt (tgt := 31) B dX11_requirePackets_16 rfl (fun c_3 => ?_) (fun c_3 => ?_)
      · have e_3 : 65535 < n_1 := (nI_ltI (a := 65535) (b := n_1) (by omega) (by omega)).mp c_3
        exact zb_throw (cls := xIA) (ik := 116) (ic := 118) B hl9 htab9 (by decide) ⟨hI, (fun b9 h9 => rfl)⟩ (by decide) (by decide +kernel) (by decide +kernel) (by decide +kernel) (by decide +kernel) (by decide +kernel) (by decide +kernel) (by decide +kernel) dX11_requirePackets_31 dX11_requirePackets_34 dX11_requirePackets_35 dX11_requirePackets_38 ⟨Nat.le_of_ble_eq_true rfl, Nat.le_of_ble_eq_true rfl, Nat.le_of_ble_eq_true rfl, Nat.le_of_ble_eq_true rfl⟩ ⟨Nat.le_of_ble_eq_true rfl, Nat.le_of_ble_eq_true rfl⟩
      · have e_4 : ¬ (65535 < n_1) := fun h9 => c_3 ((nI_ltI (a := 65535) (b := n_1) (by omega) (by omega)).mpr h9)
        refine z_iload_n B dX11_requirePackets_19 rfl 2 rfl ?_
        refine z_iconst (v := 1) B dX11_requirePackets_20 rfl ?_
        refine z_icmp_lt (tgt := 31) B dX11_requirePackets_21 rfl (fun c_4 => ?_) (fun c_4 => ?_)
        · exact zb_throw (cls := xIA) (ik := 116) (ic := 118) B hl9 htab9 (by decide) ⟨hI, (fun b9 h9 => rfl)⟩ (by decide) (by decide +kernel) (by decide +kernel) (by decide +kernel) (by decide +kernel) (by decide +kernel) (by decide +kernel) (by decide +kernel) dX11_requirePackets_31 dX11_requirePackets_34 dX11_requirePackets_35 dX11_requirePackets_38 ⟨Nat.le_of_ble_eq_true rfl, Nat.le_of_ble_eq_true rfl, Nat.le_of_ble_eq_true rfl, Nat.le_of_ble_eq_true rfl⟩ ⟨Nat.le_of_ble_eq_true rfl, Nat.le_of_ble_eq_true rfl⟩
        · obtain ⟨n_2, e_6, e_5, rfl⟩ := nI_ofge (c := 1) (by omega) c_4
          refine z_iload_n B dX11_requirePackets_24 rfl 2 rfl ?_
          refine z_sipush (v := 200) B dX11_requirePackets_25 rfl ?_
          refine z_icmp_le (tgt := 39) B dX11_requirePackets_28 rfl (fun c_5 => ?_) (fun c_5 => ?_)
          · have e_7 : n_2 ≤ 200 := (nI_leI (a := n_2) (b := 200) (by omega) (by omega)).mp c_5
            exact zb_ret (Nat.le_of_ble_eq_true rfl) (Nat.le_of_ble_eq_true rfl) (z_ret_v B dX11_requirePackets_39 ⟨rfl, rfl, hI, (fun b9 h9 => rfl)⟩)
          · have e_8 : ¬ (n_2 ≤ 200) := fun h9 => c_5 ((nI_leI (a := n_2) (b := 200) (by omega) (by omega)).mpr h9)
            exact zb_throw (cls := xIA) (ik := 116) (ic := 118) B hl9 htab9 (by decide) ⟨hI, (fun b9 h9 => rfl)⟩ (by decide) (by decide +kernel) (by decide +kernel) (by decide +kernel) (by decide +kernel) (by decide +kernel) (by decide +kernel) (by decide +kernel) dX11_requirePackets_31 dX11_requirePackets_34 dX11_requirePackets_35 dX11_requirePackets_38 ⟨Nat.le_of_ble_eq_true rfl, Nat.le_of_ble_eq_true rfl, Nat.le_of_ble_eq_true rfl, Nat.le_of_ble_eq_true rfl⟩ ⟨Nat.le_of_ble_eq_true rfl, Nat.le_of_ble_eq_true rfl⟩

set_option maxHeartbeats 4000000 in
set_option maxRecDepth 100000 in
theorem s_X11_requireWhat (G : EnvG) (l : Launch) (hl9 : l.stackTraces = false) (Φ : Hm) (sz x ca : Nat) (a : Int32) (hx : G.2.2.2 ≤ x) (hI : In G x ca Φ)  : CtB G l yX11_requireWhat wsX11_requireWhat ({ frames := 6, cells := 1, slots := 6, locals := 81 }) 1 6 [.int a] Φ sz (fun v Φ1 sz1 => (v = none) ∧ sz1 = sz ∧ In G x (ca) Φ1 ∧ Fr x (fun j9 => False) Φ Φ1) (fun Φ1 => In G x ca Φ1 ∧ Fr x (fun j9 => False) Φ Φ1) [xIA] := by
  refine CtB.of (cc := cX11_requireWhat) (maxL := 1) (ret := none) (by decide) rfl (Nat.le_of_ble_eq_true rfl) ?_
  intro p9 e9 s9 m9 w9 t9 k9 B htab9
  show Z p9 l e9 _ s9 m9 _ w9 t9 k9 _ G 1 0 [(0, .int a)] [] Φ sz 0 0
  refine z_iload_n B dX11_requireWhat_0 rfl 0 rfl ?_
  refine z_if_eq (tgt := 17) B dX11_requireWhat_1 rfl (fun c_1 => ?_) (fun c_1 => ?_)
  · exact zb_ret (Nat.le_of_ble_eq_true rfl) (Nat.le_of_ble_eq_true rfl) (z_ret_v B dX11_requireWhat_17 ⟨rfl, rfl, hI, (fun b9 h9 => rfl)⟩)
  · refine z_iload_n B dX11_requireWhat_4 rfl 0 rfl ?_
    refine z_iconst (v := 1) B dX11_requireWhat_5 rfl ?_
    refine z_icmp_eq (tgt := 17) B dX11_requireWhat_6 rfl (fun c_2 => ?_) (fun c_2 => ?_)
    · exact zb_ret (Nat.le_of_ble_eq_true rfl) (Nat.le_of_ble_eq_true rfl) (z_ret_v B dX11_requireWhat_17 ⟨rfl, rfl, hI, (fun b9 h9 => rfl)⟩)
    · exact zb_throw (cls := xIA) (ik := 116) (ic := 118) B hl9 htab9 (by decide) ⟨hI, (fun b9 h9 => rfl)⟩ (by decide) (by decide +kernel) (by decide +kernel) (by decide +kernel) (by decide +kernel) (by decide +kernel) (by decide +kernel) (by decide +kernel) dX11_requireWhat_9 dX11_requireWhat_12 dX11_requireWhat_13 dX11_requireWhat_16 ⟨Nat.le_of_ble_eq_true rfl, Nat.le_of_ble_eq_true rfl, Nat.le_of_ble_eq_true rfl, Nat.le_of_ble_eq_true rfl⟩ ⟨Nat.le_of_ble_eq_true rfl, Nat.le_of_ble_eq_true rfl⟩

set_option maxHeartbeats 4000000 in
set_option maxRecDepth 100000 in
theorem s_X11_requireTemplate (G : EnvG) (l : Launch) (hl9 : l.stackTraces = false) (Φ : Hm) (sz x ca : Nat) (a : Int32) (hx : G.2.2.2 ≤ x) (hI : In G x ca Φ)  : CtB G l yX11_requireTemplate wsX11_requireTemplate ({ frames := 6, cells := 1, slots := 6, locals := 81 }) 1 6 [.ref x, .int a] Φ sz (fun v Φ1 sz1 => (v = none) ∧ sz1 = sz ∧ In G x (ca) Φ1 ∧ Fr x (fun j9 => False) Φ Φ1) (fun Φ1 => In G x ca Φ1 ∧ Fr x (fun j9 => False) Φ Φ1) [xIO] := by
  refine CtB.of (cc := cX11_requireTemplate) (maxL := 2) (ret := none) (by decide) rfl (Nat.le_of_ble_eq_true rfl) ?_
  intro p9 e9 s9 m9 w9 t9 k9 B htab9
  show Z p9 l e9 _ s9 m9 _ w9 t9 k9 _ G 2 0 [(0, .ref x), (1, .int a)] [] Φ sz 0 0
  refine z_iload_n B dX11_requireTemplate_0 rfl 1 rfl ?_
  refine z_if_lt (tgt := 15) B dX11_requireTemplate_1 rfl (fun c_1 => ?_) (fun c_1 => ?_)
  · exact zb_throw (cls := xIO) (ik := 153) (ic := 155) B hl9 htab9 (by decide) ⟨hI, (fun b9 h9 => rfl)⟩ (by decide) (by decide +kernel) (by decide +kernel) (by decide +kernel) (by decide +kernel) (by decide +kernel) (by decide +kernel) (by decide +kernel) dX11_requireTemplate_15 dX11_requireTemplate_18 dX11_requireTemplate_19 dX11_requireTemplate_22 ⟨Nat.le_of_ble_eq_true rfl, Nat.le_of_ble_eq_true rfl, Nat.le_of_ble_eq_true rfl, Nat.le_of_ble_eq_true rfl⟩ ⟨Nat.le_of_ble_eq_true rfl, Nat.le_of_ble_eq_true rfl⟩
  · obtain ⟨n_1, e_1, rfl⟩ := nI_of c_1
    refine z_iload_n B dX11_requireTemplate_4 rfl 1 rfl ?_
    refine z_aload_n B dX11_requireTemplate_5 rfl 0 rfl ?_
    have h_1 := in0 (k := 0) hI rfl
    have h_2 : Φ x = some (o_ 13 [.ref (x + 1), .ref (x + 3), .ref (x + 24), .ref (x + 46), .ref (x + 74), .ref (x + 80), .ref (x + 132), .ref (x + 121)]) := h_1
    refine z_get (ref := "FlowExporter") (C := RX11) (T := TX11) (N := 8) (ci := 13) (v := .ref (x + 3)) B (by decide +kernel) rfl 1 (by decide) (by decide +kernel) rfl h_2 rfl dX11_requireTemplate_6 ?_
    obtain ⟨v_1, v_2, h_3⟩ := in3 (k := 3) hI rfl
    have h_4 : Φ (x + 3) = some (o_ 3 [.ref (x + 4), .ref (x + 5), .ref (x + 6), .ref (x + 7), .int v_1, .int v_2]) := h_3
    refine z_get (ref := "FlowExporter$Config") (C := RX1) (T := TX1) (N := 6) (ci := 3) (v := .int v_1) B (by decide +kernel) rfl 4 (by decide) (by decide +kernel) rfl h_4 rfl dX11_requireTemplate_9 ?_
    refine z_icmp_lt (tgt := 23) B dX11_requireTemplate_12 rfl (fun c_2 => ?_) (fun c_2 => ?_)
    · exact zb_ret (Nat.le_of_ble_eq_true rfl) (Nat.le_of_ble_eq_true rfl) (z_ret_v B dX11_requireTemplate_23 ⟨rfl, rfl, hI, (fun b9 h9 => rfl)⟩)
    · exact zb_throw (cls := xIO) (ik := 153) (ic := 155) B hl9 htab9 (by decide) ⟨hI, (fun b9 h9 => rfl)⟩ (by decide) (by decide +kernel) (by decide +kernel) (by decide +kernel) (by decide +kernel) (by decide +kernel) (by decide +kernel) (by decide +kernel) dX11_requireTemplate_15 dX11_requireTemplate_18 dX11_requireTemplate_19 dX11_requireTemplate_22 ⟨Nat.le_of_ble_eq_true rfl, Nat.le_of_ble_eq_true rfl, Nat.le_of_ble_eq_true rfl, Nat.le_of_ble_eq_true rfl⟩ ⟨Nat.le_of_ble_eq_true rfl, Nat.le_of_ble_eq_true rfl⟩

set_option maxHeartbeats 4000000 in
set_option maxRecDepth 100000 in
theorem s_X11_requireMessage (G : EnvG) (l : Launch) (hl9 : l.stackTraces = false) (Φ : Hm) (sz x ca : Nat) (a : Int32) (hx : G.2.2.2 ≤ x) (hI : In G x ca Φ)  : CtB G l yX11_requireMessage wsX11_requireMessage ({ frames := 6, cells := 1, slots := 6, locals := 81 }) 1 6 [.ref x, .int a] Φ sz (fun v Φ1 sz1 => (v = none) ∧ sz1 = sz ∧ In G x (ca) Φ1 ∧ Fr x (fun j9 => False) Φ Φ1) (fun Φ1 => In G x ca Φ1 ∧ Fr x (fun j9 => False) Φ Φ1) [xIO] := by
  refine CtB.of (cc := cX11_requireMessage) (maxL := 2) (ret := none) (by decide) rfl (Nat.le_of_ble_eq_true rfl) ?_
  intro p9 e9 s9 m9 w9 t9 k9 B htab9
  show Z p9 l e9 _ s9 m9 _ w9 t9 k9 _ G 2 0 [(0, .ref x), (1, .int a)] [] Φ sz 0 0
  refine z_iload_n B dX11_requireMessage_0 rfl 1 rfl ?_
  refine z_if_lt (tgt := 15) B dX11_requireMessage_1 rfl (fun c_1 => ?_) (fun c_1 => ?_)
  · exact zb_throw (cls := xIO) (ik := 153) (ic := 155) B hl9 htab9 (by decide) ⟨hI, (fun b9 h9 => rfl)⟩ (by decide) (by decide +kernel) (by decide +kernel) (by decide +kernel) (by decide +kernel) (by decide +kernel) (by decide +kernel) (by decide +kernel) dX11_requireMessage_15 dX11_requireMessage_18 dX11_requireMessage_19 dX11_requireMessage_22 ⟨Nat.le_of_ble_eq_true rfl, Nat.le_of_ble_eq_true rfl, Nat.le_of_ble_eq_true rfl, Nat.le_of_ble_eq_true rfl⟩ ⟨Nat.le_of_ble_eq_true rfl, Nat.le_of_ble_eq_true rfl⟩
  · obtain ⟨n_1, e_1, rfl⟩ := nI_of c_1
    refine z_iload_n B dX11_requireMessage_4 rfl 1 rfl ?_
    refine z_aload_n B dX11_requireMessage_5 rfl 0 rfl ?_
    have h_1 := in0 (k := 0) hI rfl
    have h_2 : Φ x = some (o_ 13 [.ref (x + 1), .ref (x + 3), .ref (x + 24), .ref (x + 46), .ref (x + 74), .ref (x + 80), .ref (x + 132), .ref (x + 121)]) := h_1
    refine z_get (ref := "FlowExporter") (C := RX11) (T := TX11) (N := 8) (ci := 13) (v := .ref (x + 46)) B (by decide +kernel) rfl 3 (by decide) (by decide +kernel) rfl h_2 rfl dX11_requireMessage_6 ?_
    obtain ⟨n_2, v_1, h_3, b_1⟩ := in11 (k := 46) hI rfl
    have h_4 : Φ (x + 46) = some (o_ 9 [.ref (x + 47), .int (nI n_2), .int v_1]) := h_3
    refine z_get (ref := "FlowExporter$Queue") (C := RX7) (T := TX7) (N := 3) (ci := 9) (v := .int (nI n_2)) B (by decide +kernel) rfl 1 (by decide) (by decide +kernel) rfl h_4 rfl dX11_requireMessage_9 ?_
    refine z_icmp_lt (tgt := 23) B dX11_requireMessage_12 rfl (fun c_2 => ?_) (fun c_2 => ?_)
    · have e_2 : n_1 < n_2 := (nI_ltI (a := n_1) (b := n_2) (by omega) (by omega)).mp c_2
      exact zb_ret (Nat.le_of_ble_eq_true rfl) (Nat.le_of_ble_eq_true rfl) (z_ret_v B dX11_requireMessage_23 ⟨rfl, rfl, hI, (fun b9 h9 => rfl)⟩)
    · have e_3 : ¬ (n_1 < n_2) := fun h9 => c_2 ((nI_ltI (a := n_1) (b := n_2) (by omega) (by omega)).mpr h9)
      exact zb_throw (cls := xIO) (ik := 153) (ic := 155) B hl9 htab9 (by decide) ⟨hI, (fun b9 h9 => rfl)⟩ (by decide) (by decide +kernel) (by decide +kernel) (by decide +kernel) (by decide +kernel) (by decide +kernel) (by decide +kernel) (by decide +kernel) dX11_requireMessage_15 dX11_requireMessage_18 dX11_requireMessage_19 dX11_requireMessage_22 ⟨Nat.le_of_ble_eq_true rfl, Nat.le_of_ble_eq_true rfl, Nat.le_of_ble_eq_true rfl, Nat.le_of_ble_eq_true rfl⟩ ⟨Nat.le_of_ble_eq_true rfl, Nat.le_of_ble_eq_true rfl⟩

set_option maxHeartbeats 4000000 in
set_option maxRecDepth 100000 in
theorem s_X11_requireKey (G : EnvG) (l : Launch) (hl9 : l.stackTraces = false) (Φ : Hm) (sz x ca : Nat) (a : Int32) (hx : G.2.2.2 ≤ x) (hI : In G x ca Φ)  : CtB G l yX11_requireKey wsX11_requireKey ({ frames := 6, cells := 1, slots := 6, locals := 81 }) 1 6 [.ref x, .int a] Φ sz (fun v Φ1 sz1 => (v = none) ∧ sz1 = sz ∧ In G x (ca) Φ1 ∧ Fr x (fun j9 => False) Φ Φ1) (fun Φ1 => In G x ca Φ1 ∧ Fr x (fun j9 => False) Φ Φ1) [xIO] := by
  refine CtB.of (cc := cX11_requireKey) (maxL := 2) (ret := none) (by decide) rfl (Nat.le_of_ble_eq_true rfl) ?_
  intro p9 e9 s9 m9 w9 t9 k9 B htab9
  show Z p9 l e9 _ s9 m9 _ w9 t9 k9 _ G 2 0 [(0, .ref x), (1, .int a)] [] Φ sz 0 0
  refine z_iload_n B dX11_requireKey_0 rfl 1 rfl ?_
  refine z_if_lt (tgt := 15) B dX11_requireKey_1 rfl (fun c_1 => ?_) (fun c_1 => ?_)
  · exact zb_throw (cls := xIO) (ik := 153) (ic := 155) B hl9 htab9 (by decide) ⟨hI, (fun b9 h9 => rfl)⟩ (by decide) (by decide +kernel) (by decide +kernel) (by decide +kernel) (by decide +kernel) (by decide +kernel) (by decide +kernel) (by decide +kernel) dX11_requireKey_15 dX11_requireKey_18 dX11_requireKey_19 dX11_requireKey_22 ⟨Nat.le_of_ble_eq_true rfl, Nat.le_of_ble_eq_true rfl, Nat.le_of_ble_eq_true rfl, Nat.le_of_ble_eq_true rfl⟩ ⟨Nat.le_of_ble_eq_true rfl, Nat.le_of_ble_eq_true rfl⟩
  · obtain ⟨n_1, e_1, rfl⟩ := nI_of c_1
    refine z_iload_n B dX11_requireKey_4 rfl 1 rfl ?_
    refine z_aload_n B dX11_requireKey_5 rfl 0 rfl ?_
    have h_1 := in0 (k := 0) hI rfl
    have h_2 : Φ x = some (o_ 13 [.ref (x + 1), .ref (x + 3), .ref (x + 24), .ref (x + 46), .ref (x + 74), .ref (x + 80), .ref (x + 132), .ref (x + 121)]) := h_1
    refine z_get (ref := "FlowExporter") (C := RX11) (T := TX11) (N := 8) (ci := 13) (v := .ref (x + 121)) B (by decide +kernel) rfl 7 (by decide) (by decide +kernel) rfl h_2 rfl dX11_requireKey_6 ?_
    obtain ⟨n_2, h_3, b_1⟩ := in20 (k := 121) hI rfl
    have h_4 : Φ (x + 121) = some (o_ 11 [.ref (x + 122), .ref (x + 123), .ref (x + 126), .ref (x + 129), .int (nI n_2)]) := h_3
    refine z_get (ref := "FlowExporter$Sums") (C := RX9) (T := TX9) (N := 5) (ci := 11) (v := .int (nI n_2)) B (by decide +kernel) rfl 4 (by decide) (by decide +kernel) rfl h_4 rfl dX11_requireKey_9 ?_
    refine z_icmp_lt (tgt := 23) B dX11_requireKey_12 rfl (fun c_2 => ?_) (fun c_2 => ?_)
    · have e_2 : n_1 < n_2 := (nI_ltI (a := n_1) (b := n_2) (by omega) (by omega)).mp c_2
      exact zb_ret (Nat.le_of_ble_eq_true rfl) (Nat.le_of_ble_eq_true rfl) (z_ret_v B dX11_requireKey_23 ⟨rfl, rfl, hI, (fun b9 h9 => rfl)⟩)
    · have e_3 : ¬ (n_1 < n_2) := fun h9 => c_2 ((nI_ltI (a := n_1) (b := n_2) (by omega) (by omega)).mpr h9)
      exact zb_throw (cls := xIO) (ik := 153) (ic := 155) B hl9 htab9 (by decide) ⟨hI, (fun b9 h9 => rfl)⟩ (by decide) (by decide +kernel) (by decide +kernel) (by decide +kernel) (by decide +kernel) (by decide +kernel) (by decide +kernel) (by decide +kernel) dX11_requireKey_15 dX11_requireKey_18 dX11_requireKey_19 dX11_requireKey_22 ⟨Nat.le_of_ble_eq_true rfl, Nat.le_of_ble_eq_true rfl, Nat.le_of_ble_eq_true rfl, Nat.le_of_ble_eq_true rfl⟩ ⟨Nat.le_of_ble_eq_true rfl, Nat.le_of_ble_eq_true rfl⟩

set_option maxHeartbeats 4000000 in
set_option maxRecDepth 100000 in
theorem s_X11_templateFields (G : EnvG) (l : Launch) (hl9 : l.stackTraces = false) (Φ : Hm) (sz x ca : Nat) (a : Int32) (hx : G.2.2.2 ≤ x) (hI : In G x ca Φ)  : CtB G l yX11_templateFields wsX11_templateFields ({ frames := 7, cells := 1, slots := 6, locals := 102 }) 1 6 [.ref x, .int a] Φ sz (fun v Φ1 sz1 => (∃ r9 : Int32, v = some (.int r9)) ∧ sz1 = sz ∧ In G x (ca) Φ1 ∧ Fr x (fun j9 => 2 ≤ j9 ∧ j9 < 149) Φ Φ1) (fun Φ1 => In G x ca Φ1 ∧ Fr x (fun j9 => False) Φ Φ1) [xIO] := by
  refine CtB.of (cc := cX11_templateFields) (maxL := 2) (ret := (some .int)) (by decide) rfl (Nat.le_of_ble_eq_true rfl) ?_
  intro p9 e9 s9 m9 w9 t9 k9 B htab9
  show Z p9 l e9 _ s9 m9 _ w9 t9 k9 _ G 2 0 [(0, .ref x), (1, .int a)] [] Φ sz 0 0
  refine z_aload_n B dX11_templateFields_0 rfl 0 rfl ?_
  refine z_iload_n B dX11_templateFields_1 rfl 1 rfl ?_
  have h_1 := in0 (k := 0) hI rfl
  have h_2 : Φ x = some (o_ 13 [.ref (x + 1), .ref (x + 3), .ref (x + 24), .ref (x + 46), .ref (x + 74), .ref (x + 80), .ref (x + 132), .ref (x + 121)]) := h_1
  refine zb_callV (As := [.int a]) (rest := []) B htab9 (s_X11_requireTemplate G l hl9 Φ sz x (ca) a hx hI ) (cwV 1 B.1.2.2.2.2 gX11_templateFields_X11_requireTemplate rfl rfl rfl (by decide +kernel) ⟨Nat.le_of_ble_eq_true rfl, Nat.le_of_ble_eq_true rfl⟩) h_2 rfl rfl rfl rfl (Nat.le_of_ble_eq_true rfl) dX11_templateFields_2 ⟨Nat.le_of_ble_eq_true rfl, Nat.le_of_ble_eq_true rfl⟩ ⟨Nat.le_of_ble_eq_true rfl, Nat.le_of_ble_eq_true rfl⟩ (by decide) (fun Φ9 h9 => ⟨h9.1, fun b9 h8 => ((h9.2 b9 h8).trans ((fun b9 h9 => rfl) b9 h8))⟩) (fun r_1 Φ1 sz1 st1 hp1 hs1 => ?_)
  obtain ⟨rfl, hq1, hI1, hF1⟩ := hp1
  subst sz1
  replace hs1 : st1 = [] := hs1
  subst st1
  replace hI1 : In G x (ca) Φ1 := hI1
  refine z_aload_n B dX11_templateFields_5 rfl 0 rfl ?_
  have h_3 : Φ1 x = some (o_ 13 [.ref (x + 1), .ref (x + 3), .ref (x + 24), .ref (x + 46), .ref (x + 74), .ref (x + 80), .ref (x + 132), .ref (x + 121)]) := ((hF1 x (fun j9 h8 h7 => (show False from h7).elim)).trans h_2)
  refine z_get (ref := "FlowExporter") (C := RX11) (T := TX11) (N := 8) (ci := 13) (v := .ref (x + 3)) B (by decide +kernel) rfl 1 (by decide) (by decide +kernel) rfl h_3 rfl dX11_templateFields_6 ?_
  refine z_iload_n B dX11_templateFields_9 rfl 1 rfl ?_
  obtain ⟨v_1, v_2, h_4⟩ := in3 (k := 3) hI1 rfl
  have h_5 : Φ1 (x + 3) = some (o_ 3 [.ref (x + 4), .ref (x + 5), .ref (x + 6), .ref (x + 7), .int v_1, .int v_2]) := h_4
  refine z_callV (As := [.int a]) (rest := []) B (s_X1_template G l Φ1 sz x (ca) 3 a hx hI1 rfl) (cwV 1 B.1.2.2.2.2 gX11_templateFields_X1_template rfl rfl rfl (by decide +kernel) ⟨Nat.le_of_ble_eq_true rfl, Nat.le_of_ble_eq_true rfl⟩) h_5 rfl rfl rfl rfl (Nat.le_of_ble_eq_true rfl) dX11_templateFields_10 ⟨Nat.le_of_ble_eq_true rfl, Nat.le_of_ble_eq_true rfl⟩ (fun r_2 Φ2 sz2 st2 hp2 hs2 => ?_)
  obtain ⟨⟨m_1, hm_1, rfl⟩, hq2, hI2, hF2⟩ := hp2
  subst sz2
  replace hs2 : st2 = [.ref (x + (3 + 5 + 4 * m_1))] := hs2
  subst st2
  replace hI2 : In G x (ca) Φ2 := hI2
  replace hm_1 : m_1 < 4 := hm_1
  obtain ⟨n_1, v_3, v_4, h_6, b_1⟩ := in8 (k := 3 + 5 + 4 * m_1) hI2 (kd_w (kd_s rfl).2.2.1 hm_1)
  have h_7 : Φ2 (x + (3 + 5 + 4 * m_1)) = some (o_ 12 [.ref (x + (3 + 5 + 4 * m_1 + 1)), .int (nI n_1), .int v_3, .int v_4]) := h_6
  refine z_get (ref := "FlowExporter$Template") (C := RX10) (T := TX10) (N := 4) (ci := 12) (v := .int v_3) B (by decide +kernel) rfl 2 (by decide) (by decide +kernel) rfl h_7 rfl dX11_templateFields_13 ?_
  exact zb_ret (Nat.le_of_ble_eq_true rfl) (Nat.le_of_ble_eq_true rfl) (z_ret_i B dX11_templateFields_16 ⟨⟨_, rfl⟩, rfl, hI2, (fun b9 h9 => ((hF2 b9 (fun j9 h8 h7 => (show False from h7).elim)).trans ((hF1 b9 (fun j9 h8 h7 => (show False from h7).elim)).trans rfl)))⟩)

set_option maxHeartbeats 4000000 in
set_option maxRecDepth 100000 in
theorem s_X11_effectiveFields (G : EnvG) (l : Launch) (hl9 : l.stackTraces = false) (Φ : Hm) (sz x ca : Nat) (a : Int32) (hx : G.2.2.2 ≤ x) (hI : In G x ca Φ)  : CtB G l yX11_effectiveFields wsX11_effectiveFields ({ frames := 7, cells := 1, slots := 6, locals := 102 }) 1 6 [.ref x, .int a] Φ sz (fun v Φ1 sz1 => (∃ r9 : Int32, v = some (.int r9)) ∧ sz1 = sz ∧ In G x (ca) Φ1 ∧ Fr x (fun j9 => 2 ≤ j9 ∧ j9 < 149) Φ Φ1) (fun Φ1 => In G x ca Φ1 ∧ Fr x (fun j9 => False) Φ Φ1) [xIO] := by
  refine CtB.of (cc := cX11_effectiveFields) (maxL := 2) (ret := (some .int)) (by decide) rfl (Nat.le_of_ble_eq_true rfl) ?_
  intro p9 e9 s9 m9 w9 t9 k9 B htab9
  show Z p9 l e9 _ s9 m9 _ w9 t9 k9 _ G 2 0 [(0, .ref x), (1, .int a)] [] Φ sz 0 0
  refine z_aload_n B dX11_effectiveFields_0 rfl 0 rfl ?_
  refine z_iload_n B dX11_effectiveFields_1 rfl 1 rfl ?_
  have h_1 := in0 (k := 0) hI rfl
  have h_2 : Φ x = some (o_ 13 [.ref (x + 1), .ref (x + 3), .ref (x + 24), .ref (x + 46), .ref (x + 74), .ref (x + 80), .ref (x + 132), .ref (x + 121)]) := h_1
  refine zb_callV (As := [.int a]) (rest := []) B htab9 (s_X11_requireTemplate G l hl9 Φ sz x (ca) a hx hI ) (cwV 1 B.1.2.2.2.2 gX11_effectiveFields_X11_requireTemplate rfl rfl rfl (by decide +kernel) ⟨Nat.le_of_ble_eq_true rfl, Nat.le_of_ble_eq_true rfl⟩) h_2 rfl rfl rfl rfl (Nat.le_of_ble_eq_true rfl) dX11_effectiveFields_2 ⟨Nat.le_of_ble_eq_true rfl, Nat.le_of_ble_eq_true rfl⟩ ⟨Nat.le_of_ble_eq_true rfl, Nat.le_of_ble_eq_true rfl⟩ (by decide) (fun Φ9 h9 => ⟨h9.1, fun b9 h8 => ((h9.2 b9 h8).trans ((fun b9 h9 => rfl) b9 h8))⟩) (fun r_1 Φ1 sz1 st1 hp1 hs1 => ?_)
  obtain ⟨rfl, hq1, hI1, hF1⟩ := hp1
  subst sz1
  replace hs1 : st1 = [] := hs1
  subst st1
  replace hI1 : In G x (ca) Φ1 := hI1
  refine z_aload_n B dX11_effectiveFields_5 rfl 0 rfl ?_
  have h_3 : Φ1 x = some (o_ 13 [.ref (x + 1), .ref (x + 3), .ref (x + 24), .ref (x + 46), .ref (x + 74), .ref (x + 80), .ref (x + 132), .ref (x + 121)]) := ((hF1 x (fun j9 h8 h7 => (show False from h7).elim)).trans h_2)
  refine z_get (ref := "FlowExporter") (C := RX11) (T := TX11) (N := 8) (ci := 13) (v := .ref (x + 3)) B (by decide +kernel) rfl 1 (by decide) (by decide +kernel) rfl h_3 rfl dX11_effectiveFields_6 ?_
  refine z_iload_n B dX11_effectiveFields_9 rfl 1 rfl ?_
  obtain ⟨v_1, v_2, h_4⟩ := in3 (k := 3) hI1 rfl
  have h_5 : Φ1 (x + 3) = some (o_ 3 [.ref (x + 4), .ref (x + 5), .ref (x + 6), .ref (x + 7), .int v_1, .int v_2]) := h_4
  refine z_callV (As := [.int a]) (rest := []) B (s_X1_effective G l Φ1 sz x (ca) 3 a hx hI1 rfl) (cwV 1 B.1.2.2.2.2 gX11_effectiveFields_X1_effective rfl rfl rfl (by decide +kernel) ⟨Nat.le_of_ble_eq_true rfl, Nat.le_of_ble_eq_true rfl⟩) h_5 rfl rfl rfl rfl (Nat.le_of_ble_eq_true rfl) dX11_effectiveFields_10 ⟨Nat.le_of_ble_eq_true rfl, Nat.le_of_ble_eq_true rfl⟩ (fun r_2 Φ2 sz2 st2 hp2 hs2 => ?_)
  obtain ⟨⟨m_1, hm_1, rfl⟩, hq2, hI2, hF2⟩ := hp2
  subst sz2
  replace hs2 : st2 = [.ref (x + (3 + 7 + 4 * m_1))] := hs2
  subst st2
  replace hI2 : In G x (ca) Φ2 := hI2
  replace hm_1 : m_1 < 4 := hm_1
  obtain ⟨n_1, v_3, v_4, h_6, b_1⟩ := in8 (k := 3 + 7 + 4 * m_1) hI2 (kd_e (kd_s rfl).2.2.2 hm_1)
  have h_7 : Φ2 (x + (3 + 7 + 4 * m_1)) = some (o_ 12 [.ref (x + (3 + 7 + 4 * m_1 + 1)), .int (nI n_1), .int v_3, .int v_4]) := h_6
  refine z_get (ref := "FlowExporter$Template") (C := RX10) (T := TX10) (N := 4) (ci := 12) (v := .int v_3) B (by decide +kernel) rfl 2 (by decide) (by decide +kernel) rfl h_7 rfl dX11_effectiveFields_13 ?_
  exact zb_ret (Nat.le_of_ble_eq_true rfl) (Nat.le_of_ble_eq_true rfl) (z_ret_i B dX11_effectiveFields_16 ⟨⟨_, rfl⟩, rfl, hI2, (fun b9 h9 => ((hF2 b9 (fun j9 h8 h7 => (show False from h7).elim)).trans ((hF1 b9 (fun j9 h8 h7 => (show False from h7).elim)).trans rfl)))⟩)

set_option maxHeartbeats 4000000 in
set_option maxRecDepth 100000 in
theorem s_X11_recordLength (G : EnvG) (l : Launch) (hl9 : l.stackTraces = false) (Φ : Hm) (sz x ca : Nat) (a : Int32) (hx : G.2.2.2 ≤ x) (hI : In G x ca Φ)  : CtB G l yX11_recordLength wsX11_recordLength ({ frames := 7, cells := 1, slots := 6, locals := 102 }) 1 6 [.ref x, .int a] Φ sz (fun v Φ1 sz1 => (∃ r9 : Int32, v = some (.int r9)) ∧ sz1 = sz ∧ In G x (ca) Φ1 ∧ Fr x (fun j9 => 2 ≤ j9 ∧ j9 < 149) Φ Φ1) (fun Φ1 => In G x ca Φ1 ∧ Fr x (fun j9 => False) Φ Φ1) [xIO] := by
  refine CtB.of (cc := cX11_recordLength) (maxL := 2) (ret := (some .int)) (by decide) rfl (Nat.le_of_ble_eq_true rfl) ?_
  intro p9 e9 s9 m9 w9 t9 k9 B htab9
  show Z p9 l e9 _ s9 m9 _ w9 t9 k9 _ G 2 0 [(0, .ref x), (1, .int a)] [] Φ sz 0 0
  refine z_aload_n B dX11_recordLength_0 rfl 0 rfl ?_
  refine z_iload_n B dX11_recordLength_1 rfl 1 rfl ?_
  have h_1 := in0 (k := 0) hI rfl
  have h_2 : Φ x = some (o_ 13 [.ref (x + 1), .ref (x + 3), .ref (x + 24), .ref (x + 46), .ref (x + 74), .ref (x + 80), .ref (x + 132), .ref (x + 121)]) := h_1
  refine zb_callV (As := [.int a]) (rest := []) B htab9 (s_X11_requireTemplate G l hl9 Φ sz x (ca) a hx hI ) (cwV 1 B.1.2.2.2.2 gX11_recordLength_X11_requireTemplate rfl rfl rfl (by decide +kernel) ⟨Nat.le_of_ble_eq_true rfl, Nat.le_of_ble_eq_true rfl⟩) h_2 rfl rfl rfl rfl (Nat.le_of_ble_eq_true rfl) dX11_recordLength_2 ⟨Nat.le_of_ble_eq_true rfl, Nat.le_of_ble_eq_true rfl⟩ ⟨Nat.le_of_ble_eq_true rfl, Nat.le_of_ble_eq_true rfl⟩ (by decide) (fun Φ9 h9 => ⟨h9.1, fun b9 h8 => ((h9.2 b9 h8).trans ((fun b9 h9 => rfl) b9 h8))⟩) (fun r_1 Φ1 sz1 st1 hp1 hs1 => ?_)
  obtain ⟨rfl, hq1, hI1, hF1⟩ := hp1
  subst sz1
  replace hs1 : st1 = [] := hs1
  subst st1
  replace hI1 : In G x (ca) Φ1 := hI1
  refine z_aload_n B dX11_recordLength_5 rfl 0 rfl ?_
  have h_3 : Φ1 x = some (o_ 13 [.ref (x + 1), .ref (x + 3), .ref (x + 24), .ref (x + 46), .ref (x + 74), .ref (x + 80), .ref (x + 132), .ref (x + 121)]) := ((hF1 x (fun j9 h8 h7 => (show False from h7).elim)).trans h_2)
  refine z_get (ref := "FlowExporter") (C := RX11) (T := TX11) (N := 8) (ci := 13) (v := .ref (x + 3)) B (by decide +kernel) rfl 1 (by decide) (by decide +kernel) rfl h_3 rfl dX11_recordLength_6 ?_
  refine z_iload_n B dX11_recordLength_9 rfl 1 rfl ?_
  obtain ⟨v_1, v_2, h_4⟩ := in3 (k := 3) hI1 rfl
  have h_5 : Φ1 (x + 3) = some (o_ 3 [.ref (x + 4), .ref (x + 5), .ref (x + 6), .ref (x + 7), .int v_1, .int v_2]) := h_4
  refine z_callV (As := [.int a]) (rest := []) B (s_X1_effective G l Φ1 sz x (ca) 3 a hx hI1 rfl) (cwV 1 B.1.2.2.2.2 gX11_recordLength_X1_effective rfl rfl rfl (by decide +kernel) ⟨Nat.le_of_ble_eq_true rfl, Nat.le_of_ble_eq_true rfl⟩) h_5 rfl rfl rfl rfl (Nat.le_of_ble_eq_true rfl) dX11_recordLength_10 ⟨Nat.le_of_ble_eq_true rfl, Nat.le_of_ble_eq_true rfl⟩ (fun r_2 Φ2 sz2 st2 hp2 hs2 => ?_)
  obtain ⟨⟨m_1, hm_1, rfl⟩, hq2, hI2, hF2⟩ := hp2
  subst sz2
  replace hs2 : st2 = [.ref (x + (3 + 7 + 4 * m_1))] := hs2
  subst st2
  replace hI2 : In G x (ca) Φ2 := hI2
  replace hm_1 : m_1 < 4 := hm_1
  obtain ⟨n_1, v_3, v_4, h_6, b_1⟩ := in8 (k := 3 + 7 + 4 * m_1) hI2 (kd_e (kd_s rfl).2.2.2 hm_1)
  have h_7 : Φ2 (x + (3 + 7 + 4 * m_1)) = some (o_ 12 [.ref (x + (3 + 7 + 4 * m_1 + 1)), .int (nI n_1), .int v_3, .int v_4]) := h_6
  refine z_get (ref := "FlowExporter$Template") (C := RX10) (T := TX10) (N := 4) (ci := 12) (v := .int v_4) B (by decide +kernel) rfl 3 (by decide) (by decide +kernel) rfl h_7 rfl dX11_recordLength_13 ?_
  exact zb_ret (Nat.le_of_ble_eq_true rfl) (Nat.le_of_ble_eq_true rfl) (z_ret_i B dX11_recordLength_16 ⟨⟨_, rfl⟩, rfl, hI2, (fun b9 h9 => ((hF2 b9 (fun j9 h8 h7 => (show False from h7).elim)).trans ((hF1 b9 (fun j9 h8 h7 => (show False from h7).elim)).trans rfl)))⟩)

set_option maxHeartbeats 4000000 in
set_option maxRecDepth 100000 in
theorem s_X11_isDue (G : EnvG) (l : Launch) (hl9 : l.stackTraces = false) (Φ : Hm) (sz x ca : Nat) (a : Int32) (hx : G.2.2.2 ≤ x) (hI : In G x ca Φ)  : CtB G l yX11_isDue wsX11_isDue ({ frames := 7, cells := 1, slots := 6, locals := 102 }) 1 6 [.ref x, .int a] Φ sz (fun v Φ1 sz1 => (∃ r9 : Int32, v = some (.int r9) ∧ (r9 = 0 ∨ r9 = 1)) ∧ sz1 = sz ∧ In G x (ca) Φ1 ∧ Fr x (fun j9 => 2 ≤ j9 ∧ j9 < 149) Φ Φ1) (fun Φ1 => In G x ca Φ1 ∧ Fr x (fun j9 => False) Φ Φ1) [xIO] := by
  refine CtB.of (cc := cX11_isDue) (maxL := 2) (ret := (some .boolean)) (by decide) rfl (Nat.le_of_ble_eq_true rfl) ?_
  intro p9 e9 s9 m9 w9 t9 k9 B htab9
  show Z p9 l e9 _ s9 m9 _ w9 t9 k9 _ G 2 0 [(0, .ref x), (1, .int a)] [] Φ sz 0 0
  refine z_aload_n B dX11_isDue_0 rfl 0 rfl ?_
  refine z_iload_n B dX11_isDue_1 rfl 1 rfl ?_
  have h_1 := in0 (k := 0) hI rfl
  have h_2 : Φ x = some (o_ 13 [.ref (x + 1), .ref (x + 3), .ref (x + 24), .ref (x + 46), .ref (x + 74), .ref (x + 80), .ref (x + 132), .ref (x + 121)]) := h_1
  refine zb_callV (As := [.int a]) (rest := []) B htab9 (s_X11_requireTemplate G l hl9 Φ sz x (ca) a hx hI ) (cwV 1 B.1.2.2.2.2 gX11_isDue_X11_requireTemplate rfl rfl rfl (by decide +kernel) ⟨Nat.le_of_ble_eq_true rfl, Nat.le_of_ble_eq_true rfl⟩) h_2 rfl rfl rfl rfl (Nat.le_of_ble_eq_true rfl) dX11_isDue_2 ⟨Nat.le_of_ble_eq_true rfl, Nat.le_of_ble_eq_true rfl⟩ ⟨Nat.le_of_ble_eq_true rfl, Nat.le_of_ble_eq_true rfl⟩ (by decide) (fun Φ9 h9 => ⟨h9.1, fun b9 h8 => ((h9.2 b9 h8).trans ((fun b9 h9 => rfl) b9 h8))⟩) (fun r_1 Φ1 sz1 st1 hp1 hs1 => ?_)
  obtain ⟨rfl, hq1, hI1, hF1⟩ := hp1
  subst sz1
  replace hs1 : st1 = [] := hs1
  subst st1
  replace hI1 : In G x (ca) Φ1 := hI1
  refine z_aload_n B dX11_isDue_5 rfl 0 rfl ?_
  have h_3 : Φ1 x = some (o_ 13 [.ref (x + 1), .ref (x + 3), .ref (x + 24), .ref (x + 46), .ref (x + 74), .ref (x + 80), .ref (x + 132), .ref (x + 121)]) := ((hF1 x (fun j9 h8 h7 => (show False from h7).elim)).trans h_2)
  refine z_get (ref := "FlowExporter") (C := RX11) (T := TX11) (N := 8) (ci := 13) (v := .ref (x + 74)) B (by decide +kernel) rfl 4 (by decide) (by decide +kernel) rfl h_3 rfl dX11_isDue_6 ?_
  refine z_iload_n B dX11_isDue_9 rfl 1 rfl ?_
  refine z_aload_n B dX11_isDue_10 rfl 0 rfl ?_
  refine z_get (ref := "FlowExporter") (C := RX11) (T := TX11) (N := 8) (ci := 13) (v := .ref (x + 80)) B (by decide +kernel) rfl 5 (by decide) (by decide +kernel) rfl h_3 rfl dX11_isDue_11 ?_
  obtain ⟨v_1, v_2, v_3, v_4, v_5, v_6, v_7, v_8, v_9, h_4, b_1⟩ := in16 (k := 80) hI1 rfl
  have h_5 : Φ1 (x + 80) = some (o_ 4 [.ref (x + 3), .ref (x + 74), .ref (x + 81), .ref (x + 95), .int v_1, .int v_2, .int v_3, .int v_4, .int v_5, .int v_6, .long v_7, .long v_8, .long v_9]) := h_4
  refine z_get (ref := "FlowExporter$Exporter") (C := RX2) (T := TX2) (N := 13) (ci := 4) (v := .int v_1) B (by decide +kernel) rfl 4 (by decide) (by decide +kernel) rfl h_5 rfl dX11_isDue_14 ?_
  obtain ⟨n_1, v_10, v_11, v_12, h_6, b_2⟩ := in13 (k := 74) hI1 rfl
  have h_7 : Φ1 (x + 74) = some (o_ 10 [.ref (x + 3), .ref (x + 46), .ref (x + 75), .ref (x + 77), .int (nI n_1), .ref (x + 78), .ref (x + 79), .int v_10, .long v_11, .int v_12]) := h_6
  refine z_callV (As := [.int a, .int v_1]) (rest := []) B (s_X8_mustSend G l Φ1 sz x (ca) a v_1 hx hI1 ) (cwV 2 B.1.2.2.2.2 gX11_isDue_X8_mustSend rfl rfl rfl (by decide +kernel) ⟨Nat.le_of_ble_eq_true rfl, Nat.le_of_ble_eq_true rfl⟩) h_7 rfl rfl rfl rfl (Nat.le_of_ble_eq_true rfl) dX11_isDue_17 ⟨Nat.le_of_ble_eq_true rfl, Nat.le_of_ble_eq_true rfl⟩ (fun r_2 Φ2 sz2 st2 hp2 hs2 => ?_)
  obtain ⟨⟨v_13, rfl, b_3⟩, hq2, hI2, hF2⟩ := hp2
  subst sz2
  replace hs2 : st2 = [.int v_13] := hs2
  subst st2
  replace hI2 : In G x (ca) Φ2 := hI2
  exact zb_ret (Nat.le_of_ble_eq_true rfl) (Nat.le_of_ble_eq_true rfl) (z_ret_z B dX11_isDue_20 b_3 ⟨⟨_, rfl, b_3⟩, rfl, hI2, (fun b9 h9 => ((hF2 b9 (fun j9 h8 h7 => (show False from h7).elim)).trans ((hF1 b9 (fun j9 h8 h7 => (show False from h7).elim)).trans rfl)))⟩)

set_option maxHeartbeats 4000000 in
set_option maxRecDepth 100000 in
theorem s_X11_fieldAt (G : EnvG) (l : Launch) (hl9 : l.stackTraces = false) (Φ : Hm) (sz x ca : Nat) (a : Int32) (b : Int32) (hx : G.2.2.2 ≤ x) (hI : In G x ca Φ)  : CtB G l yX11_fieldAt wsX11_fieldAt ({ frames := 7, cells := 1, slots := 6, locals := 102 }) 1 6 [.ref x, .int a, .int b] Φ sz (fun v Φ1 sz1 => (∃ r9 : Int32, v = some (.int r9)) ∧ sz1 = sz ∧ In G x (ca) Φ1 ∧ Fr x (fun j9 => 2 ≤ j9 ∧ j9 < 149) Φ Φ1) (fun Φ1 => In G x ca Φ1 ∧ Fr x (fun j9 => False) Φ Φ1) [xIO] := by
  refine CtB.of (cc := cX11_fieldAt) (maxL := 3) (ret := (some .int)) (by decide) rfl (Nat.le_of_ble_eq_true rfl) ?_
  intro p9 e9 s9 m9 w9 t9 k9 B htab9
  show Z p9 l e9 _ s9 m9 _ w9 t9 k9 _ G 3 0 [(0, .ref x), (1, .int a), (2, .int b)] [] Φ sz 0 0
  refine z_aload_n B dX11_fieldAt_0 rfl 0 rfl ?_
  refine z_iload_n B dX11_fieldAt_1 rfl 1 rfl ?_
  have h_1 := in0 (k := 0) hI rfl
  have h_2 : Φ x = some (o_ 13 [.ref (x + 1), .ref (x + 3), .ref (x + 24), .ref (x + 46), .ref (x + 74), .ref (x + 80), .ref (x + 132), .ref (x + 121)]) := h_1
  refine zb_callV (As := [.int a]) (rest := []) B htab9 (s_X11_requireTemplate G l hl9 Φ sz x (ca) a hx hI ) (cwV 1 B.1.2.2.2.2 gX11_fieldAt_X11_requireTemplate rfl rfl rfl (by decide +kernel) ⟨Nat.le_of_ble_eq_true rfl, Nat.le_of_ble_eq_true rfl⟩) h_2 rfl rfl rfl rfl (Nat.le_of_ble_eq_true rfl) dX11_fieldAt_2 ⟨Nat.le_of_ble_eq_true rfl, Nat.le_of_ble_eq_true rfl⟩ ⟨Nat.le_of_ble_eq_true rfl, Nat.le_of_ble_eq_true rfl⟩ (by decide) (fun Φ9 h9 => ⟨h9.1, fun b9 h8 => ((h9.2 b9 h8).trans ((fun b9 h9 => rfl) b9 h8))⟩) (fun r_1 Φ1 sz1 st1 hp1 hs1 => ?_)
  obtain ⟨rfl, hq1, hI1, hF1⟩ := hp1
  subst sz1
  replace hs1 : st1 = [] := hs1
  subst st1
  replace hI1 : In G x (ca) Φ1 := hI1
  refine z_aload_n B dX11_fieldAt_5 rfl 0 rfl ?_
  have h_3 : Φ1 x = some (o_ 13 [.ref (x + 1), .ref (x + 3), .ref (x + 24), .ref (x + 46), .ref (x + 74), .ref (x + 80), .ref (x + 132), .ref (x + 121)]) := ((hF1 x (fun j9 h8 h7 => (show False from h7).elim)).trans h_2)
  refine z_get (ref := "FlowExporter") (C := RX11) (T := TX11) (N := 8) (ci := 13) (v := .ref (x + 3)) B (by decide +kernel) rfl 1 (by decide) (by decide +kernel) rfl h_3 rfl dX11_fieldAt_6 ?_
  refine z_iload_n B dX11_fieldAt_9 rfl 1 rfl ?_
  obtain ⟨v_1, v_2, h_4⟩ := in3 (k := 3) hI1 rfl
  have h_5 : Φ1 (x + 3) = some (o_ 3 [.ref (x + 4), .ref (x + 5), .ref (x + 6), .ref (x + 7), .int v_1, .int v_2]) := h_4
  refine z_callV (As := [.int a]) (rest := []) B (s_X1_template G l Φ1 sz x (ca) 3 a hx hI1 rfl) (cwV 1 B.1.2.2.2.2 gX11_fieldAt_X1_template rfl rfl rfl (by decide +kernel) ⟨Nat.le_of_ble_eq_true rfl, Nat.le_of_ble_eq_true rfl⟩) h_5 rfl rfl rfl rfl (Nat.le_of_ble_eq_true rfl) dX11_fieldAt_10 ⟨Nat.le_of_ble_eq_true rfl, Nat.le_of_ble_eq_true rfl⟩ (fun r_2 Φ2 sz2 st2 hp2 hs2 => ?_)
  obtain ⟨⟨m_1, hm_1, rfl⟩, hq2, hI2, hF2⟩ := hp2
  subst sz2
  replace hs2 : st2 = [.ref (x + (3 + 5 + 4 * m_1))] := hs2
  subst st2
  replace hI2 : In G x (ca) Φ2 := hI2
  replace hm_1 : m_1 < 4 := hm_1
  refine z_iload_n B dX11_fieldAt_13 rfl 2 rfl ?_
  obtain ⟨n_1, v_3, v_4, h_6, b_1⟩ := in8 (k := 3 + 5 + 4 * m_1) hI2 (kd_w (kd_s rfl).2.2.1 hm_1)
  have h_7 : Φ2 (x + (3 + 5 + 4 * m_1)) = some (o_ 12 [.ref (x + (3 + 5 + 4 * m_1 + 1)), .int (nI n_1), .int v_3, .int v_4]) := h_6
  refine z_callV (As := [.int b]) (rest := []) B (s_X10_field G l Φ2 sz x (ca) (3 + 5 + 4 * m_1) b hx hI2 (kd_w (kd_s rfl).2.2.1 hm_1)) (cwV 1 B.1.2.2.2.2 gX11_fieldAt_X10_field rfl rfl rfl (by decide +kernel) ⟨Nat.le_of_ble_eq_true rfl, Nat.le_of_ble_eq_true rfl⟩) h_7 rfl rfl rfl rfl (Nat.le_of_ble_eq_true rfl) dX11_fieldAt_14 ⟨Nat.le_of_ble_eq_true rfl, Nat.le_of_ble_eq_true rfl⟩ (fun r_3 Φ3 sz3 st3 hp3 hs3 => ?_)
  obtain ⟨⟨v_5, rfl⟩, hq3, hI3, hF3⟩ := hp3
  subst sz3
  replace hs3 : st3 = [.int v_5] := hs3
  subst st3
  replace hI3 : In G x (ca) Φ3 := hI3
  exact zb_ret (Nat.le_of_ble_eq_true rfl) (Nat.le_of_ble_eq_true rfl) (z_ret_i B dX11_fieldAt_17 ⟨⟨_, rfl⟩, rfl, hI3, (fun b9 h9 => ((hF3 b9 (fun j9 h8 h7 => (show False from h7).elim)).trans ((hF2 b9 (fun j9 h8 h7 => (show False from h7).elim)).trans ((hF1 b9 (fun j9 h8 h7 => (show False from h7).elim)).trans rfl))))⟩)

set_option maxHeartbeats 4000000 in
set_option maxRecDepth 100000 in
theorem s_X11_messageLength (G : EnvG) (l : Launch) (hl9 : l.stackTraces = false) (Φ : Hm) (sz x ca : Nat) (a : Int32) (hx : G.2.2.2 ≤ x) (hI : In G x ca Φ)  : CtB G l yX11_messageLength wsX11_messageLength ({ frames := 7, cells := 1, slots := 6, locals := 102 }) 1 6 [.ref x, .int a] Φ sz (fun v Φ1 sz1 => (∃ r9 : Int32, v = some (.int r9)) ∧ sz1 = sz ∧ In G x (ca) Φ1 ∧ Fr x (fun j9 => 2 ≤ j9 ∧ j9 < 149) Φ Φ1) (fun Φ1 => In G x ca Φ1 ∧ Fr x (fun j9 => False) Φ Φ1) [xIO] := by
  refine CtB.of (cc := cX11_messageLength) (maxL := 2) (ret := (some .int)) (by decide) rfl (Nat.le_of_ble_eq_true rfl) ?_
  intro p9 e9 s9 m9 w9 t9 k9 B htab9
  show Z p9 l e9 _ s9 m9 _ w9 t9 k9 _ G 2 0 [(0, .ref x), (1, .int a)] [] Φ sz 0 0
  refine z_aload_n B dX11_messageLength_0 rfl 0 rfl ?_
  refine z_iload_n B dX11_messageLength_1 rfl 1 rfl ?_
  have h_1 := in0 (k := 0) hI rfl
  have h_2 : Φ x = some (o_ 13 [.ref (x + 1), .ref (x + 3), .ref (x + 24), .ref (x + 46), .ref (x + 74), .ref (x + 80), .ref (x + 132), .ref (x + 121)]) := h_1
  refine zb_callV (As := [.int a]) (rest := []) B htab9 (s_X11_requireMessage G l hl9 Φ sz x (ca) a hx hI ) (cwV 1 B.1.2.2.2.2 gX11_messageLength_X11_requireMessage rfl rfl rfl (by decide +kernel) ⟨Nat.le_of_ble_eq_true rfl, Nat.le_of_ble_eq_true rfl⟩) h_2 rfl rfl rfl rfl (Nat.le_of_ble_eq_true rfl) dX11_messageLength_2 ⟨Nat.le_of_ble_eq_true rfl, Nat.le_of_ble_eq_true rfl⟩ ⟨Nat.le_of_ble_eq_true rfl, Nat.le_of_ble_eq_true rfl⟩ (by decide) (fun Φ9 h9 => ⟨h9.1, fun b9 h8 => ((h9.2 b9 h8).trans ((fun b9 h9 => rfl) b9 h8))⟩) (fun r_1 Φ1 sz1 st1 hp1 hs1 => ?_)
  obtain ⟨rfl, hq1, hI1, hF1⟩ := hp1
  subst sz1
  replace hs1 : st1 = [] := hs1
  subst st1
  replace hI1 : In G x (ca) Φ1 := hI1
  refine z_aload_n B dX11_messageLength_5 rfl 0 rfl ?_
  have h_3 : Φ1 x = some (o_ 13 [.ref (x + 1), .ref (x + 3), .ref (x + 24), .ref (x + 46), .ref (x + 74), .ref (x + 80), .ref (x + 132), .ref (x + 121)]) := ((hF1 x (fun j9 h8 h7 => (show False from h7).elim)).trans h_2)
  refine z_get (ref := "FlowExporter") (C := RX11) (T := TX11) (N := 8) (ci := 13) (v := .ref (x + 46)) B (by decide +kernel) rfl 3 (by decide) (by decide +kernel) rfl h_3 rfl dX11_messageLength_6 ?_
  refine z_iload_n B dX11_messageLength_9 rfl 1 rfl ?_
  obtain ⟨n_1, v_1, h_4, b_1⟩ := in11 (k := 46) hI1 rfl
  have h_5 : Φ1 (x + 46) = some (o_ 9 [.ref (x + 47), .int (nI n_1), .int v_1]) := h_4
  refine z_callV (As := [.int a]) (rest := []) B (s_X7_messageAt G l Φ1 sz x (ca) a hx hI1 ) (cwV 1 B.1.2.2.2.2 gX11_messageLength_X7_messageAt rfl rfl rfl (by decide +kernel) ⟨Nat.le_of_ble_eq_true rfl, Nat.le_of_ble_eq_true rfl⟩) h_5 rfl rfl rfl rfl (Nat.le_of_ble_eq_true rfl) dX11_messageLength_10 ⟨Nat.le_of_ble_eq_true rfl, Nat.le_of_ble_eq_true rfl⟩ (fun r_2 Φ2 sz2 st2 hp2 hs2 => ?_)
  obtain ⟨⟨m_1, hm_1, rfl⟩, hq2, hI2, hF2⟩ := hp2
  subst sz2
  replace hs2 : st2 = [.ref (x + (48 + 2 * m_1))] := hs2
  subst st2
  replace hI2 : In G x (ca) Φ2 := hI2
  replace hm_1 : m_1 < 13 := hm_1
  obtain ⟨n_2, h_6, b_2⟩ := in1 (k := 48 + 2 * m_1) hI2 (kd_q hm_1)
  replace b_2 : n_2 ≤ cap (48 + 2 * m_1) := b_2
  have b_3 := cap_le (48 + 2 * m_1)
  have h_7 : Φ2 (x + (48 + 2 * m_1)) = some (o_ 7 [.ref (x + (48 + 2 * m_1 + 1)), .int (nI n_2)]) := h_6
  refine z_get (ref := "FlowExporter$Message") (C := RX5) (T := TX5) (N := 2) (ci := 7) (v := .int (nI n_2)) B (by decide +kernel) rfl 1 (by decide) (by decide +kernel) rfl h_7 rfl dX11_messageLength_13 ?_
  exact zb_ret (Nat.le_of_ble_eq_true rfl) (Nat.le_of_ble_eq_true rfl) (z_ret_i B dX11_messageLength_16 ⟨⟨_, rfl⟩, rfl, hI2, (fun b9 h9 => ((hF2 b9 (fun j9 h8 h7 => (show False from h7).elim)).trans ((hF1 b9 (fun j9 h8 h7 => (show False from h7).elim)).trans rfl)))⟩)

set_option maxHeartbeats 4000000 in
set_option maxRecDepth 100000 in
theorem s_X11_messageByte (G : EnvG) (l : Launch) (hl9 : l.stackTraces = false) (Φ : Hm) (sz x ca : Nat) (a : Int32) (b : Int32) (hx : G.2.2.2 ≤ x) (hI : In G x ca Φ)  : CtB G l yX11_messageByte wsX11_messageByte ({ frames := 7, cells := 1, slots := 6, locals := 102 }) 1 6 [.ref x, .int a, .int b] Φ sz (fun v Φ1 sz1 => (∃ r9 : Int32, v = some (.int r9)) ∧ sz1 = sz ∧ In G x (ca) Φ1 ∧ Fr x (fun j9 => 2 ≤ j9 ∧ j9 < 149) Φ Φ1) (fun Φ1 => In G x ca Φ1 ∧ Fr x (fun j9 => False) Φ Φ1) [xIO] := by
  refine CtB.of (cc := cX11_messageByte) (maxL := 3) (ret := (some .int)) (by decide) rfl (Nat.le_of_ble_eq_true rfl) ?_
  intro p9 e9 s9 m9 w9 t9 k9 B htab9
  show Z p9 l e9 _ s9 m9 _ w9 t9 k9 _ G 3 0 [(0, .ref x), (1, .int a), (2, .int b)] [] Φ sz 0 0
  refine z_aload_n B dX11_messageByte_0 rfl 0 rfl ?_
  refine z_iload_n B dX11_messageByte_1 rfl 1 rfl ?_
  have h_1 := in0 (k := 0) hI rfl
  have h_2 : Φ x = some (o_ 13 [.ref (x + 1), .ref (x + 3), .ref (x + 24), .ref (x + 46), .ref (x + 74), .ref (x + 80), .ref (x + 132), .ref (x + 121)]) := h_1
  refine zb_callV (As := [.int a]) (rest := []) B htab9 (s_X11_requireMessage G l hl9 Φ sz x (ca) a hx hI ) (cwV 1 B.1.2.2.2.2 gX11_messageByte_X11_requireMessage rfl rfl rfl (by decide +kernel) ⟨Nat.le_of_ble_eq_true rfl, Nat.le_of_ble_eq_true rfl⟩) h_2 rfl rfl rfl rfl (Nat.le_of_ble_eq_true rfl) dX11_messageByte_2 ⟨Nat.le_of_ble_eq_true rfl, Nat.le_of_ble_eq_true rfl⟩ ⟨Nat.le_of_ble_eq_true rfl, Nat.le_of_ble_eq_true rfl⟩ (by decide) (fun Φ9 h9 => ⟨h9.1, fun b9 h8 => ((h9.2 b9 h8).trans ((fun b9 h9 => rfl) b9 h8))⟩) (fun r_1 Φ1 sz1 st1 hp1 hs1 => ?_)
  obtain ⟨rfl, hq1, hI1, hF1⟩ := hp1
  subst sz1
  replace hs1 : st1 = [] := hs1
  subst st1
  replace hI1 : In G x (ca) Φ1 := hI1
  refine z_aload_n B dX11_messageByte_5 rfl 0 rfl ?_
  have h_3 : Φ1 x = some (o_ 13 [.ref (x + 1), .ref (x + 3), .ref (x + 24), .ref (x + 46), .ref (x + 74), .ref (x + 80), .ref (x + 132), .ref (x + 121)]) := ((hF1 x (fun j9 h8 h7 => (show False from h7).elim)).trans h_2)
  refine z_get (ref := "FlowExporter") (C := RX11) (T := TX11) (N := 8) (ci := 13) (v := .ref (x + 46)) B (by decide +kernel) rfl 3 (by decide) (by decide +kernel) rfl h_3 rfl dX11_messageByte_6 ?_
  refine z_iload_n B dX11_messageByte_9 rfl 1 rfl ?_
  obtain ⟨n_1, v_1, h_4, b_1⟩ := in11 (k := 46) hI1 rfl
  have h_5 : Φ1 (x + 46) = some (o_ 9 [.ref (x + 47), .int (nI n_1), .int v_1]) := h_4
  refine z_callV (As := [.int a]) (rest := []) B (s_X7_messageAt G l Φ1 sz x (ca) a hx hI1 ) (cwV 1 B.1.2.2.2.2 gX11_messageByte_X7_messageAt rfl rfl rfl (by decide +kernel) ⟨Nat.le_of_ble_eq_true rfl, Nat.le_of_ble_eq_true rfl⟩) h_5 rfl rfl rfl rfl (Nat.le_of_ble_eq_true rfl) dX11_messageByte_10 ⟨Nat.le_of_ble_eq_true rfl, Nat.le_of_ble_eq_true rfl⟩ (fun r_2 Φ2 sz2 st2 hp2 hs2 => ?_)
  obtain ⟨⟨m_1, hm_1, rfl⟩, hq2, hI2, hF2⟩ := hp2
  subst sz2
  replace hs2 : st2 = [.ref (x + (48 + 2 * m_1))] := hs2
  subst st2
  replace hI2 : In G x (ca) Φ2 := hI2
  replace hm_1 : m_1 < 13 := hm_1
  refine z_iload_n B dX11_messageByte_13 rfl 2 rfl ?_
  obtain ⟨n_2, h_6, b_2⟩ := in1 (k := 48 + 2 * m_1) hI2 (kd_q hm_1)
  replace b_2 : n_2 ≤ cap (48 + 2 * m_1) := b_2
  have b_3 := cap_le (48 + 2 * m_1)
  have h_7 : Φ2 (x + (48 + 2 * m_1)) = some (o_ 7 [.ref (x + (48 + 2 * m_1 + 1)), .int (nI n_2)]) := h_6
  refine z_callV (As := [.int b]) (rest := []) B (s_X5_byteAt G l Φ2 sz x (ca) (48 + 2 * m_1) b hx hI2 (kd_q hm_1)) (cwV 1 B.1.2.2.2.2 gX11_messageByte_X5_byteAt rfl rfl rfl (by decide +kernel) ⟨Nat.le_of_ble_eq_true rfl, Nat.le_of_ble_eq_true rfl⟩) h_7 rfl rfl rfl rfl (Nat.le_of_ble_eq_true rfl) dX11_messageByte_14 ⟨Nat.le_of_ble_eq_true rfl, Nat.le_of_ble_eq_true rfl⟩ (fun r_3 Φ3 sz3 st3 hp3 hs3 => ?_)
  obtain ⟨⟨v_2, rfl⟩, hq3, hI3, hF3⟩ := hp3
  subst sz3
  replace hs3 : st3 = [.int v_2] := hs3
  subst st3
  replace hI3 : In G x (ca) Φ3 := hI3
  exact zb_ret (Nat.le_of_ble_eq_true rfl) (Nat.le_of_ble_eq_true rfl) (z_ret_i B dX11_messageByte_17 ⟨⟨_, rfl⟩, rfl, hI3, (fun b9 h9 => ((hF3 b9 (fun j9 h8 h7 => (show False from h7).elim)).trans ((hF2 b9 (fun j9 h8 h7 => (show False from h7).elim)).trans ((hF1 b9 (fun j9 h8 h7 => (show False from h7).elim)).trans rfl))))⟩)

set_option maxHeartbeats 4000000 in
set_option maxRecDepth 100000 in
theorem s_X11_deliver (G : EnvG) (l : Launch) (hl9 : l.stackTraces = false) (Φ : Hm) (sz x ca : Nat) (a : Int32) (hx : G.2.2.2 ≤ x) (hI : In G x ca Φ) (hca : ca < 1000000) : CtB G l yX11_deliver wsX11_deliver ({ frames := 7, cells := 1, slots := 6, locals := 156 }) 1 6 [.ref x, .int a] Φ sz (fun v Φ1 sz1 => (∃ r9 : Int32, v = some (.int r9)) ∧ sz1 = sz ∧ In G x (ca + 1) Φ1 ∧ Fr x (fun j9 => 2 ≤ j9 ∧ j9 < 149) Φ Φ1) (fun Φ1 => In G x ca Φ1 ∧ Fr x (fun j9 => False) Φ Φ1) [xIO] := by
  refine CtB.of (cc := cX11_deliver) (maxL := 2) (ret := (some .int)) (by decide) rfl (Nat.le_of_ble_eq_true rfl) ?_
  intro p9 e9 s9 m9 w9 t9 k9 B htab9
  show Z p9 l e9 _ s9 m9 _ w9 t9 k9 _ G 2 0 [(0, .ref x), (1, .int a)] [] Φ sz 0 0
  refine z_aload_n B dX11_deliver_0 rfl 0 rfl ?_
  refine z_iload_n B dX11_deliver_1 rfl 1 rfl ?_
  have h_1 := in0 (k := 0) hI rfl
  have h_2 : Φ x = some (o_ 13 [.ref (x + 1), .ref (x + 3), .ref (x + 24), .ref (x + 46), .ref (x + 74), .ref (x + 80), .ref (x + 132), .ref (x + 121)]) := h_1
  refine zb_callV (As := [.int a]) (rest := []) B htab9 (s_X11_requireMessage G l hl9 Φ sz x (ca) a hx hI ) (cwV 1 B.1.2.2.2.2 gX11_deliver_X11_requireMessage rfl rfl rfl (by decide +kernel) ⟨Nat.le_of_ble_eq_true rfl, Nat.le_of_ble_eq_true rfl⟩) h_2 rfl rfl rfl rfl (Nat.le_of_ble_eq_true rfl) dX11_deliver_2 ⟨Nat.le_of_ble_eq_true rfl, Nat.le_of_ble_eq_true rfl⟩ ⟨Nat.le_of_ble_eq_true rfl, Nat.le_of_ble_eq_true rfl⟩ (by decide) (fun Φ9 h9 => ⟨h9.1, fun b9 h8 => ((h9.2 b9 h8).trans ((fun b9 h9 => rfl) b9 h8))⟩) (fun r_1 Φ1 sz1 st1 hp1 hs1 => ?_)
  obtain ⟨rfl, hq1, hI1, hF1⟩ := hp1
  subst sz1
  replace hs1 : st1 = [] := hs1
  subst st1
  replace hI1 : In G x (ca) Φ1 := hI1
  refine z_aload_n B dX11_deliver_5 rfl 0 rfl ?_
  have h_3 : Φ1 x = some (o_ 13 [.ref (x + 1), .ref (x + 3), .ref (x + 24), .ref (x + 46), .ref (x + 74), .ref (x + 80), .ref (x + 132), .ref (x + 121)]) := ((hF1 x (fun j9 h8 h7 => (show False from h7).elim)).trans h_2)
  refine z_get (ref := "FlowExporter") (C := RX11) (T := TX11) (N := 8) (ci := 13) (v := .ref (x + 132)) B (by decide +kernel) rfl 6 (by decide) (by decide +kernel) rfl h_3 rfl dX11_deliver_6 ?_
  refine z_aload_n B dX11_deliver_9 rfl 0 rfl ?_
  refine z_get (ref := "FlowExporter") (C := RX11) (T := TX11) (N := 8) (ci := 13) (v := .ref (x + 46)) B (by decide +kernel) rfl 3 (by decide) (by decide +kernel) rfl h_3 rfl dX11_deliver_10 ?_
  refine z_iload_n B dX11_deliver_13 rfl 1 rfl ?_
  obtain ⟨n_1, v_1, h_4, b_1⟩ := in11 (k := 46) hI1 rfl
  have h_5 : Φ1 (x + 46) = some (o_ 9 [.ref (x + 47), .int (nI n_1), .int v_1]) := h_4
  refine z_callV (As := [.int a]) (rest := [.ref (x + 132)]) B (s_X7_takeOut G l Φ1 sz x (ca) a hx hI1 ) (cwV 1 B.1.2.2.2.2 gX11_deliver_X7_takeOut rfl rfl rfl (by decide +kernel) ⟨Nat.le_of_ble_eq_true rfl, Nat.le_of_ble_eq_true rfl⟩) h_5 rfl rfl rfl rfl (Nat.le_of_ble_eq_true rfl) dX11_deliver_14 ⟨Nat.le_of_ble_eq_true rfl, Nat.le_of_ble_eq_true rfl⟩ (fun r_2 Φ2 sz2 st2 hp2 hs2 => ?_)
  obtain ⟨⟨m_1, hm_1, rfl⟩, hq2, hI2, hF2⟩ := hp2
  subst sz2
  replace hs2 : st2 = [.ref (x + (48 + 2 * m_1)), .ref (x + 132)] := hs2
  subst st2
  replace hI2 : In G x (ca) Φ2 := hI2
  replace hm_1 : m_1 < 13 := hm_1
  refine z_aload_n B dX11_deliver_17 rfl 0 rfl ?_
  have h_6 : Φ2 x = some (o_ 13 [.ref (x + 1), .ref (x + 3), .ref (x + 24), .ref (x + 46), .ref (x + 74), .ref (x + 80), .ref (x + 132), .ref (x + 121)]) := ((hF2 x (fun j9 h8 h7 => by have h6 : j9 = 46 ∨ j9 = 47 := h7; omega)).trans h_3)
  refine z_get (ref := "FlowExporter") (C := RX11) (T := TX11) (N := 8) (ci := 13) (v := .ref (x + 80)) B (by decide +kernel) rfl 5 (by decide) (by decide +kernel) rfl h_6 rfl dX11_deliver_18 ?_
  obtain ⟨v_2, v_3, v_4, v_5, v_6, v_7, v_8, v_9, v_10, h_7, b_2⟩ := in16 (k := 80) hI2 rfl
  have h_8 : Φ2 (x + 80) = some (o_ 4 [.ref (x + 3), .ref (x + 74), .ref (x + 81), .ref (x + 95), .int v_2, .int v_3, .int v_4, .int v_5, .int v_6, .int v_7, .long v_8, .long v_9, .long v_10]) := h_7
  refine z_get (ref := "FlowExporter$Exporter") (C := RX2) (T := TX2) (N := 13) (ci := 4) (v := .int v_2) B (by decide +kernel) rfl 4 (by decide) (by decide +kernel) rfl h_8 rfl dX11_deliver_21 ?_
  obtain ⟨n_2, v_11, v_12, h_9, b_3⟩ := in25 (k := 132) hI2 rfl
  have h_10 : Φ2 (x + 132) = some (o_ 2 [.ref (x + 3), .ref (x + 121), .ref (x + 133), .ref (x + 134), .ref (x + 135), .ref (x + 137), .ref (x + 138), .ref (x + 139), .ref (x + 140), .int (nI n_2), .int v_11, .int v_12]) := h_9
  refine z_callV (As := [.ref (x + (48 + 2 * m_1)), .int v_2]) (rest := []) B (s_X0_take G l Φ2 sz x (ca) (48 + 2 * m_1) v_2 hx hI2 (kd_q hm_1) (show ca < 1000000 by omega)) (cwV 2 B.1.2.2.2.2 gX11_deliver_X0_take rfl rfl rfl (by decide +kernel) ⟨Nat.le_of_ble_eq_true rfl, Nat.le_of_ble_eq_true rfl⟩) h_10 rfl rfl rfl rfl (Nat.le_of_ble_eq_true rfl) dX11_deliver_24 ⟨Nat.le_of_ble_eq_true rfl, Nat.le_of_ble_eq_true rfl⟩ (fun r_3 Φ3 sz3 st3 hp3 hs3 => ?_)
  obtain ⟨⟨v_13, rfl⟩, hq3, hI3, hF3⟩ := hp3
  subst sz3
  replace hs3 : st3 = [.int v_13] := hs3
  subst st3
  replace hI3 : In G x (ca + 1) Φ3 := hI3
  exact zb_ret (Nat.le_of_ble_eq_true rfl) (Nat.le_of_ble_eq_true rfl) (z_ret_i B dX11_deliver_27 ⟨⟨_, rfl⟩, rfl, hI3, (fun b9 h9 => ((hF3 b9 (fun j9 h8 h7 => h9 j9 h8 (show 2 ≤ j9 ∧ j9 < 149 by have h6 : (121 ≤ j9 ∧ j9 < 149) := h7; omega))).trans ((hF2 b9 (fun j9 h8 h7 => h9 j9 h8 (show 2 ≤ j9 ∧ j9 < 149 by have h6 : j9 = 46 ∨ j9 = 47 := h7; omega))).trans ((hF1 b9 (fun j9 h8 h7 => (show False from h7).elim)).trans rfl))))⟩)

set_option maxHeartbeats 4000000 in
set_option maxRecDepth 100000 in
theorem s_X11_lose (G : EnvG) (l : Launch) (hl9 : l.stackTraces = false) (Φ : Hm) (sz x ca : Nat) (a : Int32) (hx : G.2.2.2 ≤ x) (hI : In G x ca Φ)  : CtB G l yX11_lose wsX11_lose ({ frames := 7, cells := 1, slots := 6, locals := 102 }) 1 6 [.ref x, .int a] Φ sz (fun v Φ1 sz1 => (∃ r9 : Int32, v = some (.int r9)) ∧ sz1 = sz ∧ In G x (ca) Φ1 ∧ Fr x (fun j9 => 2 ≤ j9 ∧ j9 < 149) Φ Φ1) (fun Φ1 => In G x ca Φ1 ∧ Fr x (fun j9 => False) Φ Φ1) [xIO] := by
  refine CtB.of (cc := cX11_lose) (maxL := 2) (ret := (some .int)) (by decide) rfl (Nat.le_of_ble_eq_true rfl) ?_
  intro p9 e9 s9 m9 w9 t9 k9 B htab9
  show Z p9 l e9 _ s9 m9 _ w9 t9 k9 _ G 2 0 [(0, .ref x), (1, .int a)] [] Φ sz 0 0
  refine z_aload_n B dX11_lose_0 rfl 0 rfl ?_
  refine z_iload_n B dX11_lose_1 rfl 1 rfl ?_
  have h_1 := in0 (k := 0) hI rfl
  have h_2 : Φ x = some (o_ 13 [.ref (x + 1), .ref (x + 3), .ref (x + 24), .ref (x + 46), .ref (x + 74), .ref (x + 80), .ref (x + 132), .ref (x + 121)]) := h_1
  refine zb_callV (As := [.int a]) (rest := []) B htab9 (s_X11_requireMessage G l hl9 Φ sz x (ca) a hx hI ) (cwV 1 B.1.2.2.2.2 gX11_lose_X11_requireMessage rfl rfl rfl (by decide +kernel) ⟨Nat.le_of_ble_eq_true rfl, Nat.le_of_ble_eq_true rfl⟩) h_2 rfl rfl rfl rfl (Nat.le_of_ble_eq_true rfl) dX11_lose_2 ⟨Nat.le_of_ble_eq_true rfl, Nat.le_of_ble_eq_true rfl⟩ ⟨Nat.le_of_ble_eq_true rfl, Nat.le_of_ble_eq_true rfl⟩ (by decide) (fun Φ9 h9 => ⟨h9.1, fun b9 h8 => ((h9.2 b9 h8).trans ((fun b9 h9 => rfl) b9 h8))⟩) (fun r_1 Φ1 sz1 st1 hp1 hs1 => ?_)
  obtain ⟨rfl, hq1, hI1, hF1⟩ := hp1
  subst sz1
  replace hs1 : st1 = [] := hs1
  subst st1
  replace hI1 : In G x (ca) Φ1 := hI1
  refine z_aload_n B dX11_lose_5 rfl 0 rfl ?_
  have h_3 : Φ1 x = some (o_ 13 [.ref (x + 1), .ref (x + 3), .ref (x + 24), .ref (x + 46), .ref (x + 74), .ref (x + 80), .ref (x + 132), .ref (x + 121)]) := ((hF1 x (fun j9 h8 h7 => (show False from h7).elim)).trans h_2)
  refine z_get (ref := "FlowExporter") (C := RX11) (T := TX11) (N := 8) (ci := 13) (v := .ref (x + 46)) B (by decide +kernel) rfl 3 (by decide) (by decide +kernel) rfl h_3 rfl dX11_lose_6 ?_
  refine z_iload_n B dX11_lose_9 rfl 1 rfl ?_
  obtain ⟨n_1, v_1, h_4, b_1⟩ := in11 (k := 46) hI1 rfl
  have h_5 : Φ1 (x + 46) = some (o_ 9 [.ref (x + 47), .int (nI n_1), .int v_1]) := h_4
  refine z_callV (As := [.int a]) (rest := []) B (s_X7_takeOut G l Φ1 sz x (ca) a hx hI1 ) (cwV 1 B.1.2.2.2.2 gX11_lose_X7_takeOut rfl rfl rfl (by decide +kernel) ⟨Nat.le_of_ble_eq_true rfl, Nat.le_of_ble_eq_true rfl⟩) h_5 rfl rfl rfl rfl (Nat.le_of_ble_eq_true rfl) dX11_lose_10 ⟨Nat.le_of_ble_eq_true rfl, Nat.le_of_ble_eq_true rfl⟩ (fun r_2 Φ2 sz2 st2 hp2 hs2 => ?_)
  obtain ⟨⟨m_1, hm_1, rfl⟩, hq2, hI2, hF2⟩ := hp2
  subst sz2
  replace hs2 : st2 = [.ref (x + (48 + 2 * m_1))] := hs2
  subst st2
  replace hI2 : In G x (ca) Φ2 := hI2
  replace hm_1 : m_1 < 13 := hm_1
  obtain ⟨n_2, h_6, b_2⟩ := in1 (k := 48 + 2 * m_1) hI2 (kd_q hm_1)
  replace b_2 : n_2 ≤ cap (48 + 2 * m_1) := b_2
  have b_3 := cap_le (48 + 2 * m_1)
  have h_7 : Φ2 (x + (48 + 2 * m_1)) = some (o_ 7 [.ref (x + (48 + 2 * m_1 + 1)), .int (nI n_2)]) := h_6
  refine z_get (ref := "FlowExporter$Message") (C := RX5) (T := TX5) (N := 2) (ci := 7) (v := .int (nI n_2)) B (by decide +kernel) rfl 1 (by decide) (by decide +kernel) rfl h_7 rfl dX11_lose_13 ?_
  exact zb_ret (Nat.le_of_ble_eq_true rfl) (Nat.le_of_ble_eq_true rfl) (z_ret_i B dX11_lose_16 ⟨⟨_, rfl⟩, rfl, hI2, (fun b9 h9 => ((hF2 b9 (fun j9 h8 h7 => h9 j9 h8 (show 2 ≤ j9 ∧ j9 < 149 by have h6 : j9 = 46 ∨ j9 = 47 := h7; omega))).trans ((hF1 b9 (fun j9 h8 h7 => (show False from h7).elim)).trans rfl)))⟩)

set_option maxHeartbeats 4000000 in
set_option maxRecDepth 100000 in
theorem s_X11_duplicate (G : EnvG) (l : Launch) (hl9 : l.stackTraces = false) (Φ : Hm) (sz x ca : Nat) (a : Int32) (hx : G.2.2.2 ≤ x) (hI : In G x ca Φ)  : CtB G l yX11_duplicate wsX11_duplicate ({ frames := 7, cells := 1, slots := 6, locals := 102 }) 1 6 [.ref x, .int a] Φ sz (fun v Φ1 sz1 => (∃ r9 : Int32, v = some (.int r9) ∧ (r9 = 0 ∨ r9 = 1)) ∧ sz1 = sz ∧ In G x (ca) Φ1 ∧ Fr x (fun j9 => 2 ≤ j9 ∧ j9 < 149) Φ Φ1) (fun Φ1 => In G x ca Φ1 ∧ Fr x (fun j9 => False) Φ Φ1) [xIO] := by
  refine CtB.of (cc := cX11_duplicate) (maxL := 3) (ret := (some .boolean)) (by decide) rfl (Nat.le_of_ble_eq_true rfl) ?_
  intro p9 e9 s9 m9 w9 t9 k9 B htab9
  show Z p9 l e9 _ s9 m9 _ w9 t9 k9 _ G 3 0 [(0, .ref x), (1, .int a)] [] Φ sz 0 0
  refine z_aload_n B dX11_duplicate_0 rfl 0 rfl ?_
  refine z_iload_n B dX11_duplicate_1 rfl 1 rfl ?_
  have h_1 := in0 (k := 0) hI rfl
  have h_2 : Φ x = some (o_ 13 [.ref (x + 1), .ref (x + 3), .ref (x + 24), .ref (x + 46), .ref (x + 74), .ref (x + 80), .ref (x + 132), .ref (x + 121)]) := h_1
  refine zb_callV (As := [.int a]) (rest := []) B htab9 (s_X11_requireMessage G l hl9 Φ sz x (ca) a hx hI ) (cwV 1 B.1.2.2.2.2 gX11_duplicate_X11_requireMessage rfl rfl rfl (by decide +kernel) ⟨Nat.le_of_ble_eq_true rfl, Nat.le_of_ble_eq_true rfl⟩) h_2 rfl rfl rfl rfl (Nat.le_of_ble_eq_true rfl) dX11_duplicate_2 ⟨Nat.le_of_ble_eq_true rfl, Nat.le_of_ble_eq_true rfl⟩ ⟨Nat.le_of_ble_eq_true rfl, Nat.le_of_ble_eq_true rfl⟩ (by decide) (fun Φ9 h9 => ⟨h9.1, fun b9 h8 => ((h9.2 b9 h8).trans ((fun b9 h9 => rfl) b9 h8))⟩) (fun r_1 Φ1 sz1 st1 hp1 hs1 => ?_)
  obtain ⟨rfl, hq1, hI1, hF1⟩ := hp1
  subst sz1
  replace hs1 : st1 = [] := hs1
  subst st1
  replace hI1 : In G x (ca) Φ1 := hI1
  refine z_aload_n B dX11_duplicate_5 rfl 0 rfl ?_
  have h_3 : Φ1 x = some (o_ 13 [.ref (x + 1), .ref (x + 3), .ref (x + 24), .ref (x + 46), .ref (x + 74), .ref (x + 80), .ref (x + 132), .ref (x + 121)]) := ((hF1 x (fun j9 h8 h7 => (show False from h7).elim)).trans h_2)
  refine z_get (ref := "FlowExporter") (C := RX11) (T := TX11) (N := 8) (ci := 13) (v := .ref (x + 46)) B (by decide +kernel) rfl 3 (by decide) (by decide +kernel) rfl h_3 rfl dX11_duplicate_6 ?_
  obtain ⟨n_1, v_1, h_4, b_1⟩ := in11 (k := 46) hI1 rfl
  have h_5 : Φ1 (x + 46) = some (o_ 9 [.ref (x + 47), .int (nI n_1), .int v_1]) := h_4
  refine z_get (ref := "FlowExporter$Queue") (C := RX7) (T := TX7) (N := 3) (ci := 9) (v := .int (nI n_1)) B (by decide +kernel) rfl 1 (by decide) (by decide +kernel) rfl h_5 rfl dX11_duplicate_9 ?_
  refine z_bipush (v := 12) B dX11_duplicate_12 rfl ?_
  refine z_icmp_ne (tgt := 19) B dX11_duplicate_14 rfl (fun c_1 => ?_) (fun c_1 => ?_)
  · have e_1 : ¬ (n_1 = 12) := fun h9 => c_1 ((nI_eq (a := n_1) (b := 12) (by omega) (by omega)).mpr h9)
    refine z_aload_n B dX11_duplicate_19 rfl 0 rfl ?_
    refine z_get (ref := "FlowExporter") (C := RX11) (T := TX11) (N := 8) (ci := 13) (v := .ref (x + 46)) B (by decide +kernel) rfl 3 (by decide) (by decide +kernel) rfl h_3 rfl dX11_duplicate_20 ?_
    refine z_iload_n B dX11_duplicate_23 rfl 1 rfl ?_
    refine z_callV (As := [.int a]) (rest := []) B (s_X7_messageAt G l Φ1 sz x (ca) a hx hI1 ) (cwV 1 B.1.2.2.2.2 gX11_duplicate_X7_messageAt rfl rfl rfl (by decide +kernel) ⟨Nat.le_of_ble_eq_true rfl, Nat.le_of_ble_eq_true rfl⟩) h_5 rfl rfl rfl rfl (Nat.le_of_ble_eq_true rfl) dX11_duplicate_24 ⟨Nat.le_of_ble_eq_true rfl, Nat.le_of_ble_eq_true rfl⟩ (fun r_2 Φ2 sz2 st2 hp2 hs2 => ?_)
    obtain ⟨⟨m_1, hm_1, rfl⟩, hq2, hI2, hF2⟩ := hp2
    subst sz2
    replace hs2 : st2 = [.ref (x + (48 + 2 * m_1))] := hs2
    subst st2
    replace hI2 : In G x (ca) Φ2 := hI2
    replace hm_1 : m_1 < 13 := hm_1
    refine z_astore_n (lv' := [(2, .ref (x + (48 + 2 * m_1))), (0, .ref x), (1, .int a)]) B dX11_duplicate_27 rfl (Nat.le_of_ble_eq_true rfl) rfl ?_
    refine z_aload_n B dX11_duplicate_28 rfl 1 rfl ?_
    have h_6 : Φ2 x = some (o_ 13 [.ref (x + 1), .ref (x + 3), .ref (x + 24), .ref (x + 46), .ref (x + 74), .ref (x + 80), .ref (x + 132), .ref (x + 121)]) := ((hF2 x (fun j9 h8 h7 => (show False from h7).elim)).trans h_3)
    refine z_get (ref := "FlowExporter") (C := RX11) (T := TX11) (N := 8) (ci := 13) (v := .ref (x + 46)) B (by decide +kernel) rfl 3 (by decide) (by decide +kernel) rfl h_6 rfl dX11_duplicate_29 ?_
    have h_7 : Φ2 (x + 46) = some (o_ 9 [.ref (x + 47), .int (nI n_1), .int v_1]) := ((hF2 (x + 46) (fun j9 h8 h7 => (show False from h7).elim)).trans h_5)
    refine z_callV (As := []) (rest := []) B (s_X7_freeMessage G l Φ2 sz x (ca)  hx hI2 ) (cwV 0 B.1.2.2.2.2 gX11_duplicate_X7_freeMessage rfl rfl rfl (by decide +kernel) ⟨Nat.le_of_ble_eq_true rfl, Nat.le_of_ble_eq_true rfl⟩) h_7 rfl rfl rfl rfl (Nat.le_of_ble_eq_true rfl) dX11_duplicate_32 ⟨Nat.le_of_ble_eq_true rfl, Nat.le_of_ble_eq_true rfl⟩ (fun r_3 Φ3 sz3 st3 hp3 hs3 => ?_)
    obtain ⟨⟨m_2, hm_2, rfl⟩, hq3, hI3, hF3⟩ := hp3
    subst sz3
    replace hs3 : st3 = [.ref (x + (48 + 2 * m_2))] := hs3
    subst st3
    replace hI3 : In G x (ca) Φ3 := hI3
    replace hm_2 : m_2 < 13 := hm_2
    refine z_aload_n B dX11_duplicate_35 rfl 0 rfl ?_
    refine z_iconst (v := 0) B dX11_duplicate_36 rfl ?_
    refine z_aload_n B dX11_duplicate_37 rfl 0 rfl ?_
    obtain ⟨n_2, h_8, b_2⟩ := in1 (k := 48 + 2 * m_1) hI3 (kd_q hm_1)
    replace b_2 : n_2 ≤ cap (48 + 2 * m_1) := b_2
    have b_3 := cap_le (48 + 2 * m_1)
    have h_9 : Φ3 (x + (48 + 2 * m_1)) = some (o_ 7 [.ref (x + (48 + 2 * m_1 + 1)), .int (nI n_2)]) := h_8
    refine z_get (ref := "FlowExporter$Message") (C := RX5) (T := TX5) (N := 2) (ci := 7) (v := .int (nI n_2)) B (by decide +kernel) rfl 1 (by decide) (by decide +kernel) rfl h_9 rfl dX11_duplicate_38 ?_
    obtain ⟨n_3, h_10, b_4⟩ := in1 (k := 48 + 2 * m_2) hI3 (kd_q hm_2)
    replace b_4 : n_3 ≤ cap (48 + 2 * m_2) := b_4
    have b_5 := cap_le (48 + 2 * m_2)
    have h_11 : Φ3 (x + (48 + 2 * m_2)) = some (o_ 7 [.ref (x + (48 + 2 * m_2 + 1)), .int (nI n_3)]) := h_10
    refine z_callV (As := [.ref (x + (48 + 2 * m_1)), .int 0, .int (nI n_2)]) (rest := []) B (s_X5_putFrom G l Φ3 sz x (ca) (48 + 2 * m_2) (48 + 2 * m_1) 0 (nI n_2) hx hI3 (kd_q hm_2) (kd_q hm_1)) (cwV 3 B.1.2.2.2.2 gX11_duplicate_X5_putFrom rfl rfl rfl (by decide +kernel) ⟨Nat.le_of_ble_eq_true rfl, Nat.le_of_ble_eq_true rfl⟩) h_11 rfl rfl rfl rfl (Nat.le_of_ble_eq_true rfl) dX11_duplicate_41 ⟨Nat.le_of_ble_eq_true rfl, Nat.le_of_ble_eq_true rfl⟩ (fun r_4 Φ4 sz4 st4 hp4 hs4 => ?_)
    obtain ⟨rfl, hq4, hI4, hF4⟩ := hp4
    subst sz4
    replace hs4 : st4 = [] := hs4
    subst st4
    replace hI4 : In G x (ca) Φ4 := hI4
    refine z_aload_n B dX11_duplicate_44 rfl 1 rfl ?_
    have h_12 : Φ4 x = some (o_ 13 [.ref (x + 1), .ref (x + 3), .ref (x + 24), .ref (x + 46), .ref (x + 74), .ref (x + 80), .ref (x + 132), .ref (x + 121)]) := ((hF4 x (fun j9 h8 h7 => by have h6 : j9 = (48 + 2 * m_2) ∨ j9 = (48 + 2 * m_2) + 1 := h7; omega)).trans ((hF3 x (fun j9 h8 h7 => by have h6 : 48 ≤ j9 ∧ j9 < 74 := h7; omega)).trans h_6))
    refine z_get (ref := "FlowExporter") (C := RX11) (T := TX11) (N := 8) (ci := 13) (v := .ref (x + 46)) B (by decide +kernel) rfl 3 (by decide) (by decide +kernel) rfl h_12 rfl dX11_duplicate_45 ?_
    have h_13 : Φ4 (x + 46) = some (o_ 9 [.ref (x + 47), .int (nI n_1), .int v_1]) := ((hF4 (x + 46) (fun j9 h8 h7 => by have h6 : j9 = (48 + 2 * m_2) ∨ j9 = (48 + 2 * m_2) + 1 := h7; omega)).trans ((hF3 (x + 46) (fun j9 h8 h7 => by have h6 : 48 ≤ j9 ∧ j9 < 74 := h7; omega)).trans h_7))
    refine z_callV (As := []) (rest := []) B (s_X7_addFreeMessage G l Φ4 sz x (ca)  hx hI4 ) (cwV 0 B.1.2.2.2.2 gX11_duplicate_X7_addFreeMessage rfl rfl rfl (by decide +kernel) ⟨Nat.le_of_ble_eq_true rfl, Nat.le_of_ble_eq_true rfl⟩) h_13 rfl rfl rfl rfl (Nat.le_of_ble_eq_true rfl) dX11_duplicate_48 ⟨Nat.le_of_ble_eq_true rfl, Nat.le_of_ble_eq_true rfl⟩ (fun r_5 Φ5 sz5 st5 hp5 hs5 => ?_)
    obtain ⟨rfl, hq5, hI5, hF5⟩ := hp5
    subst sz5
    replace hs5 : st5 = [] := hs5
    subst st5
    replace hI5 : In G x (ca) Φ5 := hI5
    refine z_iconst (v := 1) B dX11_duplicate_51 rfl ?_
    exact zb_ret (Nat.le_of_ble_eq_true rfl) (Nat.le_of_ble_eq_true rfl) (z_ret_z B dX11_duplicate_52 (by decide) ⟨⟨_, rfl, by decide⟩, rfl, hI5, (fun b9 h9 => ((hF5 b9 (fun j9 h8 h7 => h9 j9 h8 (show 2 ≤ j9 ∧ j9 < 149 by have h6 : j9 = 46 := h7; omega))).trans ((hF4 b9 (fun j9 h8 h7 => h9 j9 h8 (show 2 ≤ j9 ∧ j9 < 149 by have h6 : j9 = (48 + 2 * m_2) ∨ j9 = (48 + 2 * m_2) + 1 := h7; omega))).trans ((hF3 b9 (fun j9 h8 h7 => h9 j9 h8 (show 2 ≤ j9 ∧ j9 < 149 by have h6 : 48 ≤ j9 ∧ j9 < 74 := h7; omega))).trans ((hF2 b9 (fun j9 h8 h7 => (show False from h7).elim)).trans ((hF1 b9 (fun j9 h8 h7 => (show False from h7).elim)).trans rfl))))))⟩)
  · have e_2 : n_1 = 12 := (nI_eq (a := n_1) (b := 12) (by omega) (by omega)).mp c_1
    refine z_iconst (v := 0) B dX11_duplicate_17 rfl ?_
    exact zb_ret (Nat.le_of_ble_eq_true rfl) (Nat.le_of_ble_eq_true rfl) (z_ret_z B dX11_duplicate_18 (by decide) ⟨⟨_, rfl, by decide⟩, rfl, hI1, (fun b9 h9 => ((hF1 b9 (fun j9 h8 h7 => (show False from h7).elim)).trans rfl))⟩)

set_option maxHeartbeats 4000000 in
set_option maxRecDepth 100000 in
theorem s_X11_exchange (G : EnvG) (l : Launch) (hl9 : l.stackTraces = false) (Φ : Hm) (sz x ca : Nat) (a : Int32) (b : Int32) (hx : G.2.2.2 ≤ x) (hI : In G x ca Φ)  : CtB G l yX11_exchange wsX11_exchange ({ frames := 7, cells := 2, slots := 12, locals := 102 }) 2 12 [.ref x, .int a, .int b] Φ sz (fun v Φ1 sz1 => (∃ r9 : Int32, v = some (.int r9) ∧ (r9 = 0 ∨ r9 = 1)) ∧ sz1 = sz ∧ In G x (ca) Φ1 ∧ Fr x (fun j9 => 2 ≤ j9 ∧ j9 < 149) Φ Φ1) (fun Φ1 => In G x ca Φ1 ∧ Fr x (fun j9 => False) Φ Φ1) [xIO] := by
  refine CtB.of (cc := cX11_exchange) (maxL := 3) (ret := (some .boolean)) (by decide) rfl (Nat.le_of_ble_eq_true rfl) ?_
  intro p9 e9 s9 m9 w9 t9 k9 B htab9
  show Z p9 l e9 _ s9 m9 _ w9 t9 k9 _ G 3 0 [(0, .ref x), (1, .int a), (2, .int b)] [] Φ sz 0 0
  refine z_aload_n B dX11_exchange_0 rfl 0 rfl ?_
  refine z_iload_n B dX11_exchange_1 rfl 1 rfl ?_
  have h_1 := in0 (k := 0) hI rfl
  have h_2 : Φ x = some (o_ 13 [.ref (x + 1), .ref (x + 3), .ref (x + 24), .ref (x + 46), .ref (x + 74), .ref (x + 80), .ref (x + 132), .ref (x + 121)]) := h_1
  refine zb_callV (As := [.int a]) (rest := []) B htab9 (s_X11_requireMessage G l hl9 Φ sz x (ca) a hx hI ) (cwV 1 B.1.2.2.2.2 gX11_exchange_X11_requireMessage rfl rfl rfl (by decide +kernel) ⟨Nat.le_of_ble_eq_true rfl, Nat.le_of_ble_eq_true rfl⟩) h_2 rfl rfl rfl rfl (Nat.le_of_ble_eq_true rfl) dX11_exchange_2 ⟨Nat.le_of_ble_eq_true rfl, Nat.le_of_ble_eq_true rfl⟩ ⟨Nat.le_of_ble_eq_true rfl, Nat.le_of_ble_eq_true rfl⟩ (by decide) (fun Φ9 h9 => ⟨h9.1, fun b9 h8 => ((h9.2 b9 h8).trans ((fun b9 h9 => rfl) b9 h8))⟩) (fun r_1 Φ1 sz1 st1 hp1 hs1 => ?_)
  obtain ⟨rfl, hq1, hI1, hF1⟩ := hp1
  subst sz1
  replace hs1 : st1 = [] := hs1
  subst st1
  replace hI1 : In G x (ca) Φ1 := hI1
  refine z_aload_n B dX11_exchange_5 rfl 0 rfl ?_
  refine z_iload_n B dX11_exchange_6 rfl 2 rfl ?_
  have h_3 : Φ1 x = some (o_ 13 [.ref (x + 1), .ref (x + 3), .ref (x + 24), .ref (x + 46), .ref (x + 74), .ref (x + 80), .ref (x + 132), .ref (x + 121)]) := ((hF1 x (fun j9 h8 h7 => (show False from h7).elim)).trans h_2)
  refine zb_callV (As := [.int b]) (rest := []) B htab9 (s_X11_requireMessage G l hl9 Φ1 sz x (ca) b hx hI1 ) (cwV 1 B.1.2.2.2.2 gX11_exchange_X11_requireMessage rfl rfl rfl (by decide +kernel) ⟨Nat.le_of_ble_eq_true rfl, Nat.le_of_ble_eq_true rfl⟩) h_3 rfl rfl rfl rfl (Nat.le_of_ble_eq_true rfl) dX11_exchange_7 ⟨Nat.le_of_ble_eq_true rfl, Nat.le_of_ble_eq_true rfl⟩ ⟨Nat.le_of_ble_eq_true rfl, Nat.le_of_ble_eq_true rfl⟩ (by decide) (fun Φ9 h9 => ⟨h9.1, fun b9 h8 => ((h9.2 b9 h8).trans ((fun b9 h9 => ((hF1 b9 (fun j9 h8 h7 => (show False from h7).elim)).trans rfl)) b9 h8))⟩) (fun r_2 Φ2 sz2 st2 hp2 hs2 => ?_)
  obtain ⟨rfl, hq2, hI2, hF2⟩ := hp2
  subst sz2
  replace hs2 : st2 = [] := hs2
  subst st2
  replace hI2 : In G x (ca) Φ2 := hI2
  refine z_iload_n B dX11_exchange_10 rfl 1 rfl ?_
  refine z_iload_n B dX11_exchange_11 rfl 2 rfl ?_
  refine z_icmp_ne (tgt := 17) B dX11_exchange_12 rfl (fun c_1 => ?_) (fun c_1 => ?_)
  · refine z_aload_n B dX11_exchange_17 rfl 0 rfl ?_
    have h_4 : Φ2 x = some (o_ 13 [.ref (x + 1), .ref (x + 3), .ref (x + 24), .ref (x + 46), .ref (x + 74), .ref (x + 80), .ref (x + 132), .ref (x + 121)]) := ((hF2 x (fun j9 h8 h7 => (show False from h7).elim)).trans h_3)
    refine z_get (ref := "FlowExporter") (C := RX11) (T := TX11) (N := 8) (ci := 13) (v := .ref (x + 46)) B (by decide +kernel) rfl 3 (by decide) (by decide +kernel) rfl h_4 rfl dX11_exchange_18 ?_
    refine z_iload_n B dX11_exchange_21 rfl 1 rfl ?_
    refine z_iload_n B dX11_exchange_22 rfl 2 rfl ?_
    obtain ⟨n_1, v_1, h_5, b_1⟩ := in11 (k := 46) hI2 rfl
    have h_6 : Φ2 (x + 46) = some (o_ 9 [.ref (x + 47), .int (nI n_1), .int v_1]) := h_5
    refine z_callV (As := [.int a, .int b]) (rest := []) B (s_X7_swap G l Φ2 sz x (ca) a b hx hI2 ) (cwV 2 B.1.2.2.2.2 gX11_exchange_X7_swap rfl rfl rfl (by decide +kernel) ⟨Nat.le_of_ble_eq_true rfl, Nat.le_of_ble_eq_true rfl⟩) h_6 rfl rfl rfl rfl (Nat.le_of_ble_eq_true rfl) dX11_exchange_23 ⟨Nat.le_of_ble_eq_true rfl, Nat.le_of_ble_eq_true rfl⟩ (fun r_3 Φ3 sz3 st3 hp3 hs3 => ?_)
    obtain ⟨rfl, hq3, hI3, hF3⟩ := hp3
    subst sz3
    replace hs3 : st3 = [] := hs3
    subst st3
    replace hI3 : In G x (ca) Φ3 := hI3
    refine z_iconst (v := 1) B dX11_exchange_26 rfl ?_
    exact zb_ret (Nat.le_of_ble_eq_true rfl) (Nat.le_of_ble_eq_true rfl) (z_ret_z B dX11_exchange_27 (by decide) ⟨⟨_, rfl, by decide⟩, rfl, hI3, (fun b9 h9 => ((hF3 b9 (fun j9 h8 h7 => h9 j9 h8 (show 2 ≤ j9 ∧ j9 < 149 by have h6 : j9 = 47 := h7; omega))).trans ((hF2 b9 (fun j9 h8 h7 => (show False from h7).elim)).trans ((hF1 b9 (fun j9 h8 h7 => (show False from h7).elim)).trans rfl))))⟩)
  · refine z_iconst (v := 0) B dX11_exchange_15 rfl ?_
    exact zb_ret (Nat.le_of_ble_eq_true rfl) (Nat.le_of_ble_eq_true rfl) (z_ret_z B dX11_exchange_16 (by decide) ⟨⟨_, rfl, by decide⟩, rfl, hI2, (fun b9 h9 => ((hF2 b9 (fun j9 h8 h7 => (show False from h7).elim)).trans ((hF1 b9 (fun j9 h8 h7 => (show False from h7).elim)).trans rfl)))⟩)

set_option maxHeartbeats 4000000 in
set_option maxRecDepth 100000 in
theorem s_X11_templateAge (G : EnvG) (l : Launch) (hl9 : l.stackTraces = false) (Φ : Hm) (sz x ca : Nat) (a : Int32) (hx : G.2.2.2 ≤ x) (hI : In G x ca Φ)  : CtB G l yX11_templateAge wsX11_templateAge ({ frames := 6, cells := 1, slots := 6, locals := 81 }) 1 6 [.ref x, .int a] Φ sz (fun v Φ1 sz1 => (∃ r9 : Int32, v = some (.int r9)) ∧ sz1 = sz ∧ In G x (ca) Φ1 ∧ Fr x (fun j9 => 2 ≤ j9 ∧ j9 < 149) Φ Φ1) (fun Φ1 => In G x ca Φ1 ∧ Fr x (fun j9 => False) Φ Φ1) [xIA] := by
  refine CtB.of (cc := cX11_templateAge) (maxL := 2) (ret := (some .int)) (by decide) rfl (Nat.le_of_ble_eq_true rfl) ?_
  intro p9 e9 s9 m9 w9 t9 k9 B htab9
  show Z p9 l e9 _ s9 m9 _ w9 t9 k9 _ G 2 0 [(0, .ref x), (1, .int a)] [] Φ sz 0 0
  refine z_iload_n B dX11_templateAge_0 rfl 1 rfl ?_
  refine z_if_lt (tgt := 9) B dX11_templateAge_1 rfl (fun c_1 => ?_) (fun c_1 => ?_)
  · exact zb_throw (cls := xIA) (ik := 116) (ic := 118) B hl9 htab9 (by decide) ⟨hI, (fun b9 h9 => rfl)⟩ (by decide) (by decide +kernel) (by decide +kernel) (by decide +kernel) (by decide +kernel) (by decide +kernel) (by decide +kernel) (by decide +kernel) dX11_templateAge_9 dX11_templateAge_12 dX11_templateAge_13 dX11_templateAge_16 ⟨Nat.le_of_ble_eq_true rfl, Nat.le_of_ble_eq_true rfl, Nat.le_of_ble_eq_true rfl, Nat.le_of_ble_eq_true rfl⟩ ⟨Nat.le_of_ble_eq_true rfl, Nat.le_of_ble_eq_true rfl⟩
  · obtain ⟨n_1, e_1, rfl⟩ := nI_of c_1
    refine z_iload_n B dX11_templateAge_4 rfl 1 rfl ?_
    refine z_iconst (v := 4) B dX11_templateAge_5 rfl ?_
    refine z_icmp_lt (tgt := 17) B dX11_templateAge_6 rfl (fun c_2 => ?_) (fun c_2 => ?_)
    · have e_2 : n_1 < 4 := (nI_ltI (a := n_1) (b := 4) (by omega) (by omega)).mp c_2
      refine z_aload_n B dX11_templateAge_17 rfl 0 rfl ?_
      have h_1 := in0 (k := 0) hI rfl
      have h_2 : Φ x = some (o_ 13 [.ref (x + 1), .ref (x + 3), .ref (x + 24), .ref (x + 46), .ref (x + 74), .ref (x + 80), .ref (x + 132), .ref (x + 121)]) := h_1
      refine z_get (ref := "FlowExporter") (C := RX11) (T := TX11) (N := 8) (ci := 13) (v := .ref (x + 132)) B (by decide +kernel) rfl 6 (by decide) (by decide +kernel) rfl h_2 rfl dX11_templateAge_18 ?_
      refine z_iload_n B dX11_templateAge_21 rfl 1 rfl ?_
      refine z_aload_n B dX11_templateAge_22 rfl 0 rfl ?_
      refine z_get (ref := "FlowExporter") (C := RX11) (T := TX11) (N := 8) (ci := 13) (v := .ref (x + 80)) B (by decide +kernel) rfl 5 (by decide) (by decide +kernel) rfl h_2 rfl dX11_templateAge_23 ?_
      obtain ⟨v_1, v_2, v_3, v_4, v_5, v_6, v_7, v_8, v_9, h_3, b_1⟩ := in16 (k := 80) hI rfl
      have h_4 : Φ (x + 80) = some (o_ 4 [.ref (x + 3), .ref (x + 74), .ref (x + 81), .ref (x + 95), .int v_1, .int v_2, .int v_3, .int v_4, .int v_5, .int v_6, .long v_7, .long v_8, .long v_9]) := h_3
      refine z_get (ref := "FlowExporter$Exporter") (C := RX2) (T := TX2) (N := 13) (ci := 4) (v := .int v_1) B (by decide +kernel) rfl 4 (by decide) (by decide +kernel) rfl h_4 rfl dX11_templateAge_26 ?_
      obtain ⟨n_2, v_10, v_11, h_5, b_2⟩ := in25 (k := 132) hI rfl
      have h_6 : Φ (x + 132) = some (o_ 2 [.ref (x + 3), .ref (x + 121), .ref (x + 133), .ref (x + 134), .ref (x + 135), .ref (x + 137), .ref (x + 138), .ref (x + 139), .ref (x + 140), .int (nI n_2), .int v_10, .int v_11]) := h_5
      refine z_callV (As := [.int (nI n_1), .int v_1]) (rest := []) B (s_X0_ageOf G l Φ sz x (ca) (nI n_1) v_1 hx hI ) (cwV 2 B.1.2.2.2.2 gX11_templateAge_X0_ageOf rfl rfl rfl (by decide +kernel) ⟨Nat.le_of_ble_eq_true rfl, Nat.le_of_ble_eq_true rfl⟩) h_6 rfl rfl rfl rfl (Nat.le_of_ble_eq_true rfl) dX11_templateAge_29 ⟨Nat.le_of_ble_eq_true rfl, Nat.le_of_ble_eq_true rfl⟩ (fun r_1 Φ1 sz1 st1 hp1 hs1 => ?_)
      obtain ⟨⟨v_12, rfl⟩, hq1, hI1, hF1⟩ := hp1
      subst sz1
      replace hs1 : st1 = [.int v_12] := hs1
      subst st1
      replace hI1 : In G x (ca) Φ1 := hI1
      exact zb_ret (Nat.le_of_ble_eq_true rfl) (Nat.le_of_ble_eq_true rfl) (z_ret_i B dX11_templateAge_32 ⟨⟨_, rfl⟩, rfl, hI1, (fun b9 h9 => ((hF1 b9 (fun j9 h8 h7 => (show False from h7).elim)).trans rfl))⟩)
    · have e_3 : ¬ (n_1 < 4) := fun h9 => c_2 ((nI_ltI (a := n_1) (b := 4) (by omega) (by omega)).mpr h9)
      exact zb_throw (cls := xIA) (ik := 116) (ic := 118) B hl9 htab9 (by decide) ⟨hI, (fun b9 h9 => rfl)⟩ (by decide) (by decide +kernel) (by decide +kernel) (by decide +kernel) (by decide +kernel) (by decide +kernel) (by decide +kernel) (by decide +kernel) dX11_templateAge_9 dX11_templateAge_12 dX11_templateAge_13 dX11_templateAge_16 ⟨Nat.le_of_ble_eq_true rfl, Nat.le_of_ble_eq_true rfl, Nat.le_of_ble_eq_true rfl, Nat.le_of_ble_eq_true rfl⟩ ⟨Nat.le_of_ble_eq_true rfl, Nat.le_of_ble_eq_true rfl⟩

set_option maxHeartbeats 4000000 in
set_option maxRecDepth 100000 in
theorem s_X11_counter (G : EnvG) (l : Launch) (hl9 : l.stackTraces = false) (Φ : Hm) (sz x ca : Nat) (a : Int32) (hx : G.2.2.2 ≤ x) (hI : In G x ca Φ)  : CtB G l yX11_counter wsX11_counter ({ frames := 6, cells := 1, slots := 6, locals := 81 }) 1 6 [.ref x, .int a] Φ sz (fun v Φ1 sz1 => (∃ r9 : Int64, v = some (.long r9)) ∧ sz1 = sz ∧ In G x (ca) Φ1 ∧ Fr x (fun j9 => 2 ≤ j9 ∧ j9 < 149) Φ Φ1) (fun Φ1 => In G x ca Φ1 ∧ Fr x (fun j9 => False) Φ Φ1) [xIA] := by
  refine CtB.of (cc := cX11_counter) (maxL := 2) (ret := (some .long)) (by decide) rfl (Nat.le_of_ble_eq_true rfl) ?_
  intro p9 e9 s9 m9 w9 t9 k9 B htab9
  show Z p9 l e9 _ s9 m9 _ w9 t9 k9 _ G 2 0 [(0, .ref x), (1, .int a)] [] Φ sz 0 0
  refine z_iload_n B dX11_counter_0 rfl 1 rfl ?_
  refine z_if_lt (tgt := 10) B dX11_counter_1 rfl (fun c_1 => ?_) (fun c_1 => ?_)
  · exact zb_throw (cls := xIA) (ik := 116) (ic := 118) B hl9 htab9 (by decide) ⟨hI, (fun b9 h9 => rfl)⟩ (by decide) (by decide +kernel) (by decide +kernel) (by decide +kernel) (by decide +kernel) (by decide +kernel) (by decide +kernel) (by decide +kernel) dX11_counter_10 dX11_counter_13 dX11_counter_14 dX11_counter_17 ⟨Nat.le_of_ble_eq_true rfl, Nat.le_of_ble_eq_true rfl, Nat.le_of_ble_eq_true rfl, Nat.le_of_ble_eq_true rfl⟩ ⟨Nat.le_of_ble_eq_true rfl, Nat.le_of_ble_eq_true rfl⟩
  · obtain ⟨n_1, e_1, rfl⟩ := nI_of c_1
    refine z_iload_n B dX11_counter_4 rfl 1 rfl ?_
    refine z_bipush (v := 9) B dX11_counter_5 rfl ?_
    refine z_icmp_lt (tgt := 18) B dX11_counter_7 rfl (fun c_2 => ?_) (fun c_2 => ?_)
    · have e_2 : n_1 < 9 := (nI_ltI (a := n_1) (b := 9) (by omega) (by omega)).mp c_2
      refine z_aload_n B dX11_counter_18 rfl 0 rfl ?_
      have h_1 := in0 (k := 0) hI rfl
      have h_2 : Φ x = some (o_ 13 [.ref (x + 1), .ref (x + 3), .ref (x + 24), .ref (x + 46), .ref (x + 74), .ref (x + 80), .ref (x + 132), .ref (x + 121)]) := h_1
      refine z_get (ref := "FlowExporter") (C := RX11) (T := TX11) (N := 8) (ci := 13) (v := .ref (x + 132)) B (by decide +kernel) rfl 6 (by decide) (by decide +kernel) rfl h_2 rfl dX11_counter_19 ?_
      obtain ⟨n_2, v_1, v_2, h_3, b_1⟩ := in25 (k := 132) hI rfl
      have h_4 : Φ (x + 132) = some (o_ 2 [.ref (x + 3), .ref (x + 121), .ref (x + 133), .ref (x + 134), .ref (x + 135), .ref (x + 137), .ref (x + 138), .ref (x + 139), .ref (x + 140), .int (nI n_2), .int v_1, .int v_2]) := h_3
      refine z_get (ref := "FlowExporter$Collector") (C := RX0) (T := TX0) (N := 12) (ci := 2) (v := .ref (x + 139)) B (by decide +kernel) rfl 7 (by decide) (by decide +kernel) rfl h_4 rfl dX11_counter_22 ?_
      refine z_iload_n B dX11_counter_25 rfl 1 rfl ?_
      obtain ⟨f_1, h_5⟩ := in28 (k := 139) hI rfl
      have h_6 : Φ (x + 139) = some (al_ G 9 f_1) := h_5
      refine z_lald B h_6 (vp_in_nI (by omega) (by omega)) dX11_counter_26 ?_
      refine z_fl (fun v_3 => ?_)
      exact zb_ret (Nat.le_of_ble_eq_true rfl) (Nat.le_of_ble_eq_true rfl) (z_ret_l B dX11_counter_27 ⟨⟨_, rfl⟩, rfl, hI, (fun b9 h9 => rfl)⟩)
    · have e_3 : ¬ (n_1 < 9) := fun h9 => c_2 ((nI_ltI (a := n_1) (b := 9) (by omega) (by omega)).mpr h9)
      exact zb_throw (cls := xIA) (ik := 116) (ic := 118) B hl9 htab9 (by decide) ⟨hI, (fun b9 h9 => rfl)⟩ (by decide) (by decide +kernel) (by decide +kernel) (by decide +kernel) (by decide +kernel) (by decide +kernel) (by decide +kernel) (by decide +kernel) dX11_counter_10 dX11_counter_13 dX11_counter_14 dX11_counter_17 ⟨Nat.le_of_ble_eq_true rfl, Nat.le_of_ble_eq_true rfl, Nat.le_of_ble_eq_true rfl, Nat.le_of_ble_eq_true rfl⟩ ⟨Nat.le_of_ble_eq_true rfl, Nat.le_of_ble_eq_true rfl⟩

set_option maxHeartbeats 4000000 in
set_option maxRecDepth 100000 in
theorem s_X11_truth (G : EnvG) (l : Launch) (hl9 : l.stackTraces = false) (Φ : Hm) (sz x ca : Nat) (a : Int32) (b : Int32) (d : Int32) (f : Int32) (g : Int32) (hx : G.2.2.2 ≤ x) (hI : In G x ca Φ)  : CtB G l yX11_truth wsX11_truth ({ frames := 7, cells := 1, slots := 6, locals := 101 }) 1 6 [.ref x, .int a, .int b, .int d, .int f, .int g] Φ sz (fun v Φ1 sz1 => (∃ r9 : Int64, v = some (.long r9)) ∧ sz1 = sz ∧ In G x (ca) Φ1 ∧ Fr x (fun j9 => 2 ≤ j9 ∧ j9 < 149) Φ Φ1) (fun Φ1 => In G x ca Φ1 ∧ Fr x (fun j9 => False) Φ Φ1) [xIA] := by
  refine CtB.of (cc := cX11_truth) (maxL := 6) (ret := (some .long)) (by decide) rfl (Nat.le_of_ble_eq_true rfl) ?_
  intro p9 e9 s9 m9 w9 t9 k9 B htab9
  show Z p9 l e9 _ s9 m9 _ w9 t9 k9 _ G 6 0 [(0, .ref x), (1, .int a), (2, .int b), (3, .int d), (4, .int f), (5, .int g)] [] Φ sz 0 0
  refine z_iload B dX11_truth_0 5 rfl ?_
  refine zb_callS (As := [.int g]) (rest := []) B htab9 (s_X11_requireWhat G l hl9 Φ sz x (ca) g hx hI ) (va_cwS 1 B.1.2.2.2.2 gX11_truth_X11_requireWhat rfl rfl rfl (by decide +kernel) ⟨Nat.le_of_ble_eq_true rfl, Nat.le_of_ble_eq_true rfl⟩) rfl rfl (Nat.le_of_ble_eq_true rfl) dX11_truth_2 ⟨Nat.le_of_ble_eq_true rfl, Nat.le_of_ble_eq_true rfl⟩ ⟨Nat.le_of_ble_eq_true rfl, Nat.le_of_ble_eq_true rfl⟩ (by decide) (fun Φ9 h9 => ⟨h9.1, fun b9 h8 => ((h9.2 b9 h8).trans ((fun b9 h9 => rfl) b9 h8))⟩) (fun r_1 Φ1 sz1 st1 hp1 hs1 => ?_)
  obtain ⟨rfl, hq1, hI1, hF1⟩ := hp1
  subst sz1
  replace hs1 : st1 = [] := hs1
  subst st1
  replace hI1 : In G x (ca) Φ1 := hI1
  refine z_aload_n B dX11_truth_5 rfl 0 rfl ?_
  have h_1 := in0 (k := 0) hI1 rfl
  have h_2 : Φ1 x = some (o_ 13 [.ref (x + 1), .ref (x + 3), .ref (x + 24), .ref (x + 46), .ref (x + 74), .ref (x + 80), .ref (x + 132), .ref (x + 121)]) := h_1
  refine z_get (ref := "FlowExporter") (C := RX11) (T := TX11) (N := 8) (ci := 13) (v := .ref (x + 80)) B (by decide +kernel) rfl 5 (by decide) (by decide +kernel) rfl h_2 rfl dX11_truth_6 ?_
  refine z_iload_n B dX11_truth_9 rfl 1 rfl ?_
  refine z_iload_n B dX11_truth_10 rfl 2 rfl ?_
  refine z_iload_n B dX11_truth_11 rfl 3 rfl ?_
  refine z_iload B dX11_truth_12 4 rfl ?_
  refine z_callS (As := [.int a, .int b, .int d, .int f]) (rest := [.ref (x + 80)]) B (s_X3_keyOf G l Φ1 sz x (ca) a b d f hx hI1 ) (va_cwS 4 B.1.2.2.2.2 gX11_truth_X3_keyOf rfl rfl rfl (by decide +kernel) ⟨Nat.le_of_ble_eq_true rfl, Nat.le_of_ble_eq_true rfl⟩) rfl rfl (Nat.le_of_ble_eq_true rfl) dX11_truth_14 ⟨Nat.le_of_ble_eq_true rfl, Nat.le_of_ble_eq_true rfl⟩ (fun r_2 Φ2 sz2 st2 hp2 hs2 => ?_)
  obtain ⟨⟨v_1, rfl⟩, hq2, hI2, hF2⟩ := hp2
  subst sz2
  replace hs2 : st2 = [.long v_1, .ref (x + 80)] := hs2
  subst st2
  replace hI2 : In G x (ca) Φ2 := hI2
  refine z_iload B dX11_truth_17 5 rfl ?_
  obtain ⟨v_2, v_3, v_4, v_5, v_6, v_7, v_8, v_9, v_10, h_3, b_1⟩ := in16 (k := 80) hI2 rfl
  have h_4 : Φ2 (x + 80) = some (o_ 4 [.ref (x + 3), .ref (x + 74), .ref (x + 81), .ref (x + 95), .int v_2, .int v_3, .int v_4, .int v_5, .int v_6, .int v_7, .long v_8, .long v_9, .long v_10]) := h_3
  refine z_callV (As := [.long v_1, .int g]) (rest := []) B (s_X2_trueValue G l Φ2 sz x (ca) v_1 g hx hI2 ) (cwV 2 B.1.2.2.2.2 gX11_truth_X2_trueValue rfl rfl rfl (by decide +kernel) ⟨Nat.le_of_ble_eq_true rfl, Nat.le_of_ble_eq_true rfl⟩) h_4 rfl rfl rfl rfl (Nat.le_of_ble_eq_true rfl) dX11_truth_19 ⟨Nat.le_of_ble_eq_true rfl, Nat.le_of_ble_eq_true rfl⟩ (fun r_3 Φ3 sz3 st3 hp3 hs3 => ?_)
  obtain ⟨⟨v_11, rfl⟩, hq3, hI3, hF3⟩ := hp3
  subst sz3
  replace hs3 : st3 = [.long v_11] := hs3
  subst st3
  replace hI3 : In G x (ca) Φ3 := hI3
  exact zb_ret (Nat.le_of_ble_eq_true rfl) (Nat.le_of_ble_eq_true rfl) (z_ret_l B dX11_truth_22 ⟨⟨_, rfl⟩, rfl, hI3, (fun b9 h9 => ((hF3 b9 (fun j9 h8 h7 => (show False from h7).elim)).trans ((hF2 b9 (fun j9 h8 h7 => (show False from h7).elim)).trans ((hF1 b9 (fun j9 h8 h7 => (show False from h7).elim)).trans rfl))))⟩)

set_option maxHeartbeats 4000000 in
set_option maxRecDepth 100000 in
theorem s_X11_cached (G : EnvG) (l : Launch) (hl9 : l.stackTraces = false) (Φ : Hm) (sz x ca : Nat) (a : Int32) (b : Int32) (hx : G.2.2.2 ≤ x) (hI : In G x ca Φ)  : CtB G l yX11_cached wsX11_cached ({ frames := 6, cells := 1, slots := 6, locals := 81 }) 1 6 [.ref x, .int a, .int b] Φ sz (fun v Φ1 sz1 => (∃ r9 : Int64, v = some (.long r9)) ∧ sz1 = sz ∧ In G x (ca) Φ1 ∧ Fr x (fun j9 => 2 ≤ j9 ∧ j9 < 149) Φ Φ1) (fun Φ1 => In G x ca Φ1 ∧ Fr x (fun j9 => False) Φ Φ1) [xIO, xIA] := by
  refine CtB.of (cc := cX11_cached) (maxL := 3) (ret := (some .long)) (by decide) rfl (Nat.le_of_ble_eq_true rfl) ?_
  intro p9 e9 s9 m9 w9 t9 k9 B htab9
  show Z p9 l e9 _ s9 m9 _ w9 t9 k9 _ G 3 0 [(0, .ref x), (1, .int a), (2, .int b)] [] Φ sz 0 0
  refine z_iload_n B dX11_cached_0 rfl 1 rfl ?_
  refine z_if_lt (tgt := 18) B dX11_cached_1 rfl (fun c_1 => ?_) (fun c_1 => ?_)
  · exact zb_throw (cls := xIO) (ik := 153) (ic := 155) B hl9 htab9 (by decide) ⟨hI, (fun b9 h9 => rfl)⟩ (by decide) (by decide +kernel) (by decide +kernel) (by decide +kernel) (by decide +kernel) (by decide +kernel) (by decide +kernel) (by decide +kernel) dX11_cached_18 dX11_cached_21 dX11_cached_22 dX11_cached_25 ⟨Nat.le_of_ble_eq_true rfl, Nat.le_of_ble_eq_true rfl, Nat.le_of_ble_eq_true rfl, Nat.le_of_ble_eq_true rfl⟩ ⟨Nat.le_of_ble_eq_true rfl, Nat.le_of_ble_eq_true rfl⟩
  · obtain ⟨n_1, e_1, rfl⟩ := nI_of c_1
    refine z_iload_n B dX11_cached_4 rfl 1 rfl ?_
    refine z_aload_n B dX11_cached_5 rfl 0 rfl ?_
    have h_1 := in0 (k := 0) hI rfl
    have h_2 : Φ x = some (o_ 13 [.ref (x + 1), .ref (x + 3), .ref (x + 24), .ref (x + 46), .ref (x + 74), .ref (x + 80), .ref (x + 132), .ref (x + 121)]) := h_1
    refine z_get (ref := "FlowExporter") (C := RX11) (T := TX11) (N := 8) (ci := 13) (v := .ref (x + 80)) B (by decide +kernel) rfl 5 (by decide) (by decide +kernel) rfl h_2 rfl dX11_cached_6 ?_
    obtain ⟨v_1, v_2, v_3, v_4, v_5, v_6, v_7, v_8, v_9, h_3, b_1⟩ := in16 (k := 80) hI rfl
    have h_4 : Φ (x + 80) = some (o_ 4 [.ref (x + 3), .ref (x + 74), .ref (x + 81), .ref (x + 95), .int v_1, .int v_2, .int v_3, .int v_4, .int v_5, .int v_6, .long v_7, .long v_8, .long v_9]) := h_3
    refine z_get (ref := "FlowExporter$Exporter") (C := RX2) (T := TX2) (N := 13) (ci := 4) (v := .ref (x + 81)) B (by decide +kernel) rfl 2 (by decide) (by decide +kernel) rfl h_4 rfl dX11_cached_9 ?_
    obtain ⟨n_2, h_5, b_2⟩ := in17 (k := 81) hI rfl
    replace b_2 : n_2 ≤ 12 := b_2
    have h_6 : Φ (x + 81) = some (o_ 6 [.ref (x + 82), .int (nI n_2)]) := h_5
    refine z_get (ref := "FlowExporter$FlowTable") (C := RX4) (T := TX4) (N := 2) (ci := 6) (v := .int (nI n_2)) B (by decide +kernel) rfl 1 (by decide) (by decide +kernel) rfl h_6 rfl dX11_cached_12 ?_
    refine z_icmp_lt (tgt := 26) B dX11_cached_15 rfl (fun c_2 => ?_) (fun c_2 => ?_)
    · have e_2 : n_1 < n_2 := (nI_ltI (a := n_1) (b := n_2) (by omega) (by omega)).mp c_2
      refine z_iload_n B dX11_cached_26 rfl 2 rfl ?_
      refine z_if_lt (tgt := 36) B dX11_cached_27 rfl (fun c_3 => ?_) (fun c_3 => ?_)
      · exact zb_throw (cls := xIA) (ik := 116) (ic := 118) B hl9 htab9 (by decide) ⟨hI, (fun b9 h9 => rfl)⟩ (by decide) (by decide +kernel) (by decide +kernel) (by decide +kernel) (by decide +kernel) (by decide +kernel) (by decide +kernel) (by decide +kernel) dX11_cached_36 dX11_cached_39 dX11_cached_40 dX11_cached_43 ⟨Nat.le_of_ble_eq_true rfl, Nat.le_of_ble_eq_true rfl, Nat.le_of_ble_eq_true rfl, Nat.le_of_ble_eq_true rfl⟩ ⟨Nat.le_of_ble_eq_true rfl, Nat.le_of_ble_eq_true rfl⟩
      · obtain ⟨n_3, e_3, rfl⟩ := nI_of c_3
        refine z_iload_n B dX11_cached_30 rfl 2 rfl ?_
        refine z_bipush (v := 7) B dX11_cached_31 rfl ?_
        refine z_icmp_le (tgt := 44) B dX11_cached_33 rfl (fun c_4 => ?_) (fun c_4 => ?_)
        · have e_4 : n_3 ≤ 7 := (nI_leI (a := n_3) (b := 7) (by omega) (by omega)).mp c_4
          refine z_aload_n B dX11_cached_44 rfl 0 rfl ?_
          refine z_get (ref := "FlowExporter") (C := RX11) (T := TX11) (N := 8) (ci := 13) (v := .ref (x + 80)) B (by decide +kernel) rfl 5 (by decide) (by decide +kernel) rfl h_2 rfl dX11_cached_45 ?_
          refine z_get (ref := "FlowExporter$Exporter") (C := RX2) (T := TX2) (N := 13) (ci := 4) (v := .ref (x + 81)) B (by decide +kernel) rfl 2 (by decide) (by decide +kernel) rfl h_4 rfl dX11_cached_48 ?_
          refine z_iload_n B dX11_cached_51 rfl 1 rfl ?_
          refine z_callV (As := [.int (nI n_1)]) (rest := []) B (s_X4_flowAt G l Φ sz x (ca) 81 (nI n_1) hx hI rfl) (cwV 1 B.1.2.2.2.2 gX11_cached_X4_flowAt rfl rfl rfl (by decide +kernel) ⟨Nat.le_of_ble_eq_true rfl, Nat.le_of_ble_eq_true rfl⟩) h_6 rfl rfl rfl rfl (Nat.le_of_ble_eq_true rfl) dX11_cached_52 ⟨Nat.le_of_ble_eq_true rfl, Nat.le_of_ble_eq_true rfl⟩ (fun r_1 Φ1 sz1 st1 hp1 hs1 => ?_)
          obtain ⟨⟨m_1, hm_1, rfl⟩, hq1, hI1, hF1⟩ := hp1
          subst sz1
          replace hs1 : st1 = [.ref (x + (81 + 2 + m_1))] := hs1
          subst st1
          replace hI1 : In G x (ca) Φ1 := hI1
          replace hm_1 : m_1 < 12 := hm_1
          refine z_iload_n B dX11_cached_55 rfl 2 rfl ?_
          obtain ⟨v_10, v_11, v_12, v_13, v_14, h_7⟩ := in19 (k := 81 + 2 + m_1) hI1 (kd_f (kd_r rfl) hm_1)
          have h_8 : Φ1 (x + (81 + 2 + m_1)) = some (o_ 5 [.long v_10, .long v_11, .long v_12, .int v_13, .int v_14]) := h_7
          refine z_callV (As := [.int (nI n_3)]) (rest := []) B (s_X3_value G l Φ1 sz x (ca) (81 + 2 + m_1) (nI n_3) hx hI1 (kd_f (kd_r rfl) hm_1)) (cwV 1 B.1.2.2.2.2 gX11_cached_X3_value rfl rfl rfl (by decide +kernel) ⟨Nat.le_of_ble_eq_true rfl, Nat.le_of_ble_eq_true rfl⟩) h_8 rfl rfl rfl rfl (Nat.le_of_ble_eq_true rfl) dX11_cached_56 ⟨Nat.le_of_ble_eq_true rfl, Nat.le_of_ble_eq_true rfl⟩ (fun r_2 Φ2 sz2 st2 hp2 hs2 => ?_)
          obtain ⟨⟨v_15, rfl⟩, hq2, hI2, hF2⟩ := hp2
          subst sz2
          replace hs2 : st2 = [.long v_15] := hs2
          subst st2
          replace hI2 : In G x (ca) Φ2 := hI2
          exact zb_ret (Nat.le_of_ble_eq_true rfl) (Nat.le_of_ble_eq_true rfl) (z_ret_l B dX11_cached_59 ⟨⟨_, rfl⟩, rfl, hI2, (fun b9 h9 => ((hF2 b9 (fun j9 h8 h7 => (show False from h7).elim)).trans ((hF1 b9 (fun j9 h8 h7 => (show False from h7).elim)).trans rfl)))⟩)
        · have e_5 : ¬ (n_3 ≤ 7) := fun h9 => c_4 ((nI_leI (a := n_3) (b := 7) (by omega) (by omega)).mpr h9)
          exact zb_throw (cls := xIA) (ik := 116) (ic := 118) B hl9 htab9 (by decide) ⟨hI, (fun b9 h9 => rfl)⟩ (by decide) (by decide +kernel) (by decide +kernel) (by decide +kernel) (by decide +kernel) (by decide +kernel) (by decide +kernel) (by decide +kernel) dX11_cached_36 dX11_cached_39 dX11_cached_40 dX11_cached_43 ⟨Nat.le_of_ble_eq_true rfl, Nat.le_of_ble_eq_true rfl, Nat.le_of_ble_eq_true rfl, Nat.le_of_ble_eq_true rfl⟩ ⟨Nat.le_of_ble_eq_true rfl, Nat.le_of_ble_eq_true rfl⟩
    · have e_6 : ¬ (n_1 < n_2) := fun h9 => c_2 ((nI_ltI (a := n_1) (b := n_2) (by omega) (by omega)).mpr h9)
      exact zb_throw (cls := xIO) (ik := 153) (ic := 155) B hl9 htab9 (by decide) ⟨hI, (fun b9 h9 => rfl)⟩ (by decide) (by decide +kernel) (by decide +kernel) (by decide +kernel) (by decide +kernel) (by decide +kernel) (by decide +kernel) (by decide +kernel) dX11_cached_18 dX11_cached_21 dX11_cached_22 dX11_cached_25 ⟨Nat.le_of_ble_eq_true rfl, Nat.le_of_ble_eq_true rfl, Nat.le_of_ble_eq_true rfl, Nat.le_of_ble_eq_true rfl⟩ ⟨Nat.le_of_ble_eq_true rfl, Nat.le_of_ble_eq_true rfl⟩

set_option maxHeartbeats 4000000 in
set_option maxRecDepth 100000 in
theorem s_X11_setSupport (G : EnvG) (l : Launch) (hl9 : l.stackTraces = false) (Φ : Hm) (sz x ca : Nat) (a : Int32) (b : Int32) (hx : G.2.2.2 ≤ x) (hI : In G x ca Φ) (hb : b = 0 ∨ b = 1) : CtB G l yX11_setSupport wsX11_setSupport ({ frames := 6, cells := 1, slots := 6, locals := 81 }) 1 6 [.ref x, .int a, .int b] Φ sz (fun v Φ1 sz1 => (∃ r9 : Int32, v = some (.int r9) ∧ (r9 = 0 ∨ r9 = 1)) ∧ sz1 = sz ∧ In G x (ca) Φ1 ∧ Fr x (fun j9 => 2 ≤ j9 ∧ j9 < 149) Φ Φ1) (fun Φ1 => In G x ca Φ1 ∧ Fr x (fun j9 => False) Φ Φ1) [xIA] := by
  refine CtB.of (cc := cX11_setSupport) (maxL := 4) (ret := (some .boolean)) (by decide) rfl (Nat.le_of_ble_eq_true rfl) ?_
  intro p9 e9 s9 m9 w9 t9 k9 B htab9
  show Z p9 l e9 _ s9 m9 _ w9 t9 k9 _ G 4 0 [(0, .ref x), (1, .int a), (2, .int b)] [] Φ sz 0 0
  refine z_iload_n B dX11_setSupport_0 rfl 1 rfl ?_
  refine z_if_lt (tgt := 10) B dX11_setSupport_1 rfl (fun c_1 => ?_) (fun c_1 => ?_)
  · exact zb_throw (cls := xIA) (ik := 116) (ic := 118) B hl9 htab9 (by decide) ⟨hI, (fun b9 h9 => rfl)⟩ (by decide) (by decide +kernel) (by decide +kernel) (by decide +kernel) (by decide +kernel) (by decide +kernel) (by decide +kernel) (by decide +kernel) dX11_setSupport_10 dX11_setSupport_13 dX11_setSupport_14 dX11_setSupport_17 ⟨Nat.le_of_ble_eq_true rfl, Nat.le_of_ble_eq_true rfl, Nat.le_of_ble_eq_true rfl, Nat.le_of_ble_eq_true rfl⟩ ⟨Nat.le_of_ble_eq_true rfl, Nat.le_of_ble_eq_true rfl⟩
  · obtain ⟨n_1, e_1, rfl⟩ := nI_of c_1
    refine z_iload_n B dX11_setSupport_4 rfl 1 rfl ?_
    refine z_bipush (v := 9) B dX11_setSupport_5 rfl ?_
    refine z_icmp_lt (tgt := 18) B dX11_setSupport_7 rfl (fun c_2 => ?_) (fun c_2 => ?_)
    · have e_2 : n_1 < 9 := (nI_ltI (a := n_1) (b := 9) (by omega) (by omega)).mp c_2
      refine z_aload_n B dX11_setSupport_18 rfl 0 rfl ?_
      have h_1 := in0 (k := 0) hI rfl
      have h_2 : Φ x = some (o_ 13 [.ref (x + 1), .ref (x + 3), .ref (x + 24), .ref (x + 46), .ref (x + 74), .ref (x + 80), .ref (x + 132), .ref (x + 121)]) := h_1
      refine z_get (ref := "FlowExporter") (C := RX11) (T := TX11) (N := 8) (ci := 13) (v := .ref (x + 3)) B (by decide +kernel) rfl 1 (by decide) (by decide +kernel) rfl h_2 rfl dX11_setSupport_19 ?_
      obtain ⟨v_1, v_2, h_3⟩ := in3 (k := 3) hI rfl
      have h_4 : Φ (x + 3) = some (o_ 3 [.ref (x + 4), .ref (x + 5), .ref (x + 6), .ref (x + 7), .int v_1, .int v_2]) := h_3
      refine z_get (ref := "FlowExporter$Config") (C := RX1) (T := TX1) (N := 6) (ci := 3) (v := .int v_2) B (by decide +kernel) rfl 5 (by decide) (by decide +kernel) rfl h_4 rfl dX11_setSupport_22 ?_
      refine z_iload_n B dX11_setSupport_25 rfl 1 rfl ?_
      refine z_ishr B dX11_setSupport_26 ?_
      refine z_fi (fun v_3 => ?_)
      refine z_iconst (v := 1) B dX11_setSupport_27 rfl ?_
      refine z_iand B dX11_setSupport_28 ?_
      refine z_fi (fun v_4 => ?_)
      refine z_iconst (v := 1) B dX11_setSupport_29 rfl ?_
      refine z_icmp_ne (tgt := 37) B dX11_setSupport_30 rfl (fun c_3 => ?_) (fun c_3 => ?_)
      · refine z_iconst (v := 0) B dX11_setSupport_37 rfl ?_
        refine z_istore_n (lv' := [(3, .int 0), (0, .ref x), (1, .int (nI n_1)), (2, .int b)]) B dX11_setSupport_38 rfl (Nat.le_of_ble_eq_true rfl) rfl ?_
        refine z_iload_n B dX11_setSupport_39 rfl 0 rfl ?_
        refine z_iload_n B dX11_setSupport_40 rfl 3 rfl ?_
        refine z_icmp_eq (tgt := 70) B dX11_setSupport_41 rfl (fun c_4 => ?_) (fun c_4 => ?_)
        · refine z_iload_n B dX11_setSupport_70 rfl 0 rfl ?_
          exact zb_ret (Nat.le_of_ble_eq_true rfl) (Nat.le_of_ble_eq_true rfl) (z_ret_z B dX11_setSupport_71 (by decide) ⟨⟨_, rfl, by decide⟩, rfl, hI, (fun b9 h9 => rfl)⟩)
        · refine z_aload_n B dX11_setSupport_44 rfl 1 rfl ?_
          refine z_get (ref := "FlowExporter") (C := RX11) (T := TX11) (N := 8) (ci := 13) (v := .ref (x + 3)) B (by decide +kernel) rfl 1 (by decide) (by decide +kernel) rfl h_2 rfl dX11_setSupport_45 ?_
          refine z_aload_n B dX11_setSupport_48 rfl 1 rfl ?_
          refine z_get (ref := "FlowExporter") (C := RX11) (T := TX11) (N := 8) (ci := 13) (v := .ref (x + 3)) B (by decide +kernel) rfl 1 (by decide) (by decide +kernel) rfl h_2 rfl dX11_setSupport_49 ?_
          refine z_get (ref := "FlowExporter$Config") (C := RX1) (T := TX1) (N := 6) (ci := 3) (v := .int v_2) B (by decide +kernel) rfl 5 (by decide) (by decide +kernel) rfl h_4 rfl dX11_setSupport_52 ?_
          refine z_iconst (v := 1) B dX11_setSupport_55 rfl ?_
          refine z_iload_n B dX11_setSupport_56 rfl 2 rfl ?_
          refine z_ishl B dX11_setSupport_57 ?_
          refine z_fi (fun v_5 => ?_)
          refine z_ixor B dX11_setSupport_58 ?_
          refine z_fi (fun v_6 => ?_)
          refine z_callV (As := [.int v_6]) (rest := []) B (s_X1_support G l Φ sz x (ca) 3 v_6 hx hI rfl) (cwV 1 B.1.2.2.2.2 gX11_setSupport_X1_support rfl rfl rfl (by decide +kernel) ⟨Nat.le_of_ble_eq_true rfl, Nat.le_of_ble_eq_true rfl⟩) h_4 rfl rfl rfl rfl (Nat.le_of_ble_eq_true rfl) dX11_setSupport_59 ⟨Nat.le_of_ble_eq_true rfl, Nat.le_of_ble_eq_true rfl⟩ (fun r_1 Φ1 sz1 st1 hp1 hs1 => ?_)
          obtain ⟨rfl, hq1, hI1, hF1⟩ := hp1
          subst sz1
          replace hs1 : st1 = [] := hs1
          subst st1
          replace hI1 : In G x (ca) Φ1 := hI1
          refine z_aload_n B dX11_setSupport_62 rfl 1 rfl ?_
          have h_5 : Φ1 x = some (o_ 13 [.ref (x + 1), .ref (x + 3), .ref (x + 24), .ref (x + 46), .ref (x + 74), .ref (x + 80), .ref (x + 132), .ref (x + 121)]) := ((hF1 x (fun j9 h8 h7 => by have h6 : 3 ≤ j9 ∧ j9 < 3 + 21 := h7; omega)).trans h_2)
          refine z_get (ref := "FlowExporter") (C := RX11) (T := TX11) (N := 8) (ci := 13) (v := .ref (x + 74)) B (by decide +kernel) rfl 4 (by decide) (by decide +kernel) rfl h_5 rfl dX11_setSupport_63 ?_
          refine z_iload_n B dX11_setSupport_66 rfl 2 rfl ?_
          obtain ⟨n_2, v_7, v_8, v_9, h_6, b_1⟩ := in13 (k := 74) hI1 rfl
          have h_7 : Φ1 (x + 74) = some (o_ 10 [.ref (x + 3), .ref (x + 46), .ref (x + 75), .ref (x + 77), .int (nI n_2), .ref (x + 78), .ref (x + 79), .int v_7, .long v_8, .int v_9]) := h_6
          refine z_callV (As := [.int (nI n_1)]) (rest := []) B (s_X8_forgetTemplatesWith G l Φ1 sz x (ca) (nI n_1) hx hI1 ) (cwV 1 B.1.2.2.2.2 gX11_setSupport_X8_forgetTemplatesWith rfl rfl rfl (by decide +kernel) ⟨Nat.le_of_ble_eq_true rfl, Nat.le_of_ble_eq_true rfl⟩) h_7 rfl rfl rfl rfl (Nat.le_of_ble_eq_true rfl) dX11_setSupport_67 ⟨Nat.le_of_ble_eq_true rfl, Nat.le_of_ble_eq_true rfl⟩ (fun r_2 Φ2 sz2 st2 hp2 hs2 => ?_)
          obtain ⟨rfl, hq2, hI2, hF2⟩ := hp2
          subst sz2
          replace hs2 : st2 = [] := hs2
          subst st2
          replace hI2 : In G x (ca) Φ2 := hI2
          refine z_iload_n B dX11_setSupport_70 rfl 0 rfl ?_
          exact zb_ret (Nat.le_of_ble_eq_true rfl) (Nat.le_of_ble_eq_true rfl) (z_ret_z B dX11_setSupport_71 (by decide) ⟨⟨_, rfl, by decide⟩, rfl, hI2, (fun b9 h9 => ((hF2 b9 (fun j9 h8 h7 => h9 j9 h8 (show 2 ≤ j9 ∧ j9 < 149 by have h6 : j9 = 78 := h7; omega))).trans ((hF1 b9 (fun j9 h8 h7 => h9 j9 h8 (show 2 ≤ j9 ∧ j9 < 149 by have h6 : 3 ≤ j9 ∧ j9 < 3 + 21 := h7; omega))).trans rfl)))⟩)
      · refine z_iconst (v := 1) B dX11_setSupport_33 rfl ?_
        refine z_goto (tgt := 38) B dX11_setSupport_34 rfl ?_
        refine z_istore_n (lv' := [(3, .int 1), (0, .ref x), (1, .int (nI n_1)), (2, .int b)]) B dX11_setSupport_38 rfl (Nat.le_of_ble_eq_true rfl) rfl ?_
        refine z_iload_n B dX11_setSupport_39 rfl 0 rfl ?_
        refine z_iload_n B dX11_setSupport_40 rfl 3 rfl ?_
        refine z_icmp_eq (tgt := 70) B dX11_setSupport_41 rfl (fun c_5 => ?_) (fun c_5 => ?_)
        · refine z_iload_n B dX11_setSupport_70 rfl 0 rfl ?_
          exact zb_ret (Nat.le_of_ble_eq_true rfl) (Nat.le_of_ble_eq_true rfl) (z_ret_z B dX11_setSupport_71 (by decide) ⟨⟨_, rfl, by decide⟩, rfl, hI, (fun b9 h9 => rfl)⟩)
        · refine z_aload_n B dX11_setSupport_44 rfl 1 rfl ?_
          refine z_get (ref := "FlowExporter") (C := RX11) (T := TX11) (N := 8) (ci := 13) (v := .ref (x + 3)) B (by decide +kernel) rfl 1 (by decide) (by decide +kernel) rfl h_2 rfl dX11_setSupport_45 ?_
          refine z_aload_n B dX11_setSupport_48 rfl 1 rfl ?_
          refine z_get (ref := "FlowExporter") (C := RX11) (T := TX11) (N := 8) (ci := 13) (v := .ref (x + 3)) B (by decide +kernel) rfl 1 (by decide) (by decide +kernel) rfl h_2 rfl dX11_setSupport_49 ?_
          refine z_get (ref := "FlowExporter$Config") (C := RX1) (T := TX1) (N := 6) (ci := 3) (v := .int v_2) B (by decide +kernel) rfl 5 (by decide) (by decide +kernel) rfl h_4 rfl dX11_setSupport_52 ?_
          refine z_iconst (v := 1) B dX11_setSupport_55 rfl ?_
          refine z_iload_n B dX11_setSupport_56 rfl 2 rfl ?_
          refine z_ishl B dX11_setSupport_57 ?_
          refine z_fi (fun v_10 => ?_)
          refine z_ixor B dX11_setSupport_58 ?_
          refine z_fi (fun v_11 => ?_)
          refine z_callV (As := [.int v_11]) (rest := []) B (s_X1_support G l Φ sz x (ca) 3 v_11 hx hI rfl) (cwV 1 B.1.2.2.2.2 gX11_setSupport_X1_support rfl rfl rfl (by decide +kernel) ⟨Nat.le_of_ble_eq_true rfl, Nat.le_of_ble_eq_true rfl⟩) h_4 rfl rfl rfl rfl (Nat.le_of_ble_eq_true rfl) dX11_setSupport_59 ⟨Nat.le_of_ble_eq_true rfl, Nat.le_of_ble_eq_true rfl⟩ (fun r_3 Φ3 sz3 st3 hp3 hs3 => ?_)
          obtain ⟨rfl, hq3, hI3, hF3⟩ := hp3
          subst sz3
          replace hs3 : st3 = [] := hs3
          subst st3
          replace hI3 : In G x (ca) Φ3 := hI3
          refine z_aload_n B dX11_setSupport_62 rfl 1 rfl ?_
          have h_8 : Φ3 x = some (o_ 13 [.ref (x + 1), .ref (x + 3), .ref (x + 24), .ref (x + 46), .ref (x + 74), .ref (x + 80), .ref (x + 132), .ref (x + 121)]) := ((hF3 x (fun j9 h8 h7 => by have h6 : 3 ≤ j9 ∧ j9 < 3 + 21 := h7; omega)).trans h_2)
          refine z_get (ref := "FlowExporter") (C := RX11) (T := TX11) (N := 8) (ci := 13) (v := .ref (x + 74)) B (by decide +kernel) rfl 4 (by decide) (by decide +kernel) rfl h_8 rfl dX11_setSupport_63 ?_
          refine z_iload_n B dX11_setSupport_66 rfl 2 rfl ?_
          obtain ⟨n_3, v_12, v_13, v_14, h_9, b_2⟩ := in13 (k := 74) hI3 rfl
          have h_10 : Φ3 (x + 74) = some (o_ 10 [.ref (x + 3), .ref (x + 46), .ref (x + 75), .ref (x + 77), .int (nI n_3), .ref (x + 78), .ref (x + 79), .int v_12, .long v_13, .int v_14]) := h_9
          refine z_callV (As := [.int (nI n_1)]) (rest := []) B (s_X8_forgetTemplatesWith G l Φ3 sz x (ca) (nI n_1) hx hI3 ) (cwV 1 B.1.2.2.2.2 gX11_setSupport_X8_forgetTemplatesWith rfl rfl rfl (by decide +kernel) ⟨Nat.le_of_ble_eq_true rfl, Nat.le_of_ble_eq_true rfl⟩) h_10 rfl rfl rfl rfl (Nat.le_of_ble_eq_true rfl) dX11_setSupport_67 ⟨Nat.le_of_ble_eq_true rfl, Nat.le_of_ble_eq_true rfl⟩ (fun r_4 Φ4 sz4 st4 hp4 hs4 => ?_)
          obtain ⟨rfl, hq4, hI4, hF4⟩ := hp4
          subst sz4
          replace hs4 : st4 = [] := hs4
          subst st4
          replace hI4 : In G x (ca) Φ4 := hI4
          refine z_iload_n B dX11_setSupport_70 rfl 0 rfl ?_
          exact zb_ret (Nat.le_of_ble_eq_true rfl) (Nat.le_of_ble_eq_true rfl) (z_ret_z B dX11_setSupport_71 (by decide) ⟨⟨_, rfl, by decide⟩, rfl, hI4, (fun b9 h9 => ((hF4 b9 (fun j9 h8 h7 => h9 j9 h8 (show 2 ≤ j9 ∧ j9 < 149 by have h6 : j9 = 78 := h7; omega))).trans ((hF3 b9 (fun j9 h8 h7 => h9 j9 h8 (show 2 ≤ j9 ∧ j9 < 149 by have h6 : 3 ≤ j9 ∧ j9 < 3 + 21 := h7; omega))).trans rfl)))⟩)
    · have e_3 : ¬ (n_1 < 9) := fun h9 => c_2 ((nI_ltI (a := n_1) (b := 9) (by omega) (by omega)).mpr h9)
      exact zb_throw (cls := xIA) (ik := 116) (ic := 118) B hl9 htab9 (by decide) ⟨hI, (fun b9 h9 => rfl)⟩ (by decide) (by decide +kernel) (by decide +kernel) (by decide +kernel) (by decide +kernel) (by decide +kernel) (by decide +kernel) (by decide +kernel) dX11_setSupport_10 dX11_setSupport_13 dX11_setSupport_14 dX11_setSupport_17 ⟨Nat.le_of_ble_eq_true rfl, Nat.le_of_ble_eq_true rfl, Nat.le_of_ble_eq_true rfl, Nat.le_of_ble_eq_true rfl⟩ ⟨Nat.le_of_ble_eq_true rfl, Nat.le_of_ble_eq_true rfl⟩

set_option maxHeartbeats 4000000 in
set_option maxRecDepth 100000 in
theorem s_X11_cachedXa (G : EnvG) (l : Launch) (hl9 : l.stackTraces = false) (Φ : Hm) (sz x ca : Nat) (n : Nat) (Fs : Nat → Fl) (pp : Nat → Nat) (a : Int32) (b : Int32) (hx : G.2.2.2 ≤ x) (hI : In G x ca Φ) (hc0 : Φ (x + 81) = some (o_ 6 [.ref (x + 82), .int (nI n)])) (hcf0 : TbC G x n 99 Fs pp Φ) (hn : n ≤ 12) (hyA : Ca1 n a) : CtB G l yX11_cached wsX11_cached ({ frames := 6, cells := 1, slots := 6, locals := 81 }) 1 6 [.ref x, .int a, .int b] Φ sz (fun v Φ1 sz1 => (v = some (.long (vlL (Fs a.toNatClampNeg) b.toNatClampNeg)) ∧ Ca2 b) ∧ sz1 = sz ∧ In G x (ca) Φ1 ∧ Fr x (fun j9 => False) Φ Φ1) (fun Φ1 => (¬ Ca2 b) ∧ In G x ca Φ1 ∧ Fr x (fun j9 => False) Φ Φ1) [xIA] := by
  refine CtB.of (cc := cX11_cached) (maxL := 3) (ret := (some .long)) (by decide) rfl (Nat.le_of_ble_eq_true rfl) ?_
  intro p9 e9 s9 m9 w9 t9 k9 B htab9
  show Z p9 l e9 _ s9 m9 _ w9 t9 k9 _ G 3 0 [(0, .ref x), (1, .int a), (2, .int b)] [] Φ sz 0 0
  refine z_iload_n B dX11_cached_0 rfl 1 rfl ?_
  refine z_if_lt (tgt := 18) B dX11_cached_1 rfl (fun c_1 => ?_) (fun c_1 => ?_)
  · have k_1 : (0 : Int32).toInt = 0 := by decide
    have q_1 : (a.toInt < (0 : Int32).toInt) := Int32.lt_iff_toInt_lt.mp c_1
    unfold Ca1 at hyA
    exact ((show False by omega).elim)
  · obtain ⟨n_1, e_1, rfl⟩ := nI_of c_1
    refine z_iload_n B dX11_cached_4 rfl 1 rfl ?_
    refine z_aload_n B dX11_cached_5 rfl 0 rfl ?_
    have h_1 := in0 (k := 0) hI rfl
    have h_2 : Φ x = some (o_ 13 [.ref (x + 1), .ref (x + 3), .ref (x + 24), .ref (x + 46), .ref (x + 74), .ref (x + 80), .ref (x + 132), .ref (x + 121)]) := h_1
    refine z_get (ref := "FlowExporter") (C := RX11) (T := TX11) (N := 8) (ci := 13) (v := .ref (x + 80)) B hu_X11_cached_X11 rfl 5 (Nat.le_of_ble_eq_true rfl) hv_X11_cached_55 rfl h_2 rfl dX11_cached_6 ?_
    obtain ⟨v_1, v_2, v_3, v_4, v_5, v_6, v_7, v_8, v_9, h_3, b_1⟩ := in16 (k := 80) hI rfl
    have h_4 : Φ (x + 80) = some (o_ 4 [.ref (x + 3), .ref (x + 74), .ref (x + 81), .ref (x + 95), .int v_1, .int v_2, .int v_3, .int v_4, .int v_5, .int v_6, .long v_7, .long v_8, .long v_9]) := h_3
    refine z_get (ref := "FlowExporter$Exporter") (C := RX2) (T := TX2) (N := 13) (ci := 4) (v := .ref (x + 81)) B hu_X11_cached_X2 rfl 2 (Nat.le_of_ble_eq_true rfl) hv_X11_cached_146 rfl h_4 rfl dX11_cached_9 ?_
    refine z_get (ref := "FlowExporter$FlowTable") (C := RX4) (T := TX4) (N := 2) (ci := 6) (v := .int (nI n)) B hu_X11_cached_X4 rfl 1 (Nat.le_of_ble_eq_true rfl) hv_X11_cached_150 rfl hc0 rfl dX11_cached_12 ?_
    refine z_icmp_lt (tgt := 26) B dX11_cached_15 rfl (fun c_2 => ?_) (fun c_2 => ?_)
    · have e_2 : n_1 < n := (nI_ltI (a := n_1) (b := n) (by omega) (by omega)).mp c_2
      refine z_iload_n B dX11_cached_26 rfl 2 rfl ?_
      refine z_if_lt (tgt := 36) B dX11_cached_27 rfl (fun c_3 => ?_) (fun c_3 => ?_)
      · have k_2 : (nI n_1).toInt = ((n_1 : Nat) : Int) := nI_toInt (by omega)
        have k_3 : (0 : Int32).toInt = 0 := by decide
        have q_2 : ¬ ((nI n_1).toInt < (0 : Int32).toInt) := fun h9 => c_1 (Int32.lt_iff_toInt_lt.mpr h9)
        have k_4 : (nI n).toInt = ((n : Nat) : Int) := nI_toInt (by omega)
        have q_3 : ((nI n_1).toInt < (nI n).toInt) := Int32.lt_iff_toInt_lt.mp c_2
        have q_4 : (b.toInt < (0 : Int32).toInt) := Int32.lt_iff_toInt_lt.mp c_3
        exact zb_throw (cls := xIA) (ik := 116) (ic := 118) B hl9 htab9 (by decide) ⟨(fun h9 => by unfold Ca2 at h9; omega), hI, (fun b9 h9 => rfl)⟩ (by decide) (by decide +kernel) (by decide +kernel) (by decide +kernel) (by decide +kernel) (by decide +kernel) (by decide +kernel) (by decide +kernel) dX11_cached_36 dX11_cached_39 dX11_cached_40 dX11_cached_43 ⟨Nat.le_of_ble_eq_true rfl, Nat.le_of_ble_eq_true rfl, Nat.le_of_ble_eq_true rfl, Nat.le_of_ble_eq_true rfl⟩ ⟨Nat.le_of_ble_eq_true rfl, Nat.le_of_ble_eq_true rfl⟩
      · obtain ⟨n_2, e_3, rfl⟩ := nI_of c_3
        refine z_iload_n B dX11_cached_30 rfl 2 rfl ?_
        refine z_bipush (v := 7) B dX11_cached_31 rfl ?_
        refine z_icmp_le (tgt := 44) B dX11_cached_33 rfl (fun c_4 => ?_) (fun c_4 => ?_)
        · have e_4 : n_2 ≤ 7 := (nI_leI (a := n_2) (b := 7) (by omega) (by omega)).mp c_4
          by_cases e_5 : n_2 = 0
          · subst e_5
            refine z_aload_n B dX11_cached_44 rfl 0 rfl ?_
            refine z_get (ref := "FlowExporter") (C := RX11) (T := TX11) (N := 8) (ci := 13) (v := .ref (x + 80)) B hu_X11_cached_X11 rfl 5 (Nat.le_of_ble_eq_true rfl) hv_X11_cached_55 rfl h_2 rfl dX11_cached_45 ?_
            refine z_get (ref := "FlowExporter$Exporter") (C := RX2) (T := TX2) (N := 13) (ci := 4) (v := .ref (x + 81)) B hu_X11_cached_X2 rfl 2 (Nat.le_of_ble_eq_true rfl) hv_X11_cached_146 rfl h_4 rfl dX11_cached_48 ?_
            refine z_iload_n B dX11_cached_51 rfl 1 rfl ?_
            have e_6 := TbR.fl hcf0 (show n_1 < n by omega) (show ¬ n_1 = 99 by omega)
            have b_2 : (Fs n_1).1 < 2 ^ 40 ∧ (Fs n_1).2.2.2.1 ≤ 1000000 ∧ (Fs n_1).2.2.2.2 ≤ 1000000 := e_6.1
            have h_5 : Φ (x + (83 + pp n_1)) = some (o_ 5 [.long (Int64.ofNat (Fs n_1).1), .long ((Fs n_1).2.1), .long ((Fs n_1).2.2.1), .int (nI ((Fs n_1).2.2.2.1)), .int (nI ((Fs n_1).2.2.2.2))]) := e_6.2
            refine z_callV (As := [.int (nI n_1)]) (rest := []) B (s_X4_flowAt_81 G l Φ sz x (ca) n 99 Fs pp n_1 hx hI hc0 hcf0 (show n_1 < 12 by omega)) (cwV 1 B.1.2.2.2.2 gX11_cached_X4_flowAt rfl rfl rfl (by decide +kernel) ⟨Nat.le_of_ble_eq_true rfl, Nat.le_of_ble_eq_true rfl⟩) hc0 rfl rfl rfl rfl (Nat.le_of_ble_eq_true rfl) dX11_cached_52 ⟨Nat.le_of_ble_eq_true rfl, Nat.le_of_ble_eq_true rfl⟩ (fun r_1 Φ1 sz1 st1 hp1 hs1 => ?_)
            obtain ⟨rfl, hq1, hI1, hF1⟩ := hp1
            subst sz1
            replace hs1 : st1 = [.ref (x + (83 + pp n_1))] := hs1
            subst st1
            replace hI1 : In G x (ca) Φ1 := hI1
            refine z_iload_n B dX11_cached_55 rfl 2 rfl ?_
            have h_6 : Φ1 (x + (83 + pp n_1)) = some (o_ 5 [.long (Int64.ofNat (Fs n_1).1), .long ((Fs n_1).2.1), .long ((Fs n_1).2.2.1), .int (nI ((Fs n_1).2.2.2.1)), .int (nI ((Fs n_1).2.2.2.2))]) := ((hF1 (x + (83 + pp n_1)) (fun j9 h8 h7 => (show False from h7).elim)).trans h_5)
            refine z_callV (As := [.int 0]) (rest := []) B (s_X3_value0X G l Φ1 sz x (ca) ((Fs n_1).1) ((Fs n_1).2.1) ((Fs n_1).2.2.1) ((Fs n_1).2.2.2.1) ((Fs n_1).2.2.2.2) (83 + pp n_1) hx hI1 (kd_f (k := 82) rfl (show pp n_1 < 12 from TbR.lt hcf0 (by omega))) h_6 (show ((Fs n_1).1) < 2 ^ 40 by omega)) (cwV 1 B.1.2.2.2.2 gX11_cached_X3_value rfl rfl rfl (by decide +kernel) ⟨Nat.le_of_ble_eq_true rfl, Nat.le_of_ble_eq_true rfl⟩) h_6 rfl rfl rfl rfl (Nat.le_of_ble_eq_true rfl) dX11_cached_56 ⟨Nat.le_of_ble_eq_true rfl, Nat.le_of_ble_eq_true rfl⟩ (fun r_2 Φ2 sz2 st2 hp2 hs2 => ?_)
            obtain ⟨rfl, hq2, hI2, hF2⟩ := hp2
            subst sz2
            replace hs2 : st2 = [.long ((nI (((Fs n_1).1) / 2 ^ 32 % 2 ^ 8)).toInt64)] := hs2
            subst st2
            replace hI2 : In G x (ca) Φ2 := hI2
            have k_5 : (nI n_1).toInt = ((n_1 : Nat) : Int) := nI_toInt (by omega)
            have k_6 : (0 : Int32).toInt = 0 := by decide
            have q_5 : ¬ ((nI n_1).toInt < (0 : Int32).toInt) := fun h9 => c_1 (Int32.lt_iff_toInt_lt.mpr h9)
            have k_7 : (nI n).toInt = ((n : Nat) : Int) := nI_toInt (by omega)
            have q_6 : ((nI n_1).toInt < (nI n).toInt) := Int32.lt_iff_toInt_lt.mp c_2
            have k_8 : (nI 0).toInt = ((0 : Nat) : Int) := nI_toInt (by omega)
            have q_7 : ¬ ((nI 0).toInt < (0 : Int32).toInt) := fun h9 => c_3 (Int32.lt_iff_toInt_lt.mpr h9)
            have k_9 : (7 : Int32).toInt = 7 := by decide
            have q_8 : ((nI 0).toInt ≤ (7 : Int32).toInt) := Int32.le_iff_toInt_le.mp c_4
            have hj9 : (nI n_1).toNatClampNeg = n_1 := nI_clamp (by omega)
            have hk9 : (nI 0).toNatClampNeg = 0 := nI_clamp (by decide)
            have hk7 : (nI 0).toInt = (0 : Nat) := nI_toInt (by decide)
            exact zb_ret (Nat.le_of_ble_eq_true rfl) (Nat.le_of_ble_eq_true rfl) (z_ret_l B dX11_cached_59 ⟨⟨by rw [hj9, hk9]; rfl, by unfold Ca2; omega⟩, rfl, hI2, (fun b9 h9 => ((hF2 b9 (fun j9 h8 h7 => (show False from h7).elim)).trans ((hF1 b9 (fun j9 h8 h7 => (show False from h7).elim)).trans rfl)))⟩)
          by_cases e_7 : n_2 = 1
          · subst e_7
            refine z_aload_n B dX11_cached_44 rfl 0 rfl ?_
            refine z_get (ref := "FlowExporter") (C := RX11) (T := TX11) (N := 8) (ci := 13) (v := .ref (x + 80)) B hu_X11_cached_X11 rfl 5 (Nat.le_of_ble_eq_true rfl) hv_X11_cached_55 rfl h_2 rfl dX11_cached_45 ?_
            refine z_get (ref := "FlowExporter$Exporter") (C := RX2) (T := TX2) (N := 13) (ci := 4) (v := .ref (x + 81)) B hu_X11_cached_X2 rfl 2 (Nat.le_of_ble_eq_true rfl) hv_X11_cached_146 rfl h_4 rfl dX11_cached_48 ?_
            refine z_iload_n B dX11_cached_51 rfl 1 rfl ?_
            have e_8 := TbR.fl hcf0 (show n_1 < n by omega) (show ¬ n_1 = 99 by omega)
            have b_3 : (Fs n_1).1 < 2 ^ 40 ∧ (Fs n_1).2.2.2.1 ≤ 1000000 ∧ (Fs n_1).2.2.2.2 ≤ 1000000 := e_8.1
            have h_7 : Φ (x + (83 + pp n_1)) = some (o_ 5 [.long (Int64.ofNat (Fs n_1).1), .long ((Fs n_1).2.1), .long ((Fs n_1).2.2.1), .int (nI ((Fs n_1).2.2.2.1)), .int (nI ((Fs n_1).2.2.2.2))]) := e_8.2
            refine z_callV (As := [.int (nI n_1)]) (rest := []) B (s_X4_flowAt_81 G l Φ sz x (ca) n 99 Fs pp n_1 hx hI hc0 hcf0 (show n_1 < 12 by omega)) (cwV 1 B.1.2.2.2.2 gX11_cached_X4_flowAt rfl rfl rfl (by decide +kernel) ⟨Nat.le_of_ble_eq_true rfl, Nat.le_of_ble_eq_true rfl⟩) hc0 rfl rfl rfl rfl (Nat.le_of_ble_eq_true rfl) dX11_cached_52 ⟨Nat.le_of_ble_eq_true rfl, Nat.le_of_ble_eq_true rfl⟩ (fun r_3 Φ3 sz3 st3 hp3 hs3 => ?_)
            obtain ⟨rfl, hq3, hI3, hF3⟩ := hp3
            subst sz3
            replace hs3 : st3 = [.ref (x + (83 + pp n_1))] := hs3
            subst st3
            replace hI3 : In G x (ca) Φ3 := hI3
            refine z_iload_n B dX11_cached_55 rfl 2 rfl ?_
            have h_8 : Φ3 (x + (83 + pp n_1)) = some (o_ 5 [.long (Int64.ofNat (Fs n_1).1), .long ((Fs n_1).2.1), .long ((Fs n_1).2.2.1), .int (nI ((Fs n_1).2.2.2.1)), .int (nI ((Fs n_1).2.2.2.2))]) := ((hF3 (x + (83 + pp n_1)) (fun j9 h8 h7 => (show False from h7).elim)).trans h_7)
            refine z_callV (As := [.int 1]) (rest := []) B (s_X3_value1X G l Φ3 sz x (ca) ((Fs n_1).1) ((Fs n_1).2.1) ((Fs n_1).2.2.1) ((Fs n_1).2.2.2.1) ((Fs n_1).2.2.2.2) (83 + pp n_1) hx hI3 (kd_f (k := 82) rfl (show pp n_1 < 12 from TbR.lt hcf0 (by omega))) h_8 (show ((Fs n_1).1) < 2 ^ 40 by omega)) (cwV 1 B.1.2.2.2.2 gX11_cached_X3_value rfl rfl rfl (by decide +kernel) ⟨Nat.le_of_ble_eq_true rfl, Nat.le_of_ble_eq_true rfl⟩) h_8 rfl rfl rfl rfl (Nat.le_of_ble_eq_true rfl) dX11_cached_56 ⟨Nat.le_of_ble_eq_true rfl, Nat.le_of_ble_eq_true rfl⟩ (fun r_4 Φ4 sz4 st4 hp4 hs4 => ?_)
            obtain ⟨rfl, hq4, hI4, hF4⟩ := hp4
            subst sz4
            replace hs4 : st4 = [.long ((nI (((Fs n_1).1) / 2 ^ 24 % 2 ^ 8)).toInt64)] := hs4
            subst st4
            replace hI4 : In G x (ca) Φ4 := hI4
            have k_10 : (nI n_1).toInt = ((n_1 : Nat) : Int) := nI_toInt (by omega)
            have k_11 : (1 : Int32).toInt = 1 := by decide
            have k_12 : (0 : Int32).toInt = 0 := by decide
            have q_9 : ¬ ((nI n_1).toInt < (0 : Int32).toInt) := fun h9 => c_1 (Int32.lt_iff_toInt_lt.mpr h9)
            have k_13 : (nI n).toInt = ((n : Nat) : Int) := nI_toInt (by omega)
            have q_10 : ((nI n_1).toInt < (nI n).toInt) := Int32.lt_iff_toInt_lt.mp c_2
            have k_14 : (nI 1).toInt = ((1 : Nat) : Int) := nI_toInt (by omega)
            have q_11 : ¬ ((nI 1).toInt < (0 : Int32).toInt) := fun h9 => c_3 (Int32.lt_iff_toInt_lt.mpr h9)
            have k_15 : (7 : Int32).toInt = 7 := by decide
            have q_12 : ((nI 1).toInt ≤ (7 : Int32).toInt) := Int32.le_iff_toInt_le.mp c_4
            have hj9 : (nI n_1).toNatClampNeg = n_1 := nI_clamp (by omega)
            have hk9 : (nI 1).toNatClampNeg = 1 := nI_clamp (by decide)
            have hk7 : (nI 1).toInt = (1 : Nat) := nI_toInt (by decide)
            exact zb_ret (Nat.le_of_ble_eq_true rfl) (Nat.le_of_ble_eq_true rfl) (z_ret_l B dX11_cached_59 ⟨⟨by rw [hj9, hk9]; rfl, by unfold Ca2; omega⟩, rfl, hI4, (fun b9 h9 => ((hF4 b9 (fun j9 h8 h7 => (show False from h7).elim)).trans ((hF3 b9 (fun j9 h8 h7 => (show False from h7).elim)).trans rfl)))⟩)
          by_cases e_9 : n_2 = 2
          · subst e_9
            refine z_aload_n B dX11_cached_44 rfl 0 rfl ?_
            refine z_get (ref := "FlowExporter") (C := RX11) (T := TX11) (N := 8) (ci := 13) (v := .ref (x + 80)) B hu_X11_cached_X11 rfl 5 (Nat.le_of_ble_eq_true rfl) hv_X11_cached_55 rfl h_2 rfl dX11_cached_45 ?_
            refine z_get (ref := "FlowExporter$Exporter") (C := RX2) (T := TX2) (N := 13) (ci := 4) (v := .ref (x + 81)) B hu_X11_cached_X2 rfl 2 (Nat.le_of_ble_eq_true rfl) hv_X11_cached_146 rfl h_4 rfl dX11_cached_48 ?_
            refine z_iload_n B dX11_cached_51 rfl 1 rfl ?_
            have e_10 := TbR.fl hcf0 (show n_1 < n by omega) (show ¬ n_1 = 99 by omega)
            have b_4 : (Fs n_1).1 < 2 ^ 40 ∧ (Fs n_1).2.2.2.1 ≤ 1000000 ∧ (Fs n_1).2.2.2.2 ≤ 1000000 := e_10.1
            have h_9 : Φ (x + (83 + pp n_1)) = some (o_ 5 [.long (Int64.ofNat (Fs n_1).1), .long ((Fs n_1).2.1), .long ((Fs n_1).2.2.1), .int (nI ((Fs n_1).2.2.2.1)), .int (nI ((Fs n_1).2.2.2.2))]) := e_10.2
            refine z_callV (As := [.int (nI n_1)]) (rest := []) B (s_X4_flowAt_81 G l Φ sz x (ca) n 99 Fs pp n_1 hx hI hc0 hcf0 (show n_1 < 12 by omega)) (cwV 1 B.1.2.2.2.2 gX11_cached_X4_flowAt rfl rfl rfl (by decide +kernel) ⟨Nat.le_of_ble_eq_true rfl, Nat.le_of_ble_eq_true rfl⟩) hc0 rfl rfl rfl rfl (Nat.le_of_ble_eq_true rfl) dX11_cached_52 ⟨Nat.le_of_ble_eq_true rfl, Nat.le_of_ble_eq_true rfl⟩ (fun r_5 Φ5 sz5 st5 hp5 hs5 => ?_)
            obtain ⟨rfl, hq5, hI5, hF5⟩ := hp5
            subst sz5
            replace hs5 : st5 = [.ref (x + (83 + pp n_1))] := hs5
            subst st5
            replace hI5 : In G x (ca) Φ5 := hI5
            refine z_iload_n B dX11_cached_55 rfl 2 rfl ?_
            have h_10 : Φ5 (x + (83 + pp n_1)) = some (o_ 5 [.long (Int64.ofNat (Fs n_1).1), .long ((Fs n_1).2.1), .long ((Fs n_1).2.2.1), .int (nI ((Fs n_1).2.2.2.1)), .int (nI ((Fs n_1).2.2.2.2))]) := ((hF5 (x + (83 + pp n_1)) (fun j9 h8 h7 => (show False from h7).elim)).trans h_9)
            refine z_callV (As := [.int 2]) (rest := []) B (s_X3_value2X G l Φ5 sz x (ca) ((Fs n_1).1) ((Fs n_1).2.1) ((Fs n_1).2.2.1) ((Fs n_1).2.2.2.1) ((Fs n_1).2.2.2.2) (83 + pp n_1) hx hI5 (kd_f (k := 82) rfl (show pp n_1 < 12 from TbR.lt hcf0 (by omega))) h_10 (show ((Fs n_1).1) < 2 ^ 40 by omega)) (cwV 1 B.1.2.2.2.2 gX11_cached_X3_value rfl rfl rfl (by decide +kernel) ⟨Nat.le_of_ble_eq_true rfl, Nat.le_of_ble_eq_true rfl⟩) h_10 rfl rfl rfl rfl (Nat.le_of_ble_eq_true rfl) dX11_cached_56 ⟨Nat.le_of_ble_eq_true rfl, Nat.le_of_ble_eq_true rfl⟩ (fun r_6 Φ6 sz6 st6 hp6 hs6 => ?_)
            obtain ⟨rfl, hq6, hI6, hF6⟩ := hp6
            subst sz6
            replace hs6 : st6 = [.long ((nI (((Fs n_1).1) / 2 ^ 8 % 2 ^ 16)).toInt64)] := hs6
            subst st6
            replace hI6 : In G x (ca) Φ6 := hI6
            have k_16 : (nI n_1).toInt = ((n_1 : Nat) : Int) := nI_toInt (by omega)
            have k_17 : (2 : Int32).toInt = 2 := by decide
            have k_18 : (0 : Int32).toInt = 0 := by decide
            have q_13 : ¬ ((nI n_1).toInt < (0 : Int32).toInt) := fun h9 => c_1 (Int32.lt_iff_toInt_lt.mpr h9)
            have k_19 : (nI n).toInt = ((n : Nat) : Int) := nI_toInt (by omega)
            have q_14 : ((nI n_1).toInt < (nI n).toInt) := Int32.lt_iff_toInt_lt.mp c_2
            have k_20 : (nI 2).toInt = ((2 : Nat) : Int) := nI_toInt (by omega)
            have q_15 : ¬ ((nI 2).toInt < (0 : Int32).toInt) := fun h9 => c_3 (Int32.lt_iff_toInt_lt.mpr h9)
            have k_21 : (7 : Int32).toInt = 7 := by decide
            have q_16 : ((nI 2).toInt ≤ (7 : Int32).toInt) := Int32.le_iff_toInt_le.mp c_4
            have hj9 : (nI n_1).toNatClampNeg = n_1 := nI_clamp (by omega)
            have hk9 : (nI 2).toNatClampNeg = 2 := nI_clamp (by decide)
            have hk7 : (nI 2).toInt = (2 : Nat) := nI_toInt (by decide)
            exact zb_ret (Nat.le_of_ble_eq_true rfl) (Nat.le_of_ble_eq_true rfl) (z_ret_l B dX11_cached_59 ⟨⟨by rw [hj9, hk9]; rfl, by unfold Ca2; omega⟩, rfl, hI6, (fun b9 h9 => ((hF6 b9 (fun j9 h8 h7 => (show False from h7).elim)).trans ((hF5 b9 (fun j9 h8 h7 => (show False from h7).elim)).trans rfl)))⟩)
          by_cases e_11 : n_2 = 3
          · subst e_11
            refine z_aload_n B dX11_cached_44 rfl 0 rfl ?_
            refine z_get (ref := "FlowExporter") (C := RX11) (T := TX11) (N := 8) (ci := 13) (v := .ref (x + 80)) B hu_X11_cached_X11 rfl 5 (Nat.le_of_ble_eq_true rfl) hv_X11_cached_55 rfl h_2 rfl dX11_cached_45 ?_
            refine z_get (ref := "FlowExporter$Exporter") (C := RX2) (T := TX2) (N := 13) (ci := 4) (v := .ref (x + 81)) B hu_X11_cached_X2 rfl 2 (Nat.le_of_ble_eq_true rfl) hv_X11_cached_146 rfl h_4 rfl dX11_cached_48 ?_
            refine z_iload_n B dX11_cached_51 rfl 1 rfl ?_
            have e_12 := TbR.fl hcf0 (show n_1 < n by omega) (show ¬ n_1 = 99 by omega)
            have b_5 : (Fs n_1).1 < 2 ^ 40 ∧ (Fs n_1).2.2.2.1 ≤ 1000000 ∧ (Fs n_1).2.2.2.2 ≤ 1000000 := e_12.1
            have h_11 : Φ (x + (83 + pp n_1)) = some (o_ 5 [.long (Int64.ofNat (Fs n_1).1), .long ((Fs n_1).2.1), .long ((Fs n_1).2.2.1), .int (nI ((Fs n_1).2.2.2.1)), .int (nI ((Fs n_1).2.2.2.2))]) := e_12.2
            refine z_callV (As := [.int (nI n_1)]) (rest := []) B (s_X4_flowAt_81 G l Φ sz x (ca) n 99 Fs pp n_1 hx hI hc0 hcf0 (show n_1 < 12 by omega)) (cwV 1 B.1.2.2.2.2 gX11_cached_X4_flowAt rfl rfl rfl (by decide +kernel) ⟨Nat.le_of_ble_eq_true rfl, Nat.le_of_ble_eq_true rfl⟩) hc0 rfl rfl rfl rfl (Nat.le_of_ble_eq_true rfl) dX11_cached_52 ⟨Nat.le_of_ble_eq_true rfl, Nat.le_of_ble_eq_true rfl⟩ (fun r_7 Φ7 sz7 st7 hp7 hs7 => ?_)
            obtain ⟨rfl, hq7, hI7, hF7⟩ := hp7
            subst sz7
            replace hs7 : st7 = [.ref (x + (83 + pp n_1))] := hs7
            subst st7
            replace hI7 : In G x (ca) Φ7 := hI7
            refine z_iload_n B dX11_cached_55 rfl 2 rfl ?_
            have h_12 : Φ7 (x + (83 + pp n_1)) = some (o_ 5 [.long (Int64.ofNat (Fs n_1).1), .long ((Fs n_1).2.1), .long ((Fs n_1).2.2.1), .int (nI ((Fs n_1).2.2.2.1)), .int (nI ((Fs n_1).2.2.2.2))]) := ((hF7 (x + (83 + pp n_1)) (fun j9 h8 h7 => (show False from h7).elim)).trans h_11)
            refine z_callV (As := [.int 3]) (rest := []) B (s_X3_value3X G l Φ7 sz x (ca) ((Fs n_1).1) ((Fs n_1).2.1) ((Fs n_1).2.2.1) ((Fs n_1).2.2.2.1) ((Fs n_1).2.2.2.2) (83 + pp n_1) hx hI7 (kd_f (k := 82) rfl (show pp n_1 < 12 from TbR.lt hcf0 (by omega))) h_12 (show ((Fs n_1).1) < 2 ^ 40 by omega)) (cwV 1 B.1.2.2.2.2 gX11_cached_X3_value rfl rfl rfl (by decide +kernel) ⟨Nat.le_of_ble_eq_true rfl, Nat.le_of_ble_eq_true rfl⟩) h_12 rfl rfl rfl rfl (Nat.le_of_ble_eq_true rfl) dX11_cached_56 ⟨Nat.le_of_ble_eq_true rfl, Nat.le_of_ble_eq_true rfl⟩ (fun r_8 Φ8 sz8 st8 hp8 hs8 => ?_)
            obtain ⟨rfl, hq8, hI8, hF8⟩ := hp8
            subst sz8
            replace hs8 : st8 = [.long ((nI (((Fs n_1).1) % 256)).toInt64)] := hs8
            subst st8
            replace hI8 : In G x (ca) Φ8 := hI8
            have k_22 : (nI n_1).toInt = ((n_1 : Nat) : Int) := nI_toInt (by omega)
            have k_23 : (3 : Int32).toInt = 3 := by decide
            have k_24 : (0 : Int32).toInt = 0 := by decide
            have q_17 : ¬ ((nI n_1).toInt < (0 : Int32).toInt) := fun h9 => c_1 (Int32.lt_iff_toInt_lt.mpr h9)
            have k_25 : (nI n).toInt = ((n : Nat) : Int) := nI_toInt (by omega)
            have q_18 : ((nI n_1).toInt < (nI n).toInt) := Int32.lt_iff_toInt_lt.mp c_2
            have k_26 : (nI 3).toInt = ((3 : Nat) : Int) := nI_toInt (by omega)
            have q_19 : ¬ ((nI 3).toInt < (0 : Int32).toInt) := fun h9 => c_3 (Int32.lt_iff_toInt_lt.mpr h9)
            have k_27 : (7 : Int32).toInt = 7 := by decide
            have q_20 : ((nI 3).toInt ≤ (7 : Int32).toInt) := Int32.le_iff_toInt_le.mp c_4
            have hj9 : (nI n_1).toNatClampNeg = n_1 := nI_clamp (by omega)
            have hk9 : (nI 3).toNatClampNeg = 3 := nI_clamp (by decide)
            have hk7 : (nI 3).toInt = (3 : Nat) := nI_toInt (by decide)
            exact zb_ret (Nat.le_of_ble_eq_true rfl) (Nat.le_of_ble_eq_true rfl) (z_ret_l B dX11_cached_59 ⟨⟨by rw [hj9, hk9]; rfl, by unfold Ca2; omega⟩, rfl, hI8, (fun b9 h9 => ((hF8 b9 (fun j9 h8 h7 => (show False from h7).elim)).trans ((hF7 b9 (fun j9 h8 h7 => (show False from h7).elim)).trans rfl)))⟩)
          by_cases e_13 : n_2 = 4
          · subst e_13
            refine z_aload_n B dX11_cached_44 rfl 0 rfl ?_
            refine z_get (ref := "FlowExporter") (C := RX11) (T := TX11) (N := 8) (ci := 13) (v := .ref (x + 80)) B hu_X11_cached_X11 rfl 5 (Nat.le_of_ble_eq_true rfl) hv_X11_cached_55 rfl h_2 rfl dX11_cached_45 ?_
            refine z_get (ref := "FlowExporter$Exporter") (C := RX2) (T := TX2) (N := 13) (ci := 4) (v := .ref (x + 81)) B hu_X11_cached_X2 rfl 2 (Nat.le_of_ble_eq_true rfl) hv_X11_cached_146 rfl h_4 rfl dX11_cached_48 ?_
            refine z_iload_n B dX11_cached_51 rfl 1 rfl ?_
            have e_14 := TbR.fl hcf0 (show n_1 < n by omega) (show ¬ n_1 = 99 by omega)
            have b_6 : (Fs n_1).1 < 2 ^ 40 ∧ (Fs n_1).2.2.2.1 ≤ 1000000 ∧ (Fs n_1).2.2.2.2 ≤ 1000000 := e_14.1
            have h_13 : Φ (x + (83 + pp n_1)) = some (o_ 5 [.long (Int64.ofNat (Fs n_1).1), .long ((Fs n_1).2.1), .long ((Fs n_1).2.2.1), .int (nI ((Fs n_1).2.2.2.1)), .int (nI ((Fs n_1).2.2.2.2))]) := e_14.2
            refine z_callV (As := [.int (nI n_1)]) (rest := []) B (s_X4_flowAt_81 G l Φ sz x (ca) n 99 Fs pp n_1 hx hI hc0 hcf0 (show n_1 < 12 by omega)) (cwV 1 B.1.2.2.2.2 gX11_cached_X4_flowAt rfl rfl rfl (by decide +kernel) ⟨Nat.le_of_ble_eq_true rfl, Nat.le_of_ble_eq_true rfl⟩) hc0 rfl rfl rfl rfl (Nat.le_of_ble_eq_true rfl) dX11_cached_52 ⟨Nat.le_of_ble_eq_true rfl, Nat.le_of_ble_eq_true rfl⟩ (fun r_9 Φ9 sz9 st9 hp9 hs9 => ?_)
            obtain ⟨rfl, hq9, hI9, hF9⟩ := hp9
            subst sz9
            replace hs9 : st9 = [.ref (x + (83 + pp n_1))] := hs9
            subst st9
            replace hI9 : In G x (ca) Φ9 := hI9
            refine z_iload_n B dX11_cached_55 rfl 2 rfl ?_
            have h_14 : Φ9 (x + (83 + pp n_1)) = some (o_ 5 [.long (Int64.ofNat (Fs n_1).1), .long ((Fs n_1).2.1), .long ((Fs n_1).2.2.1), .int (nI ((Fs n_1).2.2.2.1)), .int (nI ((Fs n_1).2.2.2.2))]) := ((hF9 (x + (83 + pp n_1)) (fun j9 h8 h7 => (show False from h7).elim)).trans h_13)
            refine z_callV (As := [.int 4]) (rest := []) B (s_X3_value4X G l Φ9 sz x (ca) ((Fs n_1).1) ((Fs n_1).2.1) ((Fs n_1).2.2.1) ((Fs n_1).2.2.2.1) ((Fs n_1).2.2.2.2) (83 + pp n_1) hx hI9 (kd_f (k := 82) rfl (show pp n_1 < 12 from TbR.lt hcf0 (by omega))) h_14 (show ((Fs n_1).1) < 2 ^ 40 by omega)) (cwV 1 B.1.2.2.2.2 gX11_cached_X3_value rfl rfl rfl (by decide +kernel) ⟨Nat.le_of_ble_eq_true rfl, Nat.le_of_ble_eq_true rfl⟩) h_14 rfl rfl rfl rfl (Nat.le_of_ble_eq_true rfl) dX11_cached_56 ⟨Nat.le_of_ble_eq_true rfl, Nat.le_of_ble_eq_true rfl⟩ (fun r_10 Φ10 sz10 st10 hp10 hs10 => ?_)
            obtain ⟨rfl, hq10, hI10, hF10⟩ := hp10
            subst sz10
            replace hs10 : st10 = [.long ((Fs n_1).2.1)] := hs10
            subst st10
            replace hI10 : In G x (ca) Φ10 := hI10
            have k_28 : (nI n_1).toInt = ((n_1 : Nat) : Int) := nI_toInt (by omega)
            have k_29 : (4 : Int32).toInt = 4 := by decide
            have k_30 : (0 : Int32).toInt = 0 := by decide
            have q_21 : ¬ ((nI n_1).toInt < (0 : Int32).toInt) := fun h9 => c_1 (Int32.lt_iff_toInt_lt.mpr h9)
            have k_31 : (nI n).toInt = ((n : Nat) : Int) := nI_toInt (by omega)
            have q_22 : ((nI n_1).toInt < (nI n).toInt) := Int32.lt_iff_toInt_lt.mp c_2
            have k_32 : (nI 4).toInt = ((4 : Nat) : Int) := nI_toInt (by omega)
            have q_23 : ¬ ((nI 4).toInt < (0 : Int32).toInt) := fun h9 => c_3 (Int32.lt_iff_toInt_lt.mpr h9)
            have k_33 : (7 : Int32).toInt = 7 := by decide
            have q_24 : ((nI 4).toInt ≤ (7 : Int32).toInt) := Int32.le_iff_toInt_le.mp c_4
            have hj9 : (nI n_1).toNatClampNeg = n_1 := nI_clamp (by omega)
            have hk9 : (nI 4).toNatClampNeg = 4 := nI_clamp (by decide)
            have hk7 : (nI 4).toInt = (4 : Nat) := nI_toInt (by decide)
            exact zb_ret (Nat.le_of_ble_eq_true rfl) (Nat.le_of_ble_eq_true rfl) (z_ret_l B dX11_cached_59 ⟨⟨by rw [hj9, hk9]; rfl, by unfold Ca2; omega⟩, rfl, hI10, (fun b9 h9 => ((hF10 b9 (fun j9 h8 h7 => (show False from h7).elim)).trans ((hF9 b9 (fun j9 h8 h7 => (show False from h7).elim)).trans rfl)))⟩)
          by_cases e_15 : n_2 = 5
          · subst e_15
            refine z_aload_n B dX11_cached_44 rfl 0 rfl ?_
            refine z_get (ref := "FlowExporter") (C := RX11) (T := TX11) (N := 8) (ci := 13) (v := .ref (x + 80)) B hu_X11_cached_X11 rfl 5 (Nat.le_of_ble_eq_true rfl) hv_X11_cached_55 rfl h_2 rfl dX11_cached_45 ?_
            refine z_get (ref := "FlowExporter$Exporter") (C := RX2) (T := TX2) (N := 13) (ci := 4) (v := .ref (x + 81)) B hu_X11_cached_X2 rfl 2 (Nat.le_of_ble_eq_true rfl) hv_X11_cached_146 rfl h_4 rfl dX11_cached_48 ?_
            refine z_iload_n B dX11_cached_51 rfl 1 rfl ?_
            have e_16 := TbR.fl hcf0 (show n_1 < n by omega) (show ¬ n_1 = 99 by omega)
            have b_7 : (Fs n_1).1 < 2 ^ 40 ∧ (Fs n_1).2.2.2.1 ≤ 1000000 ∧ (Fs n_1).2.2.2.2 ≤ 1000000 := e_16.1
            have h_15 : Φ (x + (83 + pp n_1)) = some (o_ 5 [.long (Int64.ofNat (Fs n_1).1), .long ((Fs n_1).2.1), .long ((Fs n_1).2.2.1), .int (nI ((Fs n_1).2.2.2.1)), .int (nI ((Fs n_1).2.2.2.2))]) := e_16.2
            refine z_callV (As := [.int (nI n_1)]) (rest := []) B (s_X4_flowAt_81 G l Φ sz x (ca) n 99 Fs pp n_1 hx hI hc0 hcf0 (show n_1 < 12 by omega)) (cwV 1 B.1.2.2.2.2 gX11_cached_X4_flowAt rfl rfl rfl (by decide +kernel) ⟨Nat.le_of_ble_eq_true rfl, Nat.le_of_ble_eq_true rfl⟩) hc0 rfl rfl rfl rfl (Nat.le_of_ble_eq_true rfl) dX11_cached_52 ⟨Nat.le_of_ble_eq_true rfl, Nat.le_of_ble_eq_true rfl⟩ (fun r_11 Φ11 sz11 st11 hp11 hs11 => ?_)
            obtain ⟨rfl, hq11, hI11, hF11⟩ := hp11
            subst sz11
            replace hs11 : st11 = [.ref (x + (83 + pp n_1))] := hs11
            subst st11
            replace hI11 : In G x (ca) Φ11 := hI11
            refine z_iload_n B dX11_cached_55 rfl 2 rfl ?_
            have h_16 : Φ11 (x + (83 + pp n_1)) = some (o_ 5 [.long (Int64.ofNat (Fs n_1).1), .long ((Fs n_1).2.1), .long ((Fs n_1).2.2.1), .int (nI ((Fs n_1).2.2.2.1)), .int (nI ((Fs n_1).2.2.2.2))]) := ((hF11 (x + (83 + pp n_1)) (fun j9 h8 h7 => (show False from h7).elim)).trans h_15)
            refine z_callV (As := [.int 5]) (rest := []) B (s_X3_value5X G l Φ11 sz x (ca) ((Fs n_1).1) ((Fs n_1).2.1) ((Fs n_1).2.2.1) ((Fs n_1).2.2.2.1) ((Fs n_1).2.2.2.2) (83 + pp n_1) hx hI11 (kd_f (k := 82) rfl (show pp n_1 < 12 from TbR.lt hcf0 (by omega))) h_16 (show ((Fs n_1).1) < 2 ^ 40 by omega)) (cwV 1 B.1.2.2.2.2 gX11_cached_X3_value rfl rfl rfl (by decide +kernel) ⟨Nat.le_of_ble_eq_true rfl, Nat.le_of_ble_eq_true rfl⟩) h_16 rfl rfl rfl rfl (Nat.le_of_ble_eq_true rfl) dX11_cached_56 ⟨Nat.le_of_ble_eq_true rfl, Nat.le_of_ble_eq_true rfl⟩ (fun r_12 Φ12 sz12 st12 hp12 hs12 => ?_)
            obtain ⟨rfl, hq12, hI12, hF12⟩ := hp12
            subst sz12
            replace hs12 : st12 = [.long ((Fs n_1).2.2.1)] := hs12
            subst st12
            replace hI12 : In G x (ca) Φ12 := hI12
            have k_34 : (nI n_1).toInt = ((n_1 : Nat) : Int) := nI_toInt (by omega)
            have k_35 : (5 : Int32).toInt = 5 := by decide
            have k_36 : (0 : Int32).toInt = 0 := by decide
            have q_25 : ¬ ((nI n_1).toInt < (0 : Int32).toInt) := fun h9 => c_1 (Int32.lt_iff_toInt_lt.mpr h9)
            have k_37 : (nI n).toInt = ((n : Nat) : Int) := nI_toInt (by omega)
            have q_26 : ((nI n_1).toInt < (nI n).toInt) := Int32.lt_iff_toInt_lt.mp c_2
            have k_38 : (nI 5).toInt = ((5 : Nat) : Int) := nI_toInt (by omega)
            have q_27 : ¬ ((nI 5).toInt < (0 : Int32).toInt) := fun h9 => c_3 (Int32.lt_iff_toInt_lt.mpr h9)
            have k_39 : (7 : Int32).toInt = 7 := by decide
            have q_28 : ((nI 5).toInt ≤ (7 : Int32).toInt) := Int32.le_iff_toInt_le.mp c_4
            have hj9 : (nI n_1).toNatClampNeg = n_1 := nI_clamp (by omega)
            have hk9 : (nI 5).toNatClampNeg = 5 := nI_clamp (by decide)
            have hk7 : (nI 5).toInt = (5 : Nat) := nI_toInt (by decide)
            exact zb_ret (Nat.le_of_ble_eq_true rfl) (Nat.le_of_ble_eq_true rfl) (z_ret_l B dX11_cached_59 ⟨⟨by rw [hj9, hk9]; rfl, by unfold Ca2; omega⟩, rfl, hI12, (fun b9 h9 => ((hF12 b9 (fun j9 h8 h7 => (show False from h7).elim)).trans ((hF11 b9 (fun j9 h8 h7 => (show False from h7).elim)).trans rfl)))⟩)
          by_cases e_17 : n_2 = 6
          · subst e_17
            refine z_aload_n B dX11_cached_44 rfl 0 rfl ?_
            refine z_get (ref := "FlowExporter") (C := RX11) (T := TX11) (N := 8) (ci := 13) (v := .ref (x + 80)) B hu_X11_cached_X11 rfl 5 (Nat.le_of_ble_eq_true rfl) hv_X11_cached_55 rfl h_2 rfl dX11_cached_45 ?_
            refine z_get (ref := "FlowExporter$Exporter") (C := RX2) (T := TX2) (N := 13) (ci := 4) (v := .ref (x + 81)) B hu_X11_cached_X2 rfl 2 (Nat.le_of_ble_eq_true rfl) hv_X11_cached_146 rfl h_4 rfl dX11_cached_48 ?_
            refine z_iload_n B dX11_cached_51 rfl 1 rfl ?_
            have e_18 := TbR.fl hcf0 (show n_1 < n by omega) (show ¬ n_1 = 99 by omega)
            have b_8 : (Fs n_1).1 < 2 ^ 40 ∧ (Fs n_1).2.2.2.1 ≤ 1000000 ∧ (Fs n_1).2.2.2.2 ≤ 1000000 := e_18.1
            have h_17 : Φ (x + (83 + pp n_1)) = some (o_ 5 [.long (Int64.ofNat (Fs n_1).1), .long ((Fs n_1).2.1), .long ((Fs n_1).2.2.1), .int (nI ((Fs n_1).2.2.2.1)), .int (nI ((Fs n_1).2.2.2.2))]) := e_18.2
            refine z_callV (As := [.int (nI n_1)]) (rest := []) B (s_X4_flowAt_81 G l Φ sz x (ca) n 99 Fs pp n_1 hx hI hc0 hcf0 (show n_1 < 12 by omega)) (cwV 1 B.1.2.2.2.2 gX11_cached_X4_flowAt rfl rfl rfl (by decide +kernel) ⟨Nat.le_of_ble_eq_true rfl, Nat.le_of_ble_eq_true rfl⟩) hc0 rfl rfl rfl rfl (Nat.le_of_ble_eq_true rfl) dX11_cached_52 ⟨Nat.le_of_ble_eq_true rfl, Nat.le_of_ble_eq_true rfl⟩ (fun r_13 Φ13 sz13 st13 hp13 hs13 => ?_)
            obtain ⟨rfl, hq13, hI13, hF13⟩ := hp13
            subst sz13
            replace hs13 : st13 = [.ref (x + (83 + pp n_1))] := hs13
            subst st13
            replace hI13 : In G x (ca) Φ13 := hI13
            refine z_iload_n B dX11_cached_55 rfl 2 rfl ?_
            have h_18 : Φ13 (x + (83 + pp n_1)) = some (o_ 5 [.long (Int64.ofNat (Fs n_1).1), .long ((Fs n_1).2.1), .long ((Fs n_1).2.2.1), .int (nI ((Fs n_1).2.2.2.1)), .int (nI ((Fs n_1).2.2.2.2))]) := ((hF13 (x + (83 + pp n_1)) (fun j9 h8 h7 => (show False from h7).elim)).trans h_17)
            refine z_callV (As := [.int 6]) (rest := []) B (s_X3_value6X G l Φ13 sz x (ca) ((Fs n_1).1) ((Fs n_1).2.1) ((Fs n_1).2.2.1) ((Fs n_1).2.2.2.1) ((Fs n_1).2.2.2.2) (83 + pp n_1) hx hI13 (kd_f (k := 82) rfl (show pp n_1 < 12 from TbR.lt hcf0 (by omega))) h_18 (show ((Fs n_1).1) < 2 ^ 40 by omega)) (cwV 1 B.1.2.2.2.2 gX11_cached_X3_value rfl rfl rfl (by decide +kernel) ⟨Nat.le_of_ble_eq_true rfl, Nat.le_of_ble_eq_true rfl⟩) h_18 rfl rfl rfl rfl (Nat.le_of_ble_eq_true rfl) dX11_cached_56 ⟨Nat.le_of_ble_eq_true rfl, Nat.le_of_ble_eq_true rfl⟩ (fun r_14 Φ14 sz14 st14 hp14 hs14 => ?_)
            obtain ⟨rfl, hq14, hI14, hF14⟩ := hp14
            subst sz14
            replace hs14 : st14 = [.long ((nI ((Fs n_1).2.2.2.1)).toInt64)] := hs14
            subst st14
            replace hI14 : In G x (ca) Φ14 := hI14
            have k_40 : (nI n_1).toInt = ((n_1 : Nat) : Int) := nI_toInt (by omega)
            have k_41 : (6 : Int32).toInt = 6 := by decide
            have k_42 : (0 : Int32).toInt = 0 := by decide
            have q_29 : ¬ ((nI n_1).toInt < (0 : Int32).toInt) := fun h9 => c_1 (Int32.lt_iff_toInt_lt.mpr h9)
            have k_43 : (nI n).toInt = ((n : Nat) : Int) := nI_toInt (by omega)
            have q_30 : ((nI n_1).toInt < (nI n).toInt) := Int32.lt_iff_toInt_lt.mp c_2
            have k_44 : (nI 6).toInt = ((6 : Nat) : Int) := nI_toInt (by omega)
            have q_31 : ¬ ((nI 6).toInt < (0 : Int32).toInt) := fun h9 => c_3 (Int32.lt_iff_toInt_lt.mpr h9)
            have k_45 : (7 : Int32).toInt = 7 := by decide
            have q_32 : ((nI 6).toInt ≤ (7 : Int32).toInt) := Int32.le_iff_toInt_le.mp c_4
            have hj9 : (nI n_1).toNatClampNeg = n_1 := nI_clamp (by omega)
            have hk9 : (nI 6).toNatClampNeg = 6 := nI_clamp (by decide)
            have hk7 : (nI 6).toInt = (6 : Nat) := nI_toInt (by decide)
            exact zb_ret (Nat.le_of_ble_eq_true rfl) (Nat.le_of_ble_eq_true rfl) (z_ret_l B dX11_cached_59 ⟨⟨by rw [hj9, hk9]; rfl, by unfold Ca2; omega⟩, rfl, hI14, (fun b9 h9 => ((hF14 b9 (fun j9 h8 h7 => (show False from h7).elim)).trans ((hF13 b9 (fun j9 h8 h7 => (show False from h7).elim)).trans rfl)))⟩)
          by_cases e_19 : n_2 = 7
          · subst e_19
            refine z_aload_n B dX11_cached_44 rfl 0 rfl ?_
            refine z_get (ref := "FlowExporter") (C := RX11) (T := TX11) (N := 8) (ci := 13) (v := .ref (x + 80)) B hu_X11_cached_X11 rfl 5 (Nat.le_of_ble_eq_true rfl) hv_X11_cached_55 rfl h_2 rfl dX11_cached_45 ?_
            refine z_get (ref := "FlowExporter$Exporter") (C := RX2) (T := TX2) (N := 13) (ci := 4) (v := .ref (x + 81)) B hu_X11_cached_X2 rfl 2 (Nat.le_of_ble_eq_true rfl) hv_X11_cached_146 rfl h_4 rfl dX11_cached_48 ?_
            refine z_iload_n B dX11_cached_51 rfl 1 rfl ?_
            have e_20 := TbR.fl hcf0 (show n_1 < n by omega) (show ¬ n_1 = 99 by omega)
            have b_9 : (Fs n_1).1 < 2 ^ 40 ∧ (Fs n_1).2.2.2.1 ≤ 1000000 ∧ (Fs n_1).2.2.2.2 ≤ 1000000 := e_20.1
            have h_19 : Φ (x + (83 + pp n_1)) = some (o_ 5 [.long (Int64.ofNat (Fs n_1).1), .long ((Fs n_1).2.1), .long ((Fs n_1).2.2.1), .int (nI ((Fs n_1).2.2.2.1)), .int (nI ((Fs n_1).2.2.2.2))]) := e_20.2
            refine z_callV (As := [.int (nI n_1)]) (rest := []) B (s_X4_flowAt_81 G l Φ sz x (ca) n 99 Fs pp n_1 hx hI hc0 hcf0 (show n_1 < 12 by omega)) (cwV 1 B.1.2.2.2.2 gX11_cached_X4_flowAt rfl rfl rfl (by decide +kernel) ⟨Nat.le_of_ble_eq_true rfl, Nat.le_of_ble_eq_true rfl⟩) hc0 rfl rfl rfl rfl (Nat.le_of_ble_eq_true rfl) dX11_cached_52 ⟨Nat.le_of_ble_eq_true rfl, Nat.le_of_ble_eq_true rfl⟩ (fun r_15 Φ15 sz15 st15 hp15 hs15 => ?_)
            obtain ⟨rfl, hq15, hI15, hF15⟩ := hp15
            subst sz15
            replace hs15 : st15 = [.ref (x + (83 + pp n_1))] := hs15
            subst st15
            replace hI15 : In G x (ca) Φ15 := hI15
            refine z_iload_n B dX11_cached_55 rfl 2 rfl ?_
            have h_20 : Φ15 (x + (83 + pp n_1)) = some (o_ 5 [.long (Int64.ofNat (Fs n_1).1), .long ((Fs n_1).2.1), .long ((Fs n_1).2.2.1), .int (nI ((Fs n_1).2.2.2.1)), .int (nI ((Fs n_1).2.2.2.2))]) := ((hF15 (x + (83 + pp n_1)) (fun j9 h8 h7 => (show False from h7).elim)).trans h_19)
            refine z_callV (As := [.int 7]) (rest := []) B (s_X3_value7X G l Φ15 sz x (ca) ((Fs n_1).1) ((Fs n_1).2.1) ((Fs n_1).2.2.1) ((Fs n_1).2.2.2.1) ((Fs n_1).2.2.2.2) (83 + pp n_1) hx hI15 (kd_f (k := 82) rfl (show pp n_1 < 12 from TbR.lt hcf0 (by omega))) h_20 (show ((Fs n_1).1) < 2 ^ 40 by omega)) (cwV 1 B.1.2.2.2.2 gX11_cached_X3_value rfl rfl rfl (by decide +kernel) ⟨Nat.le_of_ble_eq_true rfl, Nat.le_of_ble_eq_true rfl⟩) h_20 rfl rfl rfl rfl (Nat.le_of_ble_eq_true rfl) dX11_cached_56 ⟨Nat.le_of_ble_eq_true rfl, Nat.le_of_ble_eq_true rfl⟩ (fun r_16 Φ16 sz16 st16 hp16 hs16 => ?_)
            obtain ⟨rfl, hq16, hI16, hF16⟩ := hp16
            subst sz16
            replace hs16 : st16 = [.long ((nI ((Fs n_1).2.2.2.2)).toInt64)] := hs16
            subst st16
            replace hI16 : In G x (ca) Φ16 := hI16
            have k_46 : (nI n_1).toInt = ((n_1 : Nat) : Int) := nI_toInt (by omega)
            have k_47 : (7 : Int32).toInt = 7 := by decide
            have k_48 : (0 : Int32).toInt = 0 := by decide
            have q_33 : ¬ ((nI n_1).toInt < (0 : Int32).toInt) := fun h9 => c_1 (Int32.lt_iff_toInt_lt.mpr h9)
            have k_49 : (nI n).toInt = ((n : Nat) : Int) := nI_toInt (by omega)
            have q_34 : ((nI n_1).toInt < (nI n).toInt) := Int32.lt_iff_toInt_lt.mp c_2
            have k_50 : (nI 7).toInt = ((7 : Nat) : Int) := nI_toInt (by omega)
            have q_35 : ¬ ((nI 7).toInt < (0 : Int32).toInt) := fun h9 => c_3 (Int32.lt_iff_toInt_lt.mpr h9)
            have q_36 : ((nI 7).toInt ≤ (7 : Int32).toInt) := Int32.le_iff_toInt_le.mp c_4
            have hj9 : (nI n_1).toNatClampNeg = n_1 := nI_clamp (by omega)
            have hk9 : (nI 7).toNatClampNeg = 7 := nI_clamp (by decide)
            have hk7 : (nI 7).toInt = (7 : Nat) := nI_toInt (by decide)
            exact zb_ret (Nat.le_of_ble_eq_true rfl) (Nat.le_of_ble_eq_true rfl) (z_ret_l B dX11_cached_59 ⟨⟨by rw [hj9, hk9]; rfl, by unfold Ca2; omega⟩, rfl, hI16, (fun b9 h9 => ((hF16 b9 (fun j9 h8 h7 => (show False from h7).elim)).trans ((hF15 b9 (fun j9 h8 h7 => (show False from h7).elim)).trans rfl)))⟩)
          exact ((show False by omega).elim)
        · have e_21 : ¬ (n_2 ≤ 7) := fun h9 => c_4 ((nI_leI (a := n_2) (b := 7) (by omega) (by omega)).mpr h9)
          have k_51 : (nI n_1).toInt = ((n_1 : Nat) : Int) := nI_toInt (by omega)
          have k_52 : (nI n_2).toInt = ((n_2 : Nat) : Int) := nI_toInt (by omega)
          have k_53 : (0 : Int32).toInt = 0 := by decide
          have q_37 : ¬ ((nI n_1).toInt < (0 : Int32).toInt) := fun h9 => c_1 (Int32.lt_iff_toInt_lt.mpr h9)
          have k_54 : (nI n).toInt = ((n : Nat) : Int) := nI_toInt (by omega)
          have q_38 : ((nI n_1).toInt < (nI n).toInt) := Int32.lt_iff_toInt_lt.mp c_2
          have q_39 : ¬ ((nI n_2).toInt < (0 : Int32).toInt) := fun h9 => c_3 (Int32.lt_iff_toInt_lt.mpr h9)
          have k_55 : (7 : Int32).toInt = 7 := by decide
          have q_40 : ¬ ((nI n_2).toInt ≤ (7 : Int32).toInt) := fun h9 => c_4 (Int32.le_iff_toInt_le.mpr h9)
          exact zb_throw (cls := xIA) (ik := 116) (ic := 118) B hl9 htab9 (by decide) ⟨(fun h9 => by unfold Ca2 at h9; omega), hI, (fun b9 h9 => rfl)⟩ (by decide) (by decide +kernel) (by decide +kernel) (by decide +kernel) (by decide +kernel) (by decide +kernel) (by decide +kernel) (by decide +kernel) dX11_cached_36 dX11_cached_39 dX11_cached_40 dX11_cached_43 ⟨Nat.le_of_ble_eq_true rfl, Nat.le_of_ble_eq_true rfl, Nat.le_of_ble_eq_true rfl, Nat.le_of_ble_eq_true rfl⟩ ⟨Nat.le_of_ble_eq_true rfl, Nat.le_of_ble_eq_true rfl⟩
    · have e_22 : ¬ (n_1 < n) := fun h9 => c_2 ((nI_ltI (a := n_1) (b := n) (by omega) (by omega)).mpr h9)
      have k_56 : (nI n_1).toInt = ((n_1 : Nat) : Int) := nI_toInt (by omega)
      have k_57 : (0 : Int32).toInt = 0 := by decide
      have q_41 : ¬ ((nI n_1).toInt < (0 : Int32).toInt) := fun h9 => c_1 (Int32.lt_iff_toInt_lt.mpr h9)
      have k_58 : (nI n).toInt = ((n : Nat) : Int) := nI_toInt (by omega)
      have q_42 : ¬ ((nI n_1).toInt < (nI n).toInt) := fun h9 => c_2 (Int32.lt_iff_toInt_lt.mpr h9)
      unfold Ca1 at hyA
      exact ((show False by omega).elim)

set_option maxHeartbeats 4000000 in
set_option maxRecDepth 100000 in
theorem s_X11_cachedXb (G : EnvG) (l : Launch) (hl9 : l.stackTraces = false) (Φ : Hm) (sz x ca : Nat) (n : Nat) (a : Int32) (b : Int32) (hx : G.2.2.2 ≤ x) (hI : In G x ca Φ) (hc0 : Φ (x + 81) = some (o_ 6 [.ref (x + 82), .int (nI n)])) (hn : n ≤ 12) (hyA : ¬ Ca1 n a) : CtB G l yX11_cached wsX11_cached ({ frames := 6, cells := 1, slots := 6, locals := 81 }) 1 6 [.ref x, .int a, .int b] Φ sz (fun v Φ1 sz1 => (False) ∧ sz1 = sz ∧ In G x (ca) Φ1 ∧ Fr x (fun j9 => False) Φ Φ1) (fun Φ1 => In G x ca Φ1 ∧ Fr x (fun j9 => False) Φ Φ1) [xIO] := by
  refine CtB.of (cc := cX11_cached) (maxL := 3) (ret := (some .long)) (by decide) rfl (Nat.le_of_ble_eq_true rfl) ?_
  intro p9 e9 s9 m9 w9 t9 k9 B htab9
  show Z p9 l e9 _ s9 m9 _ w9 t9 k9 _ G 3 0 [(0, .ref x), (1, .int a), (2, .int b)] [] Φ sz 0 0
  refine z_iload_n B dX11_cached_0 rfl 1 rfl ?_
  refine z_if_lt (tgt := 18) B dX11_cached_1 rfl (fun c_1 => ?_) (fun c_1 => ?_)
  · exact zb_throw (cls := xIO) (ik := 153) (ic := 155) B hl9 htab9 (by decide) ⟨hI, (fun b9 h9 => rfl)⟩ (by decide) (by decide +kernel) (by decide +kernel) (by decide +kernel) (by decide +kernel) (by decide +kernel) (by decide +kernel) (by decide +kernel) dX11_cached_18 dX11_cached_21 dX11_cached_22 dX11_cached_25 ⟨Nat.le_of_ble_eq_true rfl, Nat.le_of_ble_eq_true rfl, Nat.le_of_ble_eq_true rfl, Nat.le_of_ble_eq_true rfl⟩ ⟨Nat.le_of_ble_eq_true rfl, Nat.le_of_ble_eq_true rfl⟩
  · obtain ⟨n_1, e_1, rfl⟩ := nI_of c_1
    refine z_iload_n B dX11_cached_4 rfl 1 rfl ?_
    refine z_aload_n B dX11_cached_5 rfl 0 rfl ?_
    have h_1 := in0 (k := 0) hI rfl
    have h_2 : Φ x = some (o_ 13 [.ref (x + 1), .ref (x + 3), .ref (x + 24), .ref (x + 46), .ref (x + 74), .ref (x + 80), .ref (x + 132), .ref (x + 121)]) := h_1
    refine z_get (ref := "FlowExporter") (C := RX11) (T := TX11) (N := 8) (ci := 13) (v := .ref (x + 80)) B hu_X11_cached_X11 rfl 5 (Nat.le_of_ble_eq_true rfl) hv_X11_cached_55 rfl h_2 rfl dX11_cached_6 ?_
    obtain ⟨v_1, v_2, v_3, v_4, v_5, v_6, v_7, v_8, v_9, h_3, b_1⟩ := in16 (k := 80) hI rfl
    have h_4 : Φ (x + 80) = some (o_ 4 [.ref (x + 3), .ref (x + 74), .ref (x + 81), .ref (x + 95), .int v_1, .int v_2, .int v_3, .int v_4, .int v_5, .int v_6, .long v_7, .long v_8, .long v_9]) := h_3
    refine z_get (ref := "FlowExporter$Exporter") (C := RX2) (T := TX2) (N := 13) (ci := 4) (v := .ref (x + 81)) B hu_X11_cached_X2 rfl 2 (Nat.le_of_ble_eq_true rfl) hv_X11_cached_146 rfl h_4 rfl dX11_cached_9 ?_
    refine z_get (ref := "FlowExporter$FlowTable") (C := RX4) (T := TX4) (N := 2) (ci := 6) (v := .int (nI n)) B hu_X11_cached_X4 rfl 1 (Nat.le_of_ble_eq_true rfl) hv_X11_cached_150 rfl hc0 rfl dX11_cached_12 ?_
    refine z_icmp_lt (tgt := 26) B dX11_cached_15 rfl (fun c_2 => ?_) (fun c_2 => ?_)
    · have e_2 : n_1 < n := (nI_ltI (a := n_1) (b := n) (by omega) (by omega)).mp c_2
      have k_1 : (nI n_1).toInt = ((n_1 : Nat) : Int) := nI_toInt (by omega)
      have k_2 : (0 : Int32).toInt = 0 := by decide
      have q_1 : ¬ ((nI n_1).toInt < (0 : Int32).toInt) := fun h9 => c_1 (Int32.lt_iff_toInt_lt.mpr h9)
      have k_3 : (nI n).toInt = ((n : Nat) : Int) := nI_toInt (by omega)
      have q_2 : ((nI n_1).toInt < (nI n).toInt) := Int32.lt_iff_toInt_lt.mp c_2
      unfold Ca1 at hyA
      exact ((show False by omega).elim)
    · have e_3 : ¬ (n_1 < n) := fun h9 => c_2 ((nI_ltI (a := n_1) (b := n) (by omega) (by omega)).mpr h9)
      exact zb_throw (cls := xIO) (ik := 153) (ic := 155) B hl9 htab9 (by decide) ⟨hI, (fun b9 h9 => rfl)⟩ (by decide) (by decide +kernel) (by decide +kernel) (by decide +kernel) (by decide +kernel) (by decide +kernel) (by decide +kernel) (by decide +kernel) dX11_cached_18 dX11_cached_21 dX11_cached_22 dX11_cached_25 ⟨Nat.le_of_ble_eq_true rfl, Nat.le_of_ble_eq_true rfl, Nat.le_of_ble_eq_true rfl, Nat.le_of_ble_eq_true rfl⟩ ⟨Nat.le_of_ble_eq_true rfl, Nat.le_of_ble_eq_true rfl⟩

set_option maxHeartbeats 4000000 in
set_option maxRecDepth 100000 in
theorem s_X3_keyOfX (G : EnvG) (l : Launch) (Φ : Hm) (sz x ca : Nat) (a : Int32) (b : Int32) (d : Int32) (f : Int32) (hx : G.2.2.2 ≤ x) (hI : In G x ca Φ)  : Ct G l yX3_keyOf wsX3_keyOf ({ frames := 0, cells := 0, slots := 0, locals := 0 }) 0 0 [.int a, .int b, .int d, .int f] Φ sz (fun v Φ1 sz1 => ((v = some (.long (Int64.ofNat (kyN a b d f))) ∧ KyP a b d f) ∨ (v = some (.long (-1)) ∧ ¬ KyP a b d f)) ∧ sz1 = sz ∧ In G x (ca) Φ1 ∧ Fr x (fun j9 => False) Φ Φ1) := by
  refine Ct.of (cc := cX3_keyOf) (maxL := 4) (ret := (some .long)) (by decide) rfl (Nat.le_of_ble_eq_true rfl) ?_
  intro p9 e9 s9 m9 w9 t9 k9 B
  show Z p9 l e9 _ s9 m9 _ w9 t9 k9 _ G 4 0 [(0, .int a), (1, .int b), (2, .int d), (3, .int f)] [] Φ sz 0 0
  refine z_iload_n B dX3_keyOf_0 rfl 0 rfl ?_
  refine z_if_lt (tgt := 22) B dX3_keyOf_1 rfl (fun c_1 => ?_) (fun c_1 => ?_)
  · refine z_ldc2 (v := (-1)) B (by decide +kernel) dX3_keyOf_22 ?_
    have k_1 : (0 : Int32).toInt = 0 := by decide
    have q_1 : (a.toInt < (0 : Int32).toInt) := Int32.lt_iff_toInt_lt.mp c_1
    exact z_ret_l B dX3_keyOf_25 ⟨(Or.inr ⟨rfl, fun h9 => by unfold KyP at h9; omega⟩), rfl, hI, (fun b9 h9 => rfl)⟩
  · obtain ⟨n_1, e_1, rfl⟩ := nI_of c_1
    refine z_iload_n B dX3_keyOf_4 rfl 0 rfl ?_
    refine z_sipush (v := 255) B dX3_keyOf_5 rfl ?_
    refine z_icmp_gt (tgt := 22) B dX3_keyOf_8 rfl (fun c_2 => ?_) (fun c_2 => ?_)
    · have e_2 : 255 < n_1 := (nI_ltI (a := 255) (b := n_1) (by omega) (by omega)).mp c_2
      refine z_ldc2 (v := (-1)) B (by decide +kernel) dX3_keyOf_22 ?_
      have k_2 : (nI n_1).toInt = ((n_1 : Nat) : Int) := nI_toInt (by omega)
      have k_3 : (0 : Int32).toInt = 0 := by decide
      have q_2 : ¬ ((nI n_1).toInt < (0 : Int32).toInt) := fun h9 => c_1 (Int32.lt_iff_toInt_lt.mpr h9)
      have k_4 : (255 : Int32).toInt = 255 := by decide
      have q_3 : ((255 : Int32).toInt < (nI n_1).toInt) := Int32.lt_iff_toInt_lt.mp c_2
      exact z_ret_l B dX3_keyOf_25 ⟨(Or.inr ⟨rfl, fun h9 => by unfold KyP at h9; omega⟩), rfl, hI, (fun b9 h9 => rfl)⟩
    · have e_3 : ¬ (255 < n_1) := fun h9 => c_2 ((nI_ltI (a := 255) (b := n_1) (by omega) (by omega)).mpr h9)
      refine z_iload_n B dX3_keyOf_11 rfl 1 rfl ?_
      refine z_if_lt (tgt := 22) B dX3_keyOf_12 rfl (fun c_3 => ?_) (fun c_3 => ?_)
      · refine z_ldc2 (v := (-1)) B (by decide +kernel) dX3_keyOf_22 ?_
        have k_5 : (nI n_1).toInt = ((n_1 : Nat) : Int) := nI_toInt (by omega)
        have k_6 : (0 : Int32).toInt = 0 := by decide
        have q_4 : ¬ ((nI n_1).toInt < (0 : Int32).toInt) := fun h9 => c_1 (Int32.lt_iff_toInt_lt.mpr h9)
        have k_7 : (255 : Int32).toInt = 255 := by decide
        have q_5 : ¬ ((255 : Int32).toInt < (nI n_1).toInt) := fun h9 => c_2 (Int32.lt_iff_toInt_lt.mpr h9)
        have q_6 : (b.toInt < (0 : Int32).toInt) := Int32.lt_iff_toInt_lt.mp c_3
        exact z_ret_l B dX3_keyOf_25 ⟨(Or.inr ⟨rfl, fun h9 => by unfold KyP at h9; omega⟩), rfl, hI, (fun b9 h9 => rfl)⟩
      · obtain ⟨n_2, e_4, rfl⟩ := nI_of c_3
        refine z_iload_n B dX3_keyOf_15 rfl 1 rfl ?_
        refine z_sipush (v := 255) B dX3_keyOf_16 rfl ?_
        refine z_icmp_le (tgt := 26) B dX3_keyOf_19 rfl (fun c_4 => ?_) (fun c_4 => ?_)
        · have e_5 : n_2 ≤ 255 := (nI_leI (a := n_2) (b := 255) (by omega) (by omega)).mp c_4
          refine z_iload_n B dX3_keyOf_26 rfl 2 rfl ?_
          refine z_if_lt (tgt := 47) B dX3_keyOf_27 rfl (fun c_5 => ?_) (fun c_5 => ?_)
          · refine z_ldc2 (v := (-1)) B (by decide +kernel) dX3_keyOf_47 ?_
            have k_8 : (nI n_1).toInt = ((n_1 : Nat) : Int) := nI_toInt (by omega)
            have k_9 : (nI n_2).toInt = ((n_2 : Nat) : Int) := nI_toInt (by omega)
            have k_10 : (0 : Int32).toInt = 0 := by decide
            have q_7 : ¬ ((nI n_1).toInt < (0 : Int32).toInt) := fun h9 => c_1 (Int32.lt_iff_toInt_lt.mpr h9)
            have k_11 : (255 : Int32).toInt = 255 := by decide
            have q_8 : ¬ ((255 : Int32).toInt < (nI n_1).toInt) := fun h9 => c_2 (Int32.lt_iff_toInt_lt.mpr h9)
            have q_9 : ¬ ((nI n_2).toInt < (0 : Int32).toInt) := fun h9 => c_3 (Int32.lt_iff_toInt_lt.mpr h9)
            have q_10 : ((nI n_2).toInt ≤ (255 : Int32).toInt) := Int32.le_iff_toInt_le.mp c_4
            have q_11 : (d.toInt < (0 : Int32).toInt) := Int32.lt_iff_toInt_lt.mp c_5
            exact z_ret_l B dX3_keyOf_50 ⟨(Or.inr ⟨rfl, fun h9 => by unfold KyP at h9; omega⟩), rfl, hI, (fun b9 h9 => rfl)⟩
          · obtain ⟨n_3, e_6, rfl⟩ := nI_of c_5
            refine z_iload_n B dX3_keyOf_30 rfl 2 rfl ?_
            refine z_ldc (v := 65535) B (by decide +kernel) dX3_keyOf_31 ?_
            refine z_icmp_gt (tgt := 47) B dX3_keyOf_33 rfl (fun c_6 => ?_) (fun c_6 => ?_)
            · have e_7 : 65535 < n_3 := (nI_ltI (a := 65535) (b := n_3) (by omega) (by omega)).mp c_6
              refine z_ldc2 (v := (-1)) B (by decide +kernel) dX3_keyOf_47 ?_
              have k_12 : (nI n_1).toInt = ((n_1 : Nat) : Int) := nI_toInt (by omega)
              have k_13 : (nI n_2).toInt = ((n_2 : Nat) : Int) := nI_toInt (by omega)
              have k_14 : (nI n_3).toInt = ((n_3 : Nat) : Int) := nI_toInt (by omega)
              have k_15 : (0 : Int32).toInt = 0 := by decide
              have q_12 : ¬ ((nI n_1).toInt < (0 : Int32).toInt) := fun h9 => c_1 (Int32.lt_iff_toInt_lt.mpr h9)
              have k_16 : (255 : Int32).toInt = 255 := by decide
              have q_13 : ¬ ((255 : Int32).toInt < (nI n_1).toInt) := fun h9 => c_2 (Int32.lt_iff_toInt_lt.mpr h9)
              have q_14 : ¬ ((nI n_2).toInt < (0 : Int32).toInt) := fun h9 => c_3 (Int32.lt_iff_toInt_lt.mpr h9)
              have q_15 : ((nI n_2).toInt ≤ (255 : Int32).toInt) := Int32.le_iff_toInt_le.mp c_4
              have q_16 : ¬ ((nI n_3).toInt < (0 : Int32).toInt) := fun h9 => c_5 (Int32.lt_iff_toInt_lt.mpr h9)
              have k_17 : (65535 : Int32).toInt = 65535 := by decide
              have q_17 : ((65535 : Int32).toInt < (nI n_3).toInt) := Int32.lt_iff_toInt_lt.mp c_6
              exact z_ret_l B dX3_keyOf_50 ⟨(Or.inr ⟨rfl, fun h9 => by unfold KyP at h9; omega⟩), rfl, hI, (fun b9 h9 => rfl)⟩
            · have e_8 : ¬ (65535 < n_3) := fun h9 => c_6 ((nI_ltI (a := 65535) (b := n_3) (by omega) (by omega)).mpr h9)
              refine z_iload_n B dX3_keyOf_36 rfl 3 rfl ?_
              refine z_if_lt (tgt := 47) B dX3_keyOf_37 rfl (fun c_7 => ?_) (fun c_7 => ?_)
              · refine z_ldc2 (v := (-1)) B (by decide +kernel) dX3_keyOf_47 ?_
                have k_18 : (nI n_1).toInt = ((n_1 : Nat) : Int) := nI_toInt (by omega)
                have k_19 : (nI n_2).toInt = ((n_2 : Nat) : Int) := nI_toInt (by omega)
                have k_20 : (nI n_3).toInt = ((n_3 : Nat) : Int) := nI_toInt (by omega)
                have k_21 : (0 : Int32).toInt = 0 := by decide
                have q_18 : ¬ ((nI n_1).toInt < (0 : Int32).toInt) := fun h9 => c_1 (Int32.lt_iff_toInt_lt.mpr h9)
                have k_22 : (255 : Int32).toInt = 255 := by decide
                have q_19 : ¬ ((255 : Int32).toInt < (nI n_1).toInt) := fun h9 => c_2 (Int32.lt_iff_toInt_lt.mpr h9)
                have q_20 : ¬ ((nI n_2).toInt < (0 : Int32).toInt) := fun h9 => c_3 (Int32.lt_iff_toInt_lt.mpr h9)
                have q_21 : ((nI n_2).toInt ≤ (255 : Int32).toInt) := Int32.le_iff_toInt_le.mp c_4
                have q_22 : ¬ ((nI n_3).toInt < (0 : Int32).toInt) := fun h9 => c_5 (Int32.lt_iff_toInt_lt.mpr h9)
                have k_23 : (65535 : Int32).toInt = 65535 := by decide
                have q_23 : ¬ ((65535 : Int32).toInt < (nI n_3).toInt) := fun h9 => c_6 (Int32.lt_iff_toInt_lt.mpr h9)
                have q_24 : (f.toInt < (0 : Int32).toInt) := Int32.lt_iff_toInt_lt.mp c_7
                exact z_ret_l B dX3_keyOf_50 ⟨(Or.inr ⟨rfl, fun h9 => by unfold KyP at h9; omega⟩), rfl, hI, (fun b9 h9 => rfl)⟩
              · obtain ⟨n_4, e_9, rfl⟩ := nI_of c_7
                refine z_iload_n B dX3_keyOf_40 rfl 3 rfl ?_
                refine z_sipush (v := 255) B dX3_keyOf_41 rfl ?_
                refine z_icmp_le (tgt := 51) B dX3_keyOf_44 rfl (fun c_8 => ?_) (fun c_8 => ?_)
                · have e_10 : n_4 ≤ 255 := (nI_leI (a := n_4) (b := 255) (by omega) (by omega)).mp c_8
                  refine z_iload_n B dX3_keyOf_51 rfl 0 rfl ?_
                  refine z_i2l (v := (nI n_1).toInt64) B dX3_keyOf_52 rfl ?_
                  refine z_bipush (v := 32) B dX3_keyOf_53 rfl ?_
                  refine z_lshl (v := ((nI n_1).toInt64) <<< ((32 : Int32).toInt64 &&& 63)) B dX3_keyOf_55 rfl ?_
                  refine z_iload_n B dX3_keyOf_56 rfl 1 rfl ?_
                  refine z_i2l (v := (nI n_2).toInt64) B dX3_keyOf_57 rfl ?_
                  refine z_bipush (v := 24) B dX3_keyOf_58 rfl ?_
                  refine z_lshl (v := ((nI n_2).toInt64) <<< ((24 : Int32).toInt64 &&& 63)) B dX3_keyOf_60 rfl ?_
                  refine z_lor B dX3_keyOf_61 ?_
                  refine z_iload_n B dX3_keyOf_62 rfl 2 rfl ?_
                  refine z_i2l (v := (nI n_3).toInt64) B dX3_keyOf_63 rfl ?_
                  refine z_bipush (v := 8) B dX3_keyOf_64 rfl ?_
                  refine z_lshl (v := ((nI n_3).toInt64) <<< ((8 : Int32).toInt64 &&& 63)) B dX3_keyOf_66 rfl ?_
                  refine z_lor B dX3_keyOf_67 ?_
                  refine z_iload_n B dX3_keyOf_68 rfl 3 rfl ?_
                  refine z_i2l (v := (nI n_4).toInt64) B dX3_keyOf_69 rfl ?_
                  refine z_lor B dX3_keyOf_70 ?_
                  have k_24 : (nI n_1).toInt = ((n_1 : Nat) : Int) := nI_toInt (by omega)
                  have k_25 : (nI n_2).toInt = ((n_2 : Nat) : Int) := nI_toInt (by omega)
                  have k_26 : (nI n_3).toInt = ((n_3 : Nat) : Int) := nI_toInt (by omega)
                  have k_27 : (nI n_4).toInt = ((n_4 : Nat) : Int) := nI_toInt (by omega)
                  have k_28 : (0 : Int32).toInt = 0 := by decide
                  have q_25 : ¬ ((nI n_1).toInt < (0 : Int32).toInt) := fun h9 => c_1 (Int32.lt_iff_toInt_lt.mpr h9)
                  have k_29 : (255 : Int32).toInt = 255 := by decide
                  have q_26 : ¬ ((255 : Int32).toInt < (nI n_1).toInt) := fun h9 => c_2 (Int32.lt_iff_toInt_lt.mpr h9)
                  have q_27 : ¬ ((nI n_2).toInt < (0 : Int32).toInt) := fun h9 => c_3 (Int32.lt_iff_toInt_lt.mpr h9)
                  have q_28 : ((nI n_2).toInt ≤ (255 : Int32).toInt) := Int32.le_iff_toInt_le.mp c_4
                  have q_29 : ¬ ((nI n_3).toInt < (0 : Int32).toInt) := fun h9 => c_5 (Int32.lt_iff_toInt_lt.mpr h9)
                  have k_30 : (65535 : Int32).toInt = 65535 := by decide
                  have q_30 : ¬ ((65535 : Int32).toInt < (nI n_3).toInt) := fun h9 => c_6 (Int32.lt_iff_toInt_lt.mpr h9)
                  have q_31 : ¬ ((nI n_4).toInt < (0 : Int32).toInt) := fun h9 => c_7 (Int32.lt_iff_toInt_lt.mpr h9)
                  have q_32 : ((nI n_4).toInt ≤ (255 : Int32).toInt) := Int32.le_iff_toInt_le.mp c_8
                  have hk9 : KyP (nI n_1) (nI n_2) (nI n_3) (nI n_4) := by unfold KyP; omega
                  exact z_ret_l B dX3_keyOf_71 ⟨(Or.inl ⟨congrArg (fun w9 : Int64 => some (Value.long w9)) ((keyF_ok hk9).symm.trans (keyF_N hk9).1), hk9⟩), rfl, hI, (fun b9 h9 => rfl)⟩
                · have e_11 : ¬ (n_4 ≤ 255) := fun h9 => c_8 ((nI_leI (a := n_4) (b := 255) (by omega) (by omega)).mpr h9)
                  refine z_ldc2 (v := (-1)) B (by decide +kernel) dX3_keyOf_47 ?_
                  have k_31 : (nI n_1).toInt = ((n_1 : Nat) : Int) := nI_toInt (by omega)
                  have k_32 : (nI n_2).toInt = ((n_2 : Nat) : Int) := nI_toInt (by omega)
                  have k_33 : (nI n_3).toInt = ((n_3 : Nat) : Int) := nI_toInt (by omega)
                  have k_34 : (nI n_4).toInt = ((n_4 : Nat) : Int) := nI_toInt (by omega)
                  have k_35 : (0 : Int32).toInt = 0 := by decide
                  have q_33 : ¬ ((nI n_1).toInt < (0 : Int32).toInt) := fun h9 => c_1 (Int32.lt_iff_toInt_lt.mpr h9)
                  have k_36 : (255 : Int32).toInt = 255 := by decide
                  have q_34 : ¬ ((255 : Int32).toInt < (nI n_1).toInt) := fun h9 => c_2 (Int32.lt_iff_toInt_lt.mpr h9)
                  have q_35 : ¬ ((nI n_2).toInt < (0 : Int32).toInt) := fun h9 => c_3 (Int32.lt_iff_toInt_lt.mpr h9)
                  have q_36 : ((nI n_2).toInt ≤ (255 : Int32).toInt) := Int32.le_iff_toInt_le.mp c_4
                  have q_37 : ¬ ((nI n_3).toInt < (0 : Int32).toInt) := fun h9 => c_5 (Int32.lt_iff_toInt_lt.mpr h9)
                  have k_37 : (65535 : Int32).toInt = 65535 := by decide
                  have q_38 : ¬ ((65535 : Int32).toInt < (nI n_3).toInt) := fun h9 => c_6 (Int32.lt_iff_toInt_lt.mpr h9)
                  have q_39 : ¬ ((nI n_4).toInt < (0 : Int32).toInt) := fun h9 => c_7 (Int32.lt_iff_toInt_lt.mpr h9)
                  have q_40 : ¬ ((nI n_4).toInt ≤ (255 : Int32).toInt) := fun h9 => c_8 (Int32.le_iff_toInt_le.mpr h9)
                  exact z_ret_l B dX3_keyOf_50 ⟨(Or.inr ⟨rfl, fun h9 => by unfold KyP at h9; omega⟩), rfl, hI, (fun b9 h9 => rfl)⟩
        · have e_12 : ¬ (n_2 ≤ 255) := fun h9 => c_4 ((nI_leI (a := n_2) (b := 255) (by omega) (by omega)).mpr h9)
          refine z_ldc2 (v := (-1)) B (by decide +kernel) dX3_keyOf_22 ?_
          have k_38 : (nI n_1).toInt = ((n_1 : Nat) : Int) := nI_toInt (by omega)
          have k_39 : (nI n_2).toInt = ((n_2 : Nat) : Int) := nI_toInt (by omega)
          have k_40 : (0 : Int32).toInt = 0 := by decide
          have q_41 : ¬ ((nI n_1).toInt < (0 : Int32).toInt) := fun h9 => c_1 (Int32.lt_iff_toInt_lt.mpr h9)
          have k_41 : (255 : Int32).toInt = 255 := by decide
          have q_42 : ¬ ((255 : Int32).toInt < (nI n_1).toInt) := fun h9 => c_2 (Int32.lt_iff_toInt_lt.mpr h9)
          have q_43 : ¬ ((nI n_2).toInt < (0 : Int32).toInt) := fun h9 => c_3 (Int32.lt_iff_toInt_lt.mpr h9)
          have q_44 : ¬ ((nI n_2).toInt ≤ (255 : Int32).toInt) := fun h9 => c_4 (Int32.le_iff_toInt_le.mpr h9)
          exact z_ret_l B dX3_keyOf_25 ⟨(Or.inr ⟨rfl, fun h9 => by unfold KyP at h9; omega⟩), rfl, hI, (fun b9 h9 => rfl)⟩

set_option maxHeartbeats 4000000 in
set_option maxRecDepth 100000 in
theorem s_X11_requireWhatX (G : EnvG) (l : Launch) (hl9 : l.stackTraces = false) (Φ : Hm) (sz x ca : Nat) (a : Int32) (hx : G.2.2.2 ≤ x) (hI : In G x ca Φ)  : CtB G l yX11_requireWhat wsX11_requireWhat ({ frames := 6, cells := 1, slots := 6, locals := 81 }) 1 6 [.int a] Φ sz (fun v Φ1 sz1 => (v = none ∧ (a = 0 ∨ a = 1)) ∧ sz1 = sz ∧ In G x (ca) Φ1 ∧ Fr x (fun j9 => False) Φ Φ1) (fun Φ1 => (¬ (a = 0 ∨ a = 1)) ∧ In G x ca Φ1 ∧ Fr x (fun j9 => False) Φ Φ1) [xIA] := by
  refine CtB.of (cc := cX11_requireWhat) (maxL := 1) (ret := none) (by decide) rfl (Nat.le_of_ble_eq_true rfl) ?_
  intro p9 e9 s9 m9 w9 t9 k9 B htab9
  show Z p9 l e9 _ s9 m9 _ w9 t9 k9 _ G 1 0 [(0, .int a)] [] Φ sz 0 0
  refine z_iload_n B dX11_requireWhat_0 rfl 0 rfl ?_
  refine z_if_eq (tgt := 17) B dX11_requireWhat_1 rfl (fun c_1 => ?_) (fun c_1 => ?_)
  · exact zb_ret (Nat.le_of_ble_eq_true rfl) (Nat.le_of_ble_eq_true rfl) (z_ret_v B dX11_requireWhat_17 ⟨⟨rfl, Or.inl c_1⟩, rfl, hI, (fun b9 h9 => rfl)⟩)
  · refine z_iload_n B dX11_requireWhat_4 rfl 0 rfl ?_
    refine z_iconst (v := 1) B dX11_requireWhat_5 rfl ?_
    refine z_icmp_eq (tgt := 17) B dX11_requireWhat_6 rfl (fun c_2 => ?_) (fun c_2 => ?_)
    · exact zb_ret (Nat.le_of_ble_eq_true rfl) (Nat.le_of_ble_eq_true rfl) (z_ret_v B dX11_requireWhat_17 ⟨⟨rfl, Or.inr c_2⟩, rfl, hI, (fun b9 h9 => rfl)⟩)
    · exact zb_throw (cls := xIA) (ik := 116) (ic := 118) B hl9 htab9 (by decide) ⟨(fun h9 => h9.elim c_1 c_2), hI, (fun b9 h9 => rfl)⟩ (by decide) (by decide +kernel) (by decide +kernel) (by decide +kernel) (by decide +kernel) (by decide +kernel) (by decide +kernel) (by decide +kernel) dX11_requireWhat_9 dX11_requireWhat_12 dX11_requireWhat_13 dX11_requireWhat_16 ⟨Nat.le_of_ble_eq_true rfl, Nat.le_of_ble_eq_true rfl, Nat.le_of_ble_eq_true rfl, Nat.le_of_ble_eq_true rfl⟩ ⟨Nat.le_of_ble_eq_true rfl, Nat.le_of_ble_eq_true rfl⟩

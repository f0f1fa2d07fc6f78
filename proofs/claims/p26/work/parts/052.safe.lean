set_option maxHeartbeats 4000000 in
set_option maxRecDepth 100000 in
theorem s_X11_cachedXb (G : EnvG) (l : Launch) (hl9 : l.stackTraces = false) (Φ : Hm) (sz x ca : Nat) (n : Nat) (a : Int32) (b : Int32) (hx : G.2.2.2 ≤ x) (hI : In G x ca Φ) (hc0 : Φ (x + 81) = some (o_ 6 [.ref (x + 82), .int (nI n)])) (hn : n ≤ 12) (hyA : ¬ Ca1 n a) : CtB G l yX11_cached wsX11_cached ({ frames := 6, cells := 1, slots := 6, locals := 81 }) 1 6 [.ref x, .int a, .int b] Φ sz (fun v Φ1 sz1 => (False) ∧ sz1 = sz ∧ In G x (ca) Φ1 ∧ Fr x (fun j9 => False) Φ Φ1) (fun Φ1 => In G x ca Φ1 ∧ Fr x (fun j9 => False) Φ Φ1) [xIO] := by
  refine CtB.of (cc := cX11_cached) (maxL := 3) (ret := (some .long)) (by decide) rfl (Nat.le_of_ble_eq_true rfl) ?_
  intro p9 e9 s9 m9 w9 t9 k9 B htab9
  show Z p9 l e9 _ s9 m9 _ w9 t9 k9 _ G 3 0 [(0, .ref x), (1, .int a), (2, .int b)] [] Φ sz 0 0
  refine z_iload_n B dX11_cached_0 rfl 1 rfl ?_
  refine z_if_lt (tgt := 18) B dX11_cached_1 rfl (fun c_1 => ?_) (fun c_1 => ?_)
  · exact zb_throw (cls := xIO) (ik := 153) (ic := 155) B hl9 htab9 (by decide) ⟨hI, (fun b9 h9 => rfl)⟩ (by decide) (by decide +kernel) (by decide +kernel) (by decide +kernel) (by decide +kernel) (by decide +kernel) (by decide +kernel) (by decide +kernel) dX11_cached_18 dX11_cached_21 dX11_cached_22 dX11_cached_25 ⟨Nat.le_of_ble_eq_true rfl, Nat.le_of_ble_eq_true rfl, Nat.le_of_ble_eq_true rfl, Nat.le_of_ble_eq_true rfl⟩ ⟨Nat.le_of_ble_eq_true rfl, Nat.le_of_ble_eq_true rfl⟩
  · obtain ⟨n_1, e_1, rfl⟩ := nI_of c_1
    refine z_iload_n B dX11_cached_4 rfl 1 rfl ?_
    refine z_aload_n B dX11_cached_5 rfl 0 rfl ?_
    have h_1 := in0 (k := 0) hI rfl
    have h_2 : Φ x = some (o_ 13 [.ref (x + 1), .ref (x + 3), .ref (x + 24), .ref (x + 46), .ref (x + 74), .ref (x + 80), .ref (x + 132), .ref (x + 121)]) := h_1
    refine z_get (ref := "FlowExporter") (C := RX11) (T := TX11) (N := 8) (ci := 13) (v := .ref (x + 80)) B hu_X11_cached_X11 rfl 5 (Nat.le_of_ble_eq_true rfl) hv_X11_cached_55 rfl h_2 rfl dX11_cached_6 ?_
    obtain ⟨v_1, v_2, v_3, v_4, v_5, v_6, v_7, v_8, v_9, h_3, b_1⟩ := in16 (k := 80) hI rfl
    have h_4 : Φ (x + 80) = some (o_ 4 [.ref (x + 3), .ref (x + 74), .ref (x + 81), .ref (x + 95), .int v_1, .int v_2, .int v_3, .int v_4, .int v_5, .int v_6, .long v_7, .long v_8, .long v_9]) := h_3
    refine z_get (ref := "FlowExporter$Exporter") (C := RX2) (T := TX2) (N := 13) (ci := 4) (v := .ref (x + 81)) B hu_X11_cached_X2 rfl 2 (Nat.le_of_ble_eq_true rfl) hv_X11_cached_146 rfl h_4 rfl dX11_cached_9 ?_
    refine z_get (ref := "FlowExporter$FlowTable") (C := RX4) (T := TX4) (N := 2) (ci := 6) (v := .int (nI n)) B hu_X11_cached_X4 rfl 1 (Nat.le_of_ble_eq_true rfl) hv_X11_cached_150 rfl hc0 rfl dX11_cached_12 ?_
    refine z_icmp_lt (tgt := 26) B dX11_cached_15 rfl (fun c_2 => ?_) (fun c_2 => ?_)
    · have e_2 : n_1 < n := (nI_ltI (a := n_1) (b := n) (by omega) (by omega)).mp c_2
      have k_1 : (nI n_1).toInt = ((n_1 : Nat) : Int) := nI_toInt (by omega)
      have k_2 : (0 : Int32).toInt = 0 := by decide
      have q_1 : ¬ ((nI n_1).toInt < (0 : Int32).toInt) := fun h9 => c_1 (Int32.lt_iff_toInt_lt.mpr h9)
      have k_3 : (nI n).toInt = ((n : Nat) : Int) := nI_toInt (by omega)
      have q_2 : ((nI n_1).toInt < (nI n).toInt) := Int32.lt_iff_toInt_lt.mp c_2
      unfold Ca1 at hyA
      exact ((show False by omega).elim)
    · have e_3 : ¬ (n_1 < n) := fun h9 => c_2 ((nI_ltI (a := n_1) (b := n) (by omega) (by omega)).mpr h9)
      exact zb_throw (cls := xIO) (ik := 153) (ic := 155) B hl9 htab9 (by decide) ⟨hI, (fun b9 h9 => rfl)⟩ (by decide) (by decide +kernel) (by decide +kernel) (by decide +kernel) (by decide +kernel) (by decide +kernel) (by decide +kernel) (by decide +kernel) dX11_cached_18 dX11_cached_21 dX11_cached_22 dX11_cached_25 ⟨Nat.le_of_ble_eq_true rfl, Nat.le_of_ble_eq_true rfl, Nat.le_of_ble_eq_true rfl, Nat.le_of_ble_eq_true rfl⟩ ⟨Nat.le_of_ble_eq_true rfl, Nat.le_of_ble_eq_true rfl⟩

set_option maxHeartbeats 4000000 in
set_option maxRecDepth 100000 in
theorem s_X3_keyOfX (G : EnvG) (l : Launch) (Φ : Hm) (sz x ca : Nat) (a : Int32) (b : Int32) (d : Int32) (f : Int32) (hx : G.2.2.2 ≤ x) (hI : In G x ca Φ)  : Ct G l yX3_keyOf wsX3_keyOf ({ frames := 0, cells := 0, slots := 0, locals := 0 }) 0 0 [.int a, .int b, .int d, .int f] Φ sz (fun v Φ1 sz1 => ((v = some (.long (Int64.ofNat (kyN a b d f))) ∧ KyP a b d f) ∨ (v = some (.long (-1)) ∧ ¬ KyP a b d f)) ∧ sz1 = sz ∧ In G x (ca) Φ1 ∧ Fr x (fun j9 => False) Φ Φ1) := by
  refine Ct.of (cc := cX3_keyOf) (maxL := 4) (ret := (some .long)) (by decide) rfl (Nat.le_of_ble_eq_true rfl) ?_
  intro p9 e9 s9 m9 w9 t9 k9 B
  show Z p9 l e9 _ s9 m9 _ w9 t9 k9 _ G 4 0 [(0, .int a), (1, .int b), (2, .int d), (3, .int f)] [] Φ sz 0 0
  refine z_iload_n B dX3_keyOf_0 rfl 0 rfl ?_
  refine z_if_lt (tgt := 22) B dX3_keyOf_1 rfl (fun c_1 => ?_) (fun c_1 => ?_)
  · refine z_ldc2 (v := (-1)) B (by decide +kernel) dX3_keyOf_22 ?_
    have k_1 : (0 : Int32).toInt = 0 := by decide
    have q_1 : (a.toInt < (0 : Int32).toInt) := Int32.lt_iff_toInt_lt.mp c_1
    exact z_ret_l B dX3_keyOf_25 ⟨(Or.inr ⟨rfl, fun h9 => by unfold KyP at h9; omega⟩), rfl, hI, (fun b9 h9 => rfl)⟩
  · obtain ⟨n_1, e_1, rfl⟩ := nI_of c_1
    refine z_iload_n B dX3_keyOf_4 rfl 0 rfl ?_
    refine z_sipush (v := 255) B dX3_keyOf_5 rfl ?_
    refine z_icmp_gt (tgt := 22) B dX3_keyOf_8 rfl (fun c_2 => ?_) (fun c_2 => ?_)
    · have e_2 : 255 < n_1 := (nI_ltI (a := 255) (b := n_1) (by omega) (by omega)).mp c_2
      refine z_ldc2 (v := (-1)) B (by decide +kernel) dX3_keyOf_22 ?_
      have k_2 : (nI n_1).toInt = ((n_1 : Nat) : Int) := nI_toInt (by omega)
      have k_3 : (0 : Int32).toInt = 0 := by decide
      have q_2 : ¬ ((nI n_1).toInt < (0 : Int32).toInt) := fun h9 => c_1 (Int32.lt_iff_toInt_lt.mpr h9)
      have k_4 : (255 : Int32).toInt = 255 := by decide
      have q_3 : ((255 : Int32).toInt < (nI n_1).toInt) := Int32.lt_iff_toInt_lt.mp c_2
      exact z_ret_l B dX3_keyOf_25 ⟨(Or.inr ⟨rfl, fun h9 => by unfold KyP at h9; omega⟩), rfl, hI, (fun b9 h9 => rfl)⟩
    · have e_3 : ¬ (255 < n_1) := fun h9 => c_2 ((nI_ltI (a := 255) (b := n_1) (by omega) (by omega)).mpr h9)
      refine z_iload_n B dX3_keyOf_11 rfl 1 rfl ?_
      refine z_if_lt (tgt := 22) B dX3_keyOf_12 rfl (fun c_3 => ?_) (fun c_3 => ?_)
      · refine z_ldc2 (v := (-1)) B (by decide +kernel) dX3_keyOf_22 ?_
        have k_5 : (nI n_1).toInt = ((n_1 : Nat) : Int) := nI_toInt (by omega)
        have k_6 : (0 : Int32).toInt = 0 := by decide
        have q_4 : ¬ ((nI n_1).toInt < (0 : Int32).toInt) := fun h9 => c_1 (Int32.lt_iff_toInt_lt.mpr h9)
        have k_7 : (255 : Int32).toInt = 255 := by decide
        have q_5 : ¬ ((255 : Int32).toInt < (nI n_1).toInt) := fun h9 => c_2 (Int32.lt_iff_toInt_lt.mpr h9)
        have q_6 : (b.toInt < (0 : Int32).toInt) := Int32.lt_iff_toInt_lt.mp c_3
        exact z_ret_l B dX3_keyOf_25 ⟨(Or.inr ⟨rfl, fun h9 => by unfold KyP at h9; omega⟩), rfl, hI, (fun b9 h9 => rfl)⟩
      · obtain ⟨n_2, e_4, rfl⟩ := nI_of c_3
        refine z_iload_n B dX3_keyOf_15 rfl 1 rfl ?_
        refine z_sipush (v := 255) B dX3_keyOf_16 rfl ?_
        refine z_icmp_le (tgt := 26) B dX3_keyOf_19 rfl (fun c_4 => ?_) (fun c_4 => ?_)
        · have e_5 : n_2 ≤ 255 := (nI_leI (a := n_2) (b := 255) (by omega) (by omega)).mp c_4
          refine z_iload_n B dX3_keyOf_26 rfl 2 rfl ?_
          refine z_if_lt (tgt := 47) B dX3_keyOf_27 rfl (fun c_5 => ?_) (fun c_5 => ?_)
          · refine z_ldc2 (v := (-1)) B (by decide +kernel) dX3_keyOf_47 ?_
            have k_8 : (nI n_1).toInt = ((n_1 : Nat) : Int) := nI_toInt (by omega)
            have k_9 : (nI n_2).toInt = ((n_2 : Nat) : Int) := nI_toInt (by omega)
            have k_10 : (0 : Int32).toInt = 0 := by decide
            have q_7 : ¬ ((nI n_1).toInt < (0 : Int32).toInt) := fun h9 => c_1 (Int32.lt_iff_toInt_lt.mpr h9)
            have k_11 : (255 : Int32).toInt = 255 := by decide
            have q_8 : ¬ ((255 : Int32).toInt < (nI n_1).toInt) := fun h9 => c_2 (Int32.lt_iff_toInt_lt.mpr h9)
            have q_9 : ¬ ((nI n_2).toInt < (0 : Int32).toInt) := fun h9 => c_3 (Int32.lt_iff_toInt_lt.mpr h9)
            have q_10 : ((nI n_2).toInt ≤ (255 : Int32).toInt) := Int32.le_iff_toInt_le.mp c_4
            have q_11 : (d.toInt < (0 : Int32).toInt) := Int32.lt_iff_toInt_lt.mp c_5
            exact z_ret_l B dX3_keyOf_50 ⟨(Or.inr ⟨rfl, fun h9 => by unfold KyP at h9; omega⟩), rfl, hI, (fun b9 h9 => rfl)⟩
          · obtain ⟨n_3, e_6, rfl⟩ := nI_of c_5
            refine z_iload_n B dX3_keyOf_30 rfl 2 rfl ?_
            refine z_ldc (v := 65535) B (by decide +kernel) dX3_keyOf_31 ?_
            refine z_icmp_gt (tgt := 47) B dX3_keyOf_33 rfl (fun c_6 => ?_) (fun c_6 => ?_)
            · have e_7 : 65535 < n_3 := (nI_ltI (a := 65535) (b := n_3) (by omega) (by omega)).mp c_6
              refine z_ldc2 (v := (-1)) B (by decide +kernel) dX3_keyOf_47 ?_
              have k_12 : (nI n_1).toInt = ((n_1 : Nat) : Int) := nI_toInt (by omega)
              have k_13 : (nI n_2).toInt = ((n_2 : Nat) : Int) := nI_toInt (by omega)
              have k_14 : (nI n_3).toInt = ((n_3 : Nat) : Int) := nI_toInt (by omega)
              have k_15 : (0 : Int32).toInt = 0 := by decide
              have q_12 : ¬ ((nI n_1).toInt < (0 : Int32).toInt) := fun h9 => c_1 (Int32.lt_iff_toInt_lt.mpr h9)
              have k_16 : (255 : Int32).toInt = 255 := by decide
              have q_13 : ¬ ((255 : Int32).toInt < (nI n_1).toInt) := fun h9 => c_2 (Int32.lt_iff_toInt_lt.mpr h9)
              have q_14 : ¬ ((nI n_2).toInt < (0 : Int32).toInt) := fun h9 => c_3 (Int32.lt_iff_toInt_lt.mpr h9)
              have q_15 : ((nI n_2).toInt ≤ (255 : Int32).toInt) := Int32.le_iff_toInt_le.mp c_4
              have q_16 : ¬ ((nI n_3).toInt < (0 : Int32).toInt) := fun h9 => c_5 (Int32.lt_iff_toInt_lt.mpr h9)
              have k_17 : (65535 : Int32).toInt = 65535 := by decide
              have q_17 : ((65535 : Int32).toInt < (nI n_3).toInt) := Int32.lt_iff_toInt_lt.mp c_6
              exact z_ret_l B dX3_keyOf_50 ⟨(Or.inr ⟨rfl, fun h9 => by unfold KyP at h9; omega⟩), rfl, hI, (fun b9 h9 => rfl)⟩
            · have e_8 : ¬ (65535 < n_3) := fun h9 => c_6 ((nI_ltI (a := 65535) (b := n_3) (by omega) (by omega)).mpr h9)
              refine z_iload_n B dX3_keyOf_36 rfl 3 rfl ?_
              refine z_if_lt (tgt := 47) B dX3_keyOf_37 rfl (fun c_7 => ?_) (fun c_7 => ?_)
              · refine z_ldc2 (v := (-1)) B (by decide +kernel) dX3_keyOf_47 ?_
                have k_18 : (nI n_1).toInt = ((n_1 : Nat) : Int) := nI_toInt (by omega)
                have k_19 : (nI n_2).toInt = ((n_2 : Nat) : Int) := nI_toInt (by omega)
                have k_20 : (nI n_3).toInt = ((n_3 : Nat) : Int) := nI_toInt (by omega)
                have k_21 : (0 : Int32).toInt = 0 := by decide
                have q_18 : ¬ ((nI n_1).toInt < (0 : Int32).toInt) := fun h9 => c_1 (Int32.lt_iff_toInt_lt.mpr h9)
                have k_22 : (255 : Int32).toInt = 255 := by decide
                have q_19 : ¬ ((255 : Int32).toInt < (nI n_1).toInt) := fun h9 => c_2 (Int32.lt_iff_toInt_lt.mpr h9)
                have q_20 : ¬ ((nI n_2).toInt < (0 : Int32).toInt) := fun h9 => c_3 (Int32.lt_iff_toInt_lt.mpr h9)
                have q_21 : ((nI n_2).toInt ≤ (255 : Int32).toInt) := Int32.le_iff_toInt_le.mp c_4
                have q_22 : ¬ ((nI n_3).toInt < (0 : Int32).toInt) := fun h9 => c_5 (Int32.lt_iff_toInt_lt.mpr h9)
                have k_23 : (65535 : Int32).toInt = 65535 := by decide
                have q_23 : ¬ ((65535 : Int32).toInt < (nI n_3).toInt) := fun h9 => c_6 (Int32.lt_iff_toInt_lt.mpr h9)
                have q_24 : (f.toInt < (0 : Int32).toInt) := Int32.lt_iff_toInt_lt.mp c_7
                exact z_ret_l B dX3_keyOf_50 ⟨(Or.inr ⟨rfl, fun h9 => by unfold KyP at h9; omega⟩), rfl, hI, (fun b9 h9 => rfl)⟩
              · obtain ⟨n_4, e_9, rfl⟩ := nI_of c_7
                refine z_iload_n B dX3_keyOf_40 rfl 3 rfl ?_
                refine z_sipush (v := 255) B dX3_keyOf_41 rfl ?_
                refine z_icmp_le (tgt := 51) B dX3_keyOf_44 rfl (fun c_8 => ?_) (fun c_8 => ?_)
                · have e_10 : n_4 ≤ 255 := (nI_leI (a := n_4) (b := 255) (by omega) (by omega)).mp c_8
                  refine z_iload_n B dX3_keyOf_51 rfl 0 rfl ?_
                  refine z_i2l (v := (nI n_1).toInt64) B dX3_keyOf_52 rfl ?_
                  refine z_bipush (v := 32) B dX3_keyOf_53 rfl ?_
                  refine z_lshl (v := ((nI n_1).toInt64) <<< ((32 : Int32).toInt64 &&& 63)) B dX3_keyOf_55 rfl ?_
                  refine z_iload_n B dX3_keyOf_56 rfl 1 rfl ?_
                  refine z_i2l (v := (nI n_2).toInt64) B dX3_keyOf_57 rfl ?_
                  refine z_bipush (v := 24) B dX3_keyOf_58 rfl ?_
                  refine z_lshl (v := ((nI n_2).toInt64) <<< ((24 : Int32).toInt64 &&& 63)) B dX3_keyOf_60 rfl ?_
                  refine z_lor B dX3_keyOf_61 ?_
                  refine z_iload_n B dX3_keyOf_62 rfl 2 rfl ?_
                  refine z_i2l (v := (nI n_3).toInt64) B dX3_keyOf_63 rfl ?_
                  refine z_bipush (v := 8) B dX3_keyOf_64 rfl ?_
                  refine z_lshl (v := ((nI n_3).toInt64) <<< ((8 : Int32).toInt64 &&& 63)) B dX3_keyOf_66 rfl ?_
                  refine z_lor B dX3_keyOf_67 ?_
                  refine z_iload_n B dX3_keyOf_68 rfl 3 rfl ?_
                  refine z_i2l (v := (nI n_4).toInt64) B dX3_keyOf_69 rfl ?_
                  refine z_lor B dX3_keyOf_70 ?_
                  have k_24 : (nI n_1).toInt = ((n_1 : Nat) : Int) := nI_toInt (by omega)
                  have k_25 : (nI n_2).toInt = ((n_2 : Nat) : Int) := nI_toInt (by omega)
                  have k_26 : (nI n_3).toInt = ((n_3 : Nat) : Int) := nI_toInt (by omega)
                  have k_27 : (nI n_4).toInt = ((n_4 : Nat) : Int) := nI_toInt (by omega)
                  have k_28 : (0 : Int32).toInt = 0 := by decide
                  have q_25 : ¬ ((nI n_1).toInt < (0 : Int32).toInt) := fun h9 => c_1 (Int32.lt_iff_toInt_lt.mpr h9)
                  have k_29 : (255 : Int32).toInt = 255 := by decide
                  have q_26 : ¬ ((255 : Int32).toInt < (nI n_1).toInt) := fun h9 => c_2 (Int32.lt_iff_toInt_lt.mpr h9)
                  have q_27 : ¬ ((nI n_2).toInt < (0 : Int32).toInt) := fun h9 => c_3 (Int32.lt_iff_toInt_lt.mpr h9)
                  have q_28 : ((nI n_2).toInt ≤ (255 : Int32).toInt) := Int32.le_iff_toInt_le.mp c_4
                  have q_29 : ¬ ((nI n_3).toInt < (0 : Int32).toInt) := fun h9 => c_5 (Int32.lt_iff_toInt_lt.mpr h9)
                  have k_30 : (65535 : Int32).toInt = 65535 := by decide
                  have q_30 : ¬ ((65535 : Int32).toInt < (nI n_3).toInt) := fun h9 => c_6 (Int32.lt_iff_toInt_lt.mpr h9)
                  have q_31 : ¬ ((nI n_4).toInt < (0 : Int32).toInt) := fun h9 => c_7 (Int32.lt_iff_toInt_lt.mpr h9)
                  have q_32 : ((nI n_4).toInt ≤ (255 : Int32).toInt) := Int32.le_iff_toInt_le.mp c_8
                  have hk9 : KyP (nI n_1) (nI n_2) (nI n_3) (nI n_4) := by unfold KyP; omega
                  exact z_ret_l B dX3_keyOf_71 ⟨(Or.inl ⟨congrArg (fun w9 : Int64 => some (Value.long w9)) ((keyF_ok hk9).symm.trans (keyF_N hk9).1), hk9⟩), rfl, hI, (fun b9 h9 => rfl)⟩
                · have e_11 : ¬ (n_4 ≤ 255) := fun h9 => c_8 ((nI_leI (a := n_4) (b := 255) (by omega) (by omega)).mpr h9)
                  refine z_ldc2 (v := (-1)) B (by decide +kernel) dX3_keyOf_47 ?_
                  have k_31 : (nI n_1).toInt = ((n_1 : Nat) : Int) := nI_toInt (by omega)
                  have k_32 : (nI n_2).toInt = ((n_2 : Nat) : Int) := nI_toInt (by omega)
                  have k_33 : (nI n_3).toInt = ((n_3 : Nat) : Int) := nI_toInt (by omega)
                  have k_34 : (nI n_4).toInt = ((n_4 : Nat) : Int) := nI_toInt (by omega)
                  have k_35 : (0 : Int32).toInt = 0 := by decide
                  have q_33 : ¬ ((nI n_1).toInt < (0 : Int32).toInt) := fun h9 => c_1 (Int32.lt_iff_toInt_lt.mpr h9)
                  have k_36 : (255 : Int32).toInt = 255 := by decide
                  have q_34 : ¬ ((255 : Int32).toInt < (nI n_1).toInt) := fun h9 => c_2 (Int32.lt_iff_toInt_lt.mpr h9)
                  have q_35 : ¬ ((nI n_2).toInt < (0 : Int32).toInt) := fun h9 => c_3 (Int32.lt_iff_toInt_lt.mpr h9)
                  have q_36 : ((nI n_2).toInt ≤ (255 : Int32).toInt) := Int32.le_iff_toInt_le.mp c_4
                  have q_37 : ¬ ((nI n_3).toInt < (0 : Int32).toInt) := fun h9 => c_5 (Int32.lt_iff_toInt_lt.mpr h9)
                  have k_37 : (65535 : Int32).toInt = 65535 := by decide
                  have q_38 : ¬ ((65535 : Int32).toInt < (nI n_3).toInt) := fun h9 => c_6 (Int32.lt_iff_toInt_lt.mpr h9)
                  have q_39 : ¬ ((nI n_4).toInt < (0 : Int32).toInt) := fun h9 => c_7 (Int32.lt_iff_toInt_lt.mpr h9)
                  have q_40 : ¬ ((nI n_4).toInt ≤ (255 : Int32).toInt) := fun h9 => c_8 (Int32.le_iff_toInt_le.mpr h9)
                  exact z_ret_l B dX3_keyOf_50 ⟨(Or.inr ⟨rfl, fun h9 => by unfold KyP at h9; omega⟩), rfl, hI, (fun b9 h9 => rfl)⟩
        · have e_12 : ¬ (n_2 ≤ 255) := fun h9 => c_4 ((nI_leI (a := n_2) (b := 255) (by omega) (by omega)).mpr h9)
          refine z_ldc2 (v := (-1)) B (by decide +kernel) dX3_keyOf_22 ?_
          have k_38 : (nI n_1).toInt = ((n_1 : Nat) : Int) := nI_toInt (by omega)
          have k_39 : (nI n_2).toInt = ((n_2 : Nat) : Int) := nI_toInt (by omega)
          have k_40 : (0 : Int32).toInt = 0 := by decide
          have q_41 : ¬ ((nI n_1).toInt < (0 : Int32).toInt) := fun h9 => c_1 (Int32.lt_iff_toInt_lt.mpr h9)
          have k_41 : (255 : Int32).toInt = 255 := by decide
          have q_42 : ¬ ((255 : Int32).toInt < (nI n_1).toInt) := fun h9 => c_2 (Int32.lt_iff_toInt_lt.mpr h9)
          have q_43 : ¬ ((nI n_2).toInt < (0 : Int32).toInt) := fun h9 => c_3 (Int32.lt_iff_toInt_lt.mpr h9)
          have q_44 : ¬ ((nI n_2).toInt ≤ (255 : Int32).toInt) := fun h9 => c_4 (Int32.le_iff_toInt_le.mpr h9)
          exact z_ret_l B dX3_keyOf_25 ⟨(Or.inr ⟨rfl, fun h9 => by unfold KyP at h9; omega⟩), rfl, hI, (fun b9 h9 => rfl)⟩

set_option maxHeartbeats 4000000 in
set_option maxRecDepth 100000 in
theorem s_X11_requireWhatX (G : EnvG) (l : Launch) (hl9 : l.stackTraces = false) (Φ : Hm) (sz x ca : Nat) (a : Int32) (hx : G.2.2.2 ≤ x) (hI : In G x ca Φ)  : CtB G l yX11_requireWhat wsX11_requireWhat ({ frames := 6, cells := 1, slots := 6, locals := 81 }) 1 6 [.int a] Φ sz (fun v Φ1 sz1 => (v = none ∧ (a = 0 ∨ a = 1)) ∧ sz1 = sz ∧ In G x (ca) Φ1 ∧ Fr x (fun j9 => False) Φ Φ1) (fun Φ1 => (¬ (a = 0 ∨ a = 1)) ∧ In G x ca Φ1 ∧ Fr x (fun j9 => False) Φ Φ1) [xIA] := by
  refine CtB.of (cc := cX11_requireWhat) (maxL := 1) (ret := none) (by decide) rfl (Nat.le_of_ble_eq_true rfl) ?_
  intro p9 e9 s9 m9 w9 t9 k9 B htab9
  show Z p9 l e9 _ s9 m9 _ w9 t9 k9 _ G 1 0 [(0, .int a)] [] Φ sz 0 0
  refine z_iload_n B dX11_requireWhat_0 rfl 0 rfl ?_
  refine z_if_eq (tgt := 17) B dX11_requireWhat_1 rfl (fun c_1 => ?_) (fun c_1 => ?_)
  · exact zb_ret (Nat.le_of_ble_eq_true rfl) (Nat.le_of_ble_eq_true rfl) (z_ret_v B dX11_requireWhat_17 ⟨⟨rfl, Or.inl c_1⟩, rfl, hI, (fun b9 h9 => rfl)⟩)
  · refine z_iload_n B dX11_requireWhat_4 rfl 0 rfl ?_
    refine z_iconst (v := 1) B dX11_requireWhat_5 rfl ?_
    refine z_icmp_eq (tgt := 17) B dX11_requireWhat_6 rfl (fun c_2 => ?_) (fun c_2 => ?_)
    · exact zb_ret (Nat.le_of_ble_eq_true rfl) (Nat.le_of_ble_eq_true rfl) (z_ret_v B dX11_requireWhat_17 ⟨⟨rfl, Or.inr c_2⟩, rfl, hI, (fun b9 h9 => rfl)⟩)
    · exact zb_throw (cls := xIA) (ik := 116) (ic := 118) B hl9 htab9 (by decide) ⟨(fun h9 => h9.elim c_1 c_2), hI, (fun b9 h9 => rfl)⟩ (by decide) (by decide +kernel) (by decide +kernel) (by decide +kernel) (by decide +kernel) (by decide +kernel) (by decide +kernel) (by decide +kernel) dX11_requireWhat_9 dX11_requireWhat_12 dX11_requireWhat_13 dX11_requireWhat_16 ⟨Nat.le_of_ble_eq_true rfl, Nat.le_of_ble_eq_true rfl, Nat.le_of_ble_eq_true rfl, Nat.le_of_ble_eq_true rfl⟩ ⟨Nat.le_of_ble_eq_true rfl, Nat.le_of_ble_eq_true rfl⟩

set_option maxHeartbeats 4000000 in
set_option maxRecDepth 100000 in
theorem s_X2_trueValueX (G : EnvG) (l : Launch) (Φ : Hm) (sz x ca : Nat) (tm : Nat) (r : Nat) (w : Nat) (aq : Int32) (xp : Int32) (xb : Int32) (ob : Int64) (sm : Int64) (un : UN) (nT : Nat) (Ft : Nat → Fl) (pt : Nat → Nat) (K : Nat) (a : Int32) (hx : G.2.2.2 ≤ x) (hI : In G x ca Φ) (hc0 : Φ (x + 80) = some (o_ 4 [.ref (x + 3), .ref (x + 74), .ref (x + 81), .ref (x + 95), .int (nI tm), .int (nI r), .int (nI w), .int aq, .int xp, .int xb, .long ob, .long sm, .long (un.1)])) (hc1 : Φ (x + 95) = some (o_ 6 [.ref (x + 96), .int (nI nT)])) (hcf0 : TbT G x nT 99 Ft pt Φ) (hnT : nT ≤ 24) (hK : K < 2 ^ 40) : Ct G l yX2_trueValue wsX2_trueValue ({ frames := 1, cells := 0, slots := 0, locals := 23 }) 0 0 [.ref (x + 80), .long (Int64.ofNat K), .int a] Φ sz (fun v Φ1 sz1 => (v = some (.long (trL K a (nT, Ft)))) ∧ sz1 = sz ∧ In G x (ca) Φ1 ∧ Fr x (fun j9 => False) Φ Φ1) := by
  refine Ct.of (cc := cX2_trueValue) (maxL := 5) (ret := (some .long)) (by decide) rfl (Nat.le_of_ble_eq_true rfl) ?_
  intro p9 e9 s9 m9 w9 t9 k9 B
  show Z p9 l e9 _ s9 m9 _ w9 t9 k9 _ G 5 0 [(0, .ref (x + 80)), (1, .long (Int64.ofNat K)), (3, .int a)] [] Φ sz 0 0
  refine z_aload_n B dX2_trueValue_0 rfl 0 rfl ?_
  refine z_get (ref := "FlowExporter$Exporter") (C := RX2) (T := TX2) (N := 13) (ci := 4) (v := .ref (x + 95)) B hu_X2_trueValue_X2 rfl 3 (Nat.le_of_ble_eq_true rfl) hv_X2_trueValue_20 rfl hc0 rfl dX2_trueValue_1 ?_
  refine z_lload_n B dX2_trueValue_4 rfl 1 rfl ?_
  refine z_callV (As := [.long (Int64.ofNat K)]) (rest := []) B (s_X4_indexOf_95 G l Φ sz x (ca) nT Ft pt K hx hI hc1 hcf0 (show nT ≤ 24 by omega) (show K < 2 ^ 40 by omega)) (cwV 1 B.1.2.2.2.2 gX2_trueValue_X4_indexOf rfl rfl rfl (by decide +kernel) ⟨Nat.le_of_ble_eq_true rfl, Nat.le_of_ble_eq_true rfl⟩) hc1 rfl rfl rfl rfl (Nat.le_of_ble_eq_true rfl) dX2_trueValue_5 ⟨Nat.le_of_ble_eq_true rfl, Nat.le_of_ble_eq_true rfl⟩ (fun r_1 Φ1 sz1 st1 hp1 hs1 => ?_)
  obtain ⟨ha1, hq1, hI1, hF1⟩ := hp1
  subst sz1
  replace hI1 : In G x (ca) Φ1 := hI1
  rcases ha1 with ⟨rfl, e_1⟩ | ⟨rfl, e_2⟩
  · replace e_1 : ¬ ixN Ft K nT < nT := e_1
    replace hs1 : st1 = [.int (-1)] := hs1
    subst st1
    refine z_istore (lv' := [(4, .int (-1)), (0, .ref (x + 80)), (1, .long (Int64.ofNat K)), (3, .int a)]) B dX2_trueValue_8 (Nat.le_of_ble_eq_true rfl) rfl ?_
    refine z_iload B dX2_trueValue_10 0 rfl ?_
    refine z_iconst (v := (-1)) B dX2_trueValue_12 rfl ?_
    refine z_icmp_ne (tgt := 20) B dX2_trueValue_13 rfl (fun h9 => absurd (by decide) h9) (fun c_1 => ?_)
    refine z_lconst (v := 0) B dX2_trueValue_16 rfl ?_
    refine z_goto (tgt := 41) B dX2_trueValue_17 rfl ?_
    exact z_ret_l B dX2_trueValue_41 ⟨(congrArg (fun w9 : Int64 => some (Value.long w9)) (trL_n (by omega)).symm), rfl, hI1, (fun b9 h9 => ((hF1 b9 (fun j9 h8 h7 => (show False from h7).elim)).trans rfl))⟩
  · replace e_2 : ixN Ft K nT < nT := e_2
    replace hs1 : st1 = [.int (nI (ixN Ft K nT))] := hs1
    subst st1
    refine z_istore (lv' := [(4, .int (nI (ixN Ft K nT))), (0, .ref (x + 80)), (1, .long (Int64.ofNat K)), (3, .int a)]) B dX2_trueValue_8 (Nat.le_of_ble_eq_true rfl) rfl ?_
    refine z_iload B dX2_trueValue_10 0 rfl ?_
    refine z_iconst (v := (-1)) B dX2_trueValue_12 rfl ?_
    refine z_icmp_ne (tgt := 20) B dX2_trueValue_13 rfl (fun c_2 => ?_) (fun h9 => absurd h9 (nI_nm1x (n := ixN Ft K nT) (by omega)))
    refine z_aload_n B dX2_trueValue_20 rfl 1 rfl ?_
    have h_1 : Φ1 (x + 80) = some (o_ 4 [.ref (x + 3), .ref (x + 74), .ref (x + 81), .ref (x + 95), .int (nI tm), .int (nI r), .int (nI w), .int aq, .int xp, .int xb, .long ob, .long sm, .long (un.1)]) := ((hF1 (x + 80) (fun j9 h8 h7 => (show False from h7).elim)).trans hc0)
    refine z_get (ref := "FlowExporter$Exporter") (C := RX2) (T := TX2) (N := 13) (ci := 4) (v := .ref (x + 95)) B hu_X2_trueValue_X2 rfl 3 (Nat.le_of_ble_eq_true rfl) hv_X2_trueValue_20 rfl h_1 rfl dX2_trueValue_21 ?_
    refine z_iload B dX2_trueValue_24 0 rfl ?_
    have hcg1 : TbT G x nT 99 Ft pt Φ1 := (TbT.fr hcf0 hF1 (fun j9 h7 => (show False from h7).elim))
    have e_3 := TbR.fl hcg1 (show ixN Ft K nT < nT by omega) (show ¬ ixN Ft K nT = 99 by omega)
    have b_1 : (Ft (ixN Ft K nT)).1 < 2 ^ 40 ∧ (Ft (ixN Ft K nT)).2.2.2.1 ≤ 1000000 ∧ (Ft (ixN Ft K nT)).2.2.2.2 ≤ 1000000 := e_3.1
    have h_2 : Φ1 (x + (97 + pt (ixN Ft K nT))) = some (o_ 5 [.long (Int64.ofNat (Ft (ixN Ft K nT)).1), .long ((Ft (ixN Ft K nT)).2.1), .long ((Ft (ixN Ft K nT)).2.2.1), .int (nI ((Ft (ixN Ft K nT)).2.2.2.1)), .int (nI ((Ft (ixN Ft K nT)).2.2.2.2))]) := e_3.2
    have h_3 : Φ1 (x + 95) = some (o_ 6 [.ref (x + 96), .int (nI nT)]) := ((hF1 (x + 95) (fun j9 h8 h7 => (show False from h7).elim)).trans hc1)
    refine z_callV (As := [.int (nI (ixN Ft K nT))]) (rest := []) B (s_X4_flowAt_95 G l Φ1 sz x (ca) nT 99 Ft pt (ixN Ft K nT) hx hI1 h_3 hcg1 (show (ixN Ft K nT) < 24 by omega)) (cwV 1 B.1.2.2.2.2 gX2_trueValue_X4_flowAt rfl rfl rfl (by decide +kernel) ⟨Nat.le_of_ble_eq_true rfl, Nat.le_of_ble_eq_true rfl⟩) h_3 rfl rfl rfl rfl (Nat.le_of_ble_eq_true rfl) dX2_trueValue_26 ⟨Nat.le_of_ble_eq_true rfl, Nat.le_of_ble_eq_true rfl⟩ (fun r_2 Φ2 sz2 st2 hp2 hs2 => ?_)
    obtain ⟨rfl, hq2, hI2, hF2⟩ := hp2
    subst sz2
    replace hs2 : st2 = [.ref (x + (97 + pt (ixN Ft K nT)))] := hs2
    subst st2
    replace hI2 : In G x (ca) Φ2 := hI2
    refine z_iload_n B dX2_trueValue_29 rfl 3 rfl ?_
    refine z_if_ne (tgt := 37) B dX2_trueValue_30 rfl (fun c_3 => ?_) (fun c_3 => ?_)
    · refine z_iconst (v := 5) B dX2_trueValue_37 rfl ?_
      have h_4 : Φ2 (x + (97 + pt (ixN Ft K nT))) = some (o_ 5 [.long (Int64.ofNat (Ft (ixN Ft K nT)).1), .long ((Ft (ixN Ft K nT)).2.1), .long ((Ft (ixN Ft K nT)).2.2.1), .int (nI ((Ft (ixN Ft K nT)).2.2.2.1)), .int (nI ((Ft (ixN Ft K nT)).2.2.2.2))]) := ((hF2 (x + (97 + pt (ixN Ft K nT))) (fun j9 h8 h7 => (show False from h7).elim)).trans h_2)
      refine z_callV (As := [.int 5]) (rest := []) B (s_X3_value5X G l Φ2 sz x (ca) ((Ft (ixN Ft K nT)).1) ((Ft (ixN Ft K nT)).2.1) ((Ft (ixN Ft K nT)).2.2.1) ((Ft (ixN Ft K nT)).2.2.2.1) ((Ft (ixN Ft K nT)).2.2.2.2) (97 + pt (ixN Ft K nT)) hx hI2 (kd_f (k := 96) rfl (show pt (ixN Ft K nT) < 24 from TbR.lt hcg1 (by omega))) h_4 (show ((Ft (ixN Ft K nT)).1) < 2 ^ 40 by omega)) (cwV 1 B.1.2.2.2.2 gX2_trueValue_X3_value rfl rfl rfl (by decide +kernel) ⟨Nat.le_of_ble_eq_true rfl, Nat.le_of_ble_eq_true rfl⟩) h_4 rfl rfl rfl rfl (Nat.le_of_ble_eq_true rfl) dX2_trueValue_38 ⟨Nat.le_of_ble_eq_true rfl, Nat.le_of_ble_eq_true rfl⟩ (fun r_3 Φ3 sz3 st3 hp3 hs3 => ?_)
      obtain ⟨rfl, hq3, hI3, hF3⟩ := hp3
      subst sz3
      replace hs3 : st3 = [.long ((Ft (ixN Ft K nT)).2.2.1)] := hs3
      subst st3
      replace hI3 : In G x (ca) Φ3 := hI3
      exact z_ret_l B dX2_trueValue_41 ⟨(congrArg (fun w9 : Int64 => some (Value.long w9)) ((trL_f (w := a) (by omega)).trans (if_neg c_3)).symm), rfl, hI3, (fun b9 h9 => ((hF3 b9 (fun j9 h8 h7 => (show False from h7).elim)).trans ((hF2 b9 (fun j9 h8 h7 => (show False from h7).elim)).trans ((hF1 b9 (fun j9 h8 h7 => (show False from h7).elim)).trans rfl))))⟩
    · refine z_iconst (v := 4) B dX2_trueValue_33 rfl ?_
      refine z_goto (tgt := 38) B dX2_trueValue_34 rfl ?_
      have h_5 : Φ2 (x + (97 + pt (ixN Ft K nT))) = some (o_ 5 [.long (Int64.ofNat (Ft (ixN Ft K nT)).1), .long ((Ft (ixN Ft K nT)).2.1), .long ((Ft (ixN Ft K nT)).2.2.1), .int (nI ((Ft (ixN Ft K nT)).2.2.2.1)), .int (nI ((Ft (ixN Ft K nT)).2.2.2.2))]) := ((hF2 (x + (97 + pt (ixN Ft K nT))) (fun j9 h8 h7 => (show False from h7).elim)).trans h_2)
      refine z_callV (As := [.int 4]) (rest := []) B (s_X3_value4X G l Φ2 sz x (ca) ((Ft (ixN Ft K nT)).1) ((Ft (ixN Ft K nT)).2.1) ((Ft (ixN Ft K nT)).2.2.1) ((Ft (ixN Ft K nT)).2.2.2.1) ((Ft (ixN Ft K nT)).2.2.2.2) (97 + pt (ixN Ft K nT)) hx hI2 (kd_f (k := 96) rfl (show pt (ixN Ft K nT) < 24 from TbR.lt hcg1 (by omega))) h_5 (show ((Ft (ixN Ft K nT)).1) < 2 ^ 40 by omega)) (cwV 1 B.1.2.2.2.2 gX2_trueValue_X3_value rfl rfl rfl (by decide +kernel) ⟨Nat.le_of_ble_eq_true rfl, Nat.le_of_ble_eq_true rfl⟩) h_5 rfl rfl rfl rfl (Nat.le_of_ble_eq_true rfl) dX2_trueValue_38 ⟨Nat.le_of_ble_eq_true rfl, Nat.le_of_ble_eq_true rfl⟩ (fun r_4 Φ4 sz4 st4 hp4 hs4 => ?_)
      obtain ⟨rfl, hq4, hI4, hF4⟩ := hp4
      subst sz4
      replace hs4 : st4 = [.long ((Ft (ixN Ft K nT)).2.1)] := hs4
      subst st4
      replace hI4 : In G x (ca) Φ4 := hI4
      exact z_ret_l B dX2_trueValue_41 ⟨(congrArg (fun w9 : Int64 => some (Value.long w9)) ((trL_f (w := a) (by omega)).trans (if_pos c_3)).symm), rfl, hI4, (fun b9 h9 => ((hF4 b9 (fun j9 h8 h7 => (show False from h7).elim)).trans ((hF2 b9 (fun j9 h8 h7 => (show False from h7).elim)).trans ((hF1 b9 (fun j9 h8 h7 => (show False from h7).elim)).trans rfl))))⟩

set_option maxHeartbeats 4000000 in
set_option maxRecDepth 100000 in
theorem s_X11_truthX (G : EnvG) (l : Launch) (hl9 : l.stackTraces = false) (Φ : Hm) (sz x ca : Nat) (tm : Nat) (r : Nat) (w : Nat) (aq : Int32) (xp : Int32) (xb : Int32) (ob : Int64) (sm : Int64) (un : UN) (nT : Nat) (Ft : Nat → Fl) (pt : Nat → Nat) (a : Int32) (b : Int32) (d : Int32) (f : Int32) (g : Int32) (hx : G.2.2.2 ≤ x) (hI : In G x ca Φ) (hc0 : Φ (x + 80) = some (o_ 4 [.ref (x + 3), .ref (x + 74), .ref (x + 81), .ref (x + 95), .int (nI tm), .int (nI r), .int (nI w), .int aq, .int xp, .int xb, .long ob, .long sm, .long (un.1)])) (hc1 : Φ (x + 95) = some (o_ 6 [.ref (x + 96), .int (nI nT)])) (hcf0 : TbT G x nT 99 Ft pt Φ) (hnT : nT ≤ 24) : CtB G l yX11_truth wsX11_truth ({ frames := 7, cells := 1, slots := 6, locals := 101 }) 1 6 [.ref x, .int a, .int b, .int d, .int f, .int g] Φ sz (fun v Φ1 sz1 => (v = some (.long (trU a b d f g (nT, Ft))) ∧ (g = 0 ∨ g = 1)) ∧ sz1 = sz ∧ In G x (ca) Φ1 ∧ Fr x (fun j9 => False) Φ Φ1) (fun Φ1 => (¬ (g = 0 ∨ g = 1)) ∧ In G x ca Φ1 ∧ Fr x (fun j9 => False) Φ Φ1) [xIA] := by
  refine CtB.of (cc := cX11_truth) (maxL := 6) (ret := (some .long)) (by decide) rfl (Nat.le_of_ble_eq_true rfl) ?_
  intro p9 e9 s9 m9 w9 t9 k9 B htab9
  show Z p9 l e9 _ s9 m9 _ w9 t9 k9 _ G 6 0 [(0, .ref x), (1, .int a), (2, .int b), (3, .int d), (4, .int f), (5, .int g)] [] Φ sz 0 0
  refine z_iload B dX11_truth_0 5 rfl ?_
  refine zb_callS (As := [.int g]) (rest := []) B htab9 (s_X11_requireWhatX G l hl9 Φ sz x (ca) g hx hI ) (va_cwS 1 B.1.2.2.2.2 gX11_truth_X11_requireWhat rfl rfl rfl (by decide +kernel) ⟨Nat.le_of_ble_eq_true rfl, Nat.le_of_ble_eq_true rfl⟩) rfl rfl (Nat.le_of_ble_eq_true rfl) dX11_truth_2 ⟨Nat.le_of_ble_eq_true rfl, Nat.le_of_ble_eq_true rfl⟩ ⟨Nat.le_of_ble_eq_true rfl, Nat.le_of_ble_eq_true rfl⟩ (by decide) (fun Φ9 h9 => ⟨h9.1, h9.2.1, fun b9 h8 => ((h9.2.2 b9 h8).trans ((fun b9 h9 => rfl) b9 h8))⟩) (fun r_1 Φ1 sz1 st1 hp1 hs1 => ?_)
  obtain ⟨⟨rfl, b_1⟩, hq1, hI1, hF1⟩ := hp1
  subst sz1
  replace hs1 : st1 = [] := hs1
  subst st1
  replace hI1 : In G x (ca) Φ1 := hI1
  replace b_1 : g = 0 ∨ g = 1 := b_1
  refine z_aload_n B dX11_truth_5 rfl 0 rfl ?_
  have h_1 := in0 (k := 0) hI1 rfl
  have h_2 : Φ1 x = some (o_ 13 [.ref (x + 1), .ref (x + 3), .ref (x + 24), .ref (x + 46), .ref (x + 74), .ref (x + 80), .ref (x + 132), .ref (x + 121)]) := h_1
  refine z_get (ref := "FlowExporter") (C := RX11) (T := TX11) (N := 8) (ci := 13) (v := .ref (x + 80)) B hu_X11_truth_X11 rfl 5 (Nat.le_of_ble_eq_true rfl) hv_X11_truth_55 rfl h_2 rfl dX11_truth_6 ?_
  refine z_iload_n B dX11_truth_9 rfl 1 rfl ?_
  refine z_iload_n B dX11_truth_10 rfl 2 rfl ?_
  refine z_iload_n B dX11_truth_11 rfl 3 rfl ?_
  refine z_iload B dX11_truth_12 4 rfl ?_
  refine z_callS (As := [.int a, .int b, .int d, .int f]) (rest := [.ref (x + 80)]) B (s_X3_keyOfX G l Φ1 sz x (ca) a b d f hx hI1 ) (va_cwS 4 B.1.2.2.2.2 gX11_truth_X3_keyOf rfl rfl rfl (by decide +kernel) ⟨Nat.le_of_ble_eq_true rfl, Nat.le_of_ble_eq_true rfl⟩) rfl rfl (Nat.le_of_ble_eq_true rfl) dX11_truth_14 ⟨Nat.le_of_ble_eq_true rfl, Nat.le_of_ble_eq_true rfl⟩ (fun r_2 Φ2 sz2 st2 hp2 hs2 => ?_)
  obtain ⟨ha1, hq2, hI2, hF2⟩ := hp2
  subst sz2
  replace hI2 : In G x (ca) Φ2 := hI2
  rcases ha1 with ⟨rfl, e_1⟩ | ⟨rfl, e_2⟩
  · replace e_1 : KyP a b d f := e_1
    replace hs2 : st2 = [.long (Int64.ofNat (kyN a b d f)), .ref (x + 80)] := hs2
    subst st2
    refine z_iload B dX11_truth_17 5 rfl ?_
    have h_3 : Φ2 (x + 80) = some (o_ 4 [.ref (x + 3), .ref (x + 74), .ref (x + 81), .ref (x + 95), .int (nI tm), .int (nI r), .int (nI w), .int aq, .int xp, .int xb, .long ob, .long sm, .long (un.1)]) := ((hF2 (x + 80) (fun j9 h8 h7 => (show False from h7).elim)).trans ((hF1 (x + 80) (fun j9 h8 h7 => (show False from h7).elim)).trans hc0))
    have h_4 : Φ2 (x + 95) = some (o_ 6 [.ref (x + 96), .int (nI nT)]) := ((hF2 (x + 95) (fun j9 h8 h7 => (show False from h7).elim)).trans ((hF1 (x + 95) (fun j9 h8 h7 => (show False from h7).elim)).trans hc1))
    have hcg1 : TbT G x nT 99 Ft pt Φ2 := (TbT.fr (TbT.fr hcf0 hF1 (fun j9 h7 => (show False from h7).elim)) hF2 (fun j9 h7 => (show False from h7).elim))
    refine z_callV (As := [.long (Int64.ofNat (kyN a b d f)), .int g]) (rest := []) B (s_X2_trueValueX G l Φ2 sz x (ca) tm r w aq xp xb ob sm un nT Ft pt (kyN a b d f) g hx hI2 h_3 h_4 hcg1 (show nT ≤ 24 by omega) (keyF_N e_1).2) (cwV 2 B.1.2.2.2.2 gX11_truth_X2_trueValue rfl rfl rfl (by decide +kernel) ⟨Nat.le_of_ble_eq_true rfl, Nat.le_of_ble_eq_true rfl⟩) h_3 rfl rfl rfl rfl (Nat.le_of_ble_eq_true rfl) dX11_truth_19 ⟨Nat.le_of_ble_eq_true rfl, Nat.le_of_ble_eq_true rfl⟩ (fun r_3 Φ3 sz3 st3 hp3 hs3 => ?_)
    obtain ⟨rfl, hq3, hI3, hF3⟩ := hp3
    subst sz3
    replace hs3 : st3 = [.long (trL (kyN a b d f) g (nT, Ft))] := hs3
    subst st3
    replace hI3 : In G x (ca) Φ3 := hI3
    exact zb_ret (Nat.le_of_ble_eq_true rfl) (Nat.le_of_ble_eq_true rfl) (z_ret_l B dX11_truth_22 ⟨⟨(congrArg (fun w9 : Int64 => some (Value.long w9)) (trU_y e_1).symm), b_1⟩, rfl, hI3, (fun b9 h9 => ((hF3 b9 (fun j9 h8 h7 => (show False from h7).elim)).trans ((hF2 b9 (fun j9 h8 h7 => (show False from h7).elim)).trans ((hF1 b9 (fun j9 h8 h7 => (show False from h7).elim)).trans rfl))))⟩)
  · replace e_2 : ¬ KyP a b d f := e_2
    replace hs2 : st2 = [.long (-1), .ref (x + 80)] := hs2
    subst st2
    refine z_iload B dX11_truth_17 5 rfl ?_
    have h_5 : Φ2 (x + 80) = some (o_ 4 [.ref (x + 3), .ref (x + 74), .ref (x + 81), .ref (x + 95), .int (nI tm), .int (nI r), .int (nI w), .int aq, .int xp, .int xb, .long ob, .long sm, .long (un.1)]) := ((hF2 (x + 80) (fun j9 h8 h7 => (show False from h7).elim)).trans ((hF1 (x + 80) (fun j9 h8 h7 => (show False from h7).elim)).trans hc0))
    have h_6 : Φ2 (x + 95) = some (o_ 6 [.ref (x + 96), .int (nI nT)]) := ((hF2 (x + 95) (fun j9 h8 h7 => (show False from h7).elim)).trans ((hF1 (x + 95) (fun j9 h8 h7 => (show False from h7).elim)).trans hc1))
    have hcg2 : TbT G x nT 99 Ft pt Φ2 := (TbT.fr (TbT.fr hcf0 hF1 (fun j9 h7 => (show False from h7).elim)) hF2 (fun j9 h7 => (show False from h7).elim))
    refine z_callV (As := [.long (-1), .int g]) (rest := []) B (s_X2_trueValue_m G l Φ2 sz x (ca) tm r w aq xp xb ob sm un nT Ft pt g hx hI2 h_5 h_6 hcg2 (show nT ≤ 24 by omega)) (cwV 2 B.1.2.2.2.2 gX11_truth_X2_trueValue rfl rfl rfl (by decide +kernel) ⟨Nat.le_of_ble_eq_true rfl, Nat.le_of_ble_eq_true rfl⟩) h_5 rfl rfl rfl rfl (Nat.le_of_ble_eq_true rfl) dX11_truth_19 ⟨Nat.le_of_ble_eq_true rfl, Nat.le_of_ble_eq_true rfl⟩ (fun r_4 Φ4 sz4 st4 hp4 hs4 => ?_)
    obtain ⟨rfl, hq4, hI4, hF4⟩ := hp4
    subst sz4
    replace hs4 : st4 = [.long 0] := hs4
    subst st4
    replace hI4 : In G x (ca) Φ4 := hI4
    exact zb_ret (Nat.le_of_ble_eq_true rfl) (Nat.le_of_ble_eq_true rfl) (z_ret_l B dX11_truth_22 ⟨⟨(congrArg (fun w9 : Int64 => some (Value.long w9)) (trU_n e_2).symm), b_1⟩, rfl, hI4, (fun b9 h9 => ((hF4 b9 (fun j9 h8 h7 => (show False from h7).elim)).trans ((hF2 b9 (fun j9 h8 h7 => (show False from h7).elim)).trans ((hF1 b9 (fun j9 h8 h7 => (show False from h7).elim)).trans rfl))))⟩)

set_option maxHeartbeats 4000000 in
set_option maxRecDepth 100000 in
theorem s_X2_clearX (G : EnvG) (l : Launch) (Φ : Hm) (sz x ca : Nat) (nw : Int32) (rt : Int32) (dw : Int32) (aq : Int32) (xp : Int32) (xb : Int32) (ob : Int64) (sm : Int64) (un : Int64) (n : Nat) (Fs : Nat → Fl) (pp : Nat → Nat) (nT : Nat) (Ft : Nat → Fl) (pt : Nat → Nat) (t : Nat) (s : Nat) (c : Cf) (hx : G.2.2.2 ≤ x) (hI : In G x ca Φ) (hc0 : Φ (x + 80) = some (o_ 4 [.ref (x + 3), .ref (x + 74), .ref (x + 81), .ref (x + 95), .int nw, .int rt, .int dw, .int aq, .int xp, .int xb, .long ob, .long sm, .long un])) (hc1 : Φ (x + 81) = some (o_ 6 [.ref (x + 82), .int (nI n)])) (hc2 : Φ (x + 95) = some (o_ 6 [.ref (x + 96), .int (nI nT)])) (hcf0 : TbC G x n 99 Fs pp Φ) (hcf1 : TbT G x nT 99 Ft pt Φ) (hcf2 : CfA G x t s c Φ) (had : aq = 0 ∨ aq = 1) : Ct G l yX2_clear wsX2_clear ({ frames := 1, cells := 0, slots := 0, locals := 21 }) 0 0 [.ref (x + 80)] Φ sz (fun v Φ1 sz1 => (v = none ∧ Φ1 (x + 80) = some (o_ 4 [.ref (x + 3), .ref (x + 74), .ref (x + 81), .ref (x + 95), .int 0, .int (c 0), .int 1, .int 0, .int 0, .int 0, .long 0, .long 0, .long 0]) ∧ Φ1 (x + 81) = some (o_ 6 [.ref (x + 82), .int (nI 0)]) ∧ Φ1 (x + 95) = some (o_ 6 [.ref (x + 96), .int (nI 0)]) ∧ TbC G x 0 99 Fz pp Φ1 ∧ TbT G x 0 99 Fz pt Φ1) ∧ sz1 = sz ∧ In G x (ca) Φ1 ∧ Fr x (fun j9 => j9 = 80 ∨ j9 = 81 ∨ j9 = 95) Φ Φ1) := by
  refine Ct.of (cc := cX2_clear) (maxL := 1) (ret := none) (by decide) rfl (Nat.le_of_ble_eq_true rfl) ?_
  intro p9 e9 s9 m9 w9 t9 k9 B
  show Z p9 l e9 _ s9 m9 _ w9 t9 k9 _ G 1 0 [(0, .ref (x + 80))] [] Φ sz 0 0
  refine z_aload_n B dX2_clear_0 rfl 0 rfl ?_
  refine z_get (ref := "FlowExporter$Exporter") (C := RX2) (T := TX2) (N := 13) (ci := 4) (v := .ref (x + 81)) B hu_X2_clear_X2 rfl 2 (Nat.le_of_ble_eq_true rfl) hv_X2_clear_14 rfl hc0 rfl dX2_clear_1 ?_
  refine z_iconst (v := 0) B dX2_clear_4 rfl ?_
  refine z_put (ref := "FlowExporter$FlowTable") (C := RX4) (T := TX4) (N := 2) (ci := 6) (v := .int 0) B hu_X2_clear_X4 tyX4 tyX4_ok nmX4 rfl 1 (Nat.le_of_ble_eq_true rfl) hv_X2_clear_61 rfl (Or.inl rfl) hc1 (Nat.le_trans hx (Nat.le_add_right x 81)) rfl rfl (Nat.le_of_ble_eq_true rfl) dX2_clear_5 (fun Φ1 hΦ1 => ?_)
  have h_1 : Φ1 (x + 81) = some (o_ 6 [.ref (x + 82), .int 0]) := fset_at hΦ1
  have hI1 : In G x (ca) Φ1 := In.put (k := 81) hI hΦ1 (ok17 (k := 81) rfl ⟨0, rfl, (show 0 ≤ 12 by omega)⟩)
  refine z_aload_n B dX2_clear_8 rfl 0 rfl ?_
  have h_2 : Φ1 (x + 80) = some (o_ 4 [.ref (x + 3), .ref (x + 74), .ref (x + 81), .ref (x + 95), .int nw, .int rt, .int dw, .int aq, .int xp, .int xb, .long ob, .long sm, .long un]) := ((fset_fr hΦ1 (ne_off (x := x) (i := 80) (j := 81) rfl)).trans hc0)
  refine z_get (ref := "FlowExporter$Exporter") (C := RX2) (T := TX2) (N := 13) (ci := 4) (v := .ref (x + 95)) B hu_X2_clear_X2 rfl 3 (Nat.le_of_ble_eq_true rfl) hv_X2_clear_20 rfl h_2 rfl dX2_clear_9 ?_
  refine z_iconst (v := 0) B dX2_clear_12 rfl ?_
  have h_3 : Φ1 (x + 95) = some (o_ 6 [.ref (x + 96), .int (nI nT)]) := ((fset_fr hΦ1 (ne_off (x := x) (i := 95) (j := 81) rfl)).trans hc2)
  refine z_put (ref := "FlowExporter$FlowTable") (C := RX4) (T := TX4) (N := 2) (ci := 6) (v := .int 0) B hu_X2_clear_X4 tyX4 tyX4_ok nmX4 rfl 1 (Nat.le_of_ble_eq_true rfl) hv_X2_clear_61 rfl (Or.inl rfl) h_3 (Nat.le_trans hx (Nat.le_add_right x 95)) rfl rfl (Nat.le_of_ble_eq_true rfl) dX2_clear_13 (fun Φ2 hΦ2 => ?_)
  have h_4 : Φ2 (x + 95) = some (o_ 6 [.ref (x + 96), .int 0]) := fset_at hΦ2
  have hI2 : In G x (ca) Φ2 := In.put (k := 95) hI1 hΦ2 (ok17 (k := 95) rfl ⟨0, rfl, (show 0 ≤ 24 by omega)⟩)
  refine z_aload_n B dX2_clear_16 rfl 0 rfl ?_
  refine z_iconst (v := 0) B dX2_clear_17 rfl ?_
  have h_5 : Φ2 (x + 80) = some (o_ 4 [.ref (x + 3), .ref (x + 74), .ref (x + 81), .ref (x + 95), .int nw, .int rt, .int dw, .int aq, .int xp, .int xb, .long ob, .long sm, .long un]) := ((fset_fr hΦ2 (ne_off (x := x) (i := 80) (j := 95) rfl)).trans h_2)
  refine z_put (ref := "FlowExporter$Exporter") (C := RX2) (T := TX2) (N := 13) (ci := 4) (v := .int 0) B hu_X2_clear_X2 tyX2 tyX2_ok nmX2 rfl 4 (Nat.le_of_ble_eq_true rfl) hv_X2_clear_23 rfl (Or.inl rfl) h_5 (Nat.le_trans hx (Nat.le_add_right x 80)) rfl rfl (Nat.le_of_ble_eq_true rfl) dX2_clear_18 (fun Φ3 hΦ3 => ?_)
  have h_6 : Φ3 (x + 80) = some (o_ 4 [.ref (x + 3), .ref (x + 74), .ref (x + 81), .ref (x + 95), .int 0, .int rt, .int dw, .int aq, .int xp, .int xb, .long ob, .long sm, .long un]) := fset_at hΦ3
  have hI3 : In G x (ca) Φ3 := In.put (k := 80) hI2 hΦ3 (ok16 (k := 80) rfl ⟨0, rt, dw, aq, xp, xb, ob, sm, un, rfl, had⟩)
  refine z_aload_n B dX2_clear_21 rfl 0 rfl ?_
  refine z_aload_n B dX2_clear_22 rfl 0 rfl ?_
  refine z_get (ref := "FlowExporter$Exporter") (C := RX2) (T := TX2) (N := 13) (ci := 4) (v := .ref (x + 3)) B hu_X2_clear_X2 rfl 0 (Nat.le_of_ble_eq_true rfl) hv_X2_clear_53 rfl h_6 rfl dX2_clear_23 ?_
  refine z_iconst (v := 0) B dX2_clear_26 rfl ?_
  obtain ⟨v_1, v_2, h_7⟩ := in3 (k := 3) hI3 rfl
  have h_8 : Φ3 (x + 3) = some (o_ 3 [.ref (x + 4), .ref (x + 5), .ref (x + 6), .ref (x + 7), .int v_1, .int v_2]) := h_7
  have hcg1 : CfA G x t s c Φ3 := (CfA.off (k := 80) (CfA.off (k := 95) (CfA.off (k := 81) hcf2 hΦ1 (by intros; omega)) hΦ2 (by intros; omega)) hΦ3 (by intros; omega))
  refine z_callV (As := [.int 0]) (rest := [.ref (x + 80)]) B (s_X1_getX G l Φ3 sz x (ca) t s c 0 hx hI3 hcg1 (show 0 < 9 by omega)) (cwV 1 B.1.2.2.2.2 gX2_clear_X1_get rfl rfl rfl (by decide +kernel) ⟨Nat.le_of_ble_eq_true rfl, Nat.le_of_ble_eq_true rfl⟩) h_8 rfl rfl rfl rfl (Nat.le_of_ble_eq_true rfl) dX2_clear_27 ⟨Nat.le_of_ble_eq_true rfl, Nat.le_of_ble_eq_true rfl⟩ (fun r_1 Φ4 sz1 st1 hp1 hs1 => ?_)
  obtain ⟨rfl, hq1, hI4, hF1⟩ := hp1
  subst sz1
  replace hs1 : st1 = [.int (c 0), .ref (x + 80)] := hs1
  subst st1
  replace hI4 : In G x (ca) Φ4 := hI4
  have h_9 : Φ4 (x + 80) = some (o_ 4 [.ref (x + 3), .ref (x + 74), .ref (x + 81), .ref (x + 95), .int 0, .int rt, .int dw, .int aq, .int xp, .int xb, .long ob, .long sm, .long un]) := ((hF1 (x + 80) (fun j9 h8 h7 => (show False from h7).elim)).trans h_6)
  refine z_put (ref := "FlowExporter$Exporter") (C := RX2) (T := TX2) (N := 13) (ci := 4) (v := .int (c 0)) B hu_X2_clear_X2 tyX2 tyX2_ok nmX2 rfl 5 (Nat.le_of_ble_eq_true rfl) hv_X2_clear_27 rfl (Or.inl rfl) h_9 (Nat.le_trans hx (Nat.le_add_right x 80)) rfl rfl (Nat.le_of_ble_eq_true rfl) dX2_clear_30 (fun Φ5 hΦ4 => ?_)
  have h_10 : Φ5 (x + 80) = some (o_ 4 [.ref (x + 3), .ref (x + 74), .ref (x + 81), .ref (x + 95), .int 0, .int (c 0), .int dw, .int aq, .int xp, .int xb, .long ob, .long sm, .long un]) := fset_at hΦ4
  have hI5 : In G x (ca) Φ5 := In.put (k := 80) hI4 hΦ4 (ok16 (k := 80) rfl ⟨0, c 0, dw, aq, xp, xb, ob, sm, un, rfl, had⟩)
  refine z_aload_n B dX2_clear_33 rfl 0 rfl ?_
  refine z_iconst (v := 1) B dX2_clear_34 rfl ?_
  refine z_put (ref := "FlowExporter$Exporter") (C := RX2) (T := TX2) (N := 13) (ci := 4) (v := .int 1) B hu_X2_clear_X2 tyX2 tyX2_ok nmX2 rfl 6 (Nat.le_of_ble_eq_true rfl) hv_X2_clear_30 rfl (Or.inl rfl) h_10 (Nat.le_trans hx (Nat.le_add_right x 80)) rfl rfl (Nat.le_of_ble_eq_true rfl) dX2_clear_35 (fun Φ6 hΦ5 => ?_)
  have h_11 : Φ6 (x + 80) = some (o_ 4 [.ref (x + 3), .ref (x + 74), .ref (x + 81), .ref (x + 95), .int 0, .int (c 0), .int 1, .int aq, .int xp, .int xb, .long ob, .long sm, .long un]) := fset_at hΦ5
  have hI6 : In G x (ca) Φ6 := In.put (k := 80) hI5 hΦ5 (ok16 (k := 80) rfl ⟨0, c 0, 1, aq, xp, xb, ob, sm, un, rfl, had⟩)
  refine z_aload_n B dX2_clear_38 rfl 0 rfl ?_
  refine z_iconst (v := 0) B dX2_clear_39 rfl ?_
  refine z_put (ref := "FlowExporter$Exporter") (C := RX2) (T := TX2) (N := 13) (ci := 4) (v := .int 0) B hu_X2_clear_X2 tyX2 tyX2_ok nmX2 rfl 7 (Nat.le_of_ble_eq_true rfl) hv_X2_clear_33 rfl (Or.inl rfl) h_11 (Nat.le_trans hx (Nat.le_add_right x 80)) (by decide +kernel) (by decide +kernel) (Nat.le_of_ble_eq_true rfl) dX2_clear_40 (fun Φ7 hΦ6 => ?_)
  have h_12 : Φ7 (x + 80) = some (o_ 4 [.ref (x + 3), .ref (x + 74), .ref (x + 81), .ref (x + 95), .int 0, .int (c 0), .int 1, .int 0, .int xp, .int xb, .long ob, .long sm, .long un]) := fset_at hΦ6
  have hI7 : In G x (ca) Φ7 := In.put (k := 80) hI6 hΦ6 (ok16 (k := 80) rfl ⟨0, c 0, 1, 0, xp, xb, ob, sm, un, rfl, (by decide)⟩)
  refine z_aload_n B dX2_clear_43 rfl 0 rfl ?_
  refine z_iconst (v := 0) B dX2_clear_44 rfl ?_
  refine z_put (ref := "FlowExporter$Exporter") (C := RX2) (T := TX2) (N := 13) (ci := 4) (v := .int 0) B hu_X2_clear_X2 tyX2 tyX2_ok nmX2 rfl 8 (Nat.le_of_ble_eq_true rfl) hv_X2_clear_37 rfl (Or.inl rfl) h_12 (Nat.le_trans hx (Nat.le_add_right x 80)) rfl rfl (Nat.le_of_ble_eq_true rfl) dX2_clear_45 (fun Φ8 hΦ7 => ?_)
  have h_13 : Φ8 (x + 80) = some (o_ 4 [.ref (x + 3), .ref (x + 74), .ref (x + 81), .ref (x + 95), .int 0, .int (c 0), .int 1, .int 0, .int 0, .int xb, .long ob, .long sm, .long un]) := fset_at hΦ7
  have hI8 : In G x (ca) Φ8 := In.put (k := 80) hI7 hΦ7 (ok16 (k := 80) rfl ⟨0, c 0, 1, 0, 0, xb, ob, sm, un, rfl, (by decide)⟩)
  refine z_aload_n B dX2_clear_48 rfl 0 rfl ?_
  refine z_iconst (v := 0) B dX2_clear_49 rfl ?_
  refine z_put (ref := "FlowExporter$Exporter") (C := RX2) (T := TX2) (N := 13) (ci := 4) (v := .int 0) B hu_X2_clear_X2 tyX2 tyX2_ok nmX2 rfl 9 (Nat.le_of_ble_eq_true rfl) hv_X2_clear_40 rfl (Or.inl rfl) h_13 (Nat.le_trans hx (Nat.le_add_right x 80)) rfl rfl (Nat.le_of_ble_eq_true rfl) dX2_clear_50 (fun Φ9 hΦ8 => ?_)
  have h_14 : Φ9 (x + 80) = some (o_ 4 [.ref (x + 3), .ref (x + 74), .ref (x + 81), .ref (x + 95), .int 0, .int (c 0), .int 1, .int 0, .int 0, .int 0, .long ob, .long sm, .long un]) := fset_at hΦ8
  have hI9 : In G x (ca) Φ9 := In.put (k := 80) hI8 hΦ8 (ok16 (k := 80) rfl ⟨0, c 0, 1, 0, 0, 0, ob, sm, un, rfl, (by decide)⟩)
  refine z_aload_n B dX2_clear_53 rfl 0 rfl ?_
  refine z_lconst (v := 0) B dX2_clear_54 rfl ?_
  refine z_put (ref := "FlowExporter$Exporter") (C := RX2) (T := TX2) (N := 13) (ci := 4) (v := .long 0) B hu_X2_clear_X2 tyX2 tyX2_ok nmX2 rfl 10 (Nat.le_of_ble_eq_true rfl) hv_X2_clear_43 rfl (Or.inl rfl) h_14 (Nat.le_trans hx (Nat.le_add_right x 80)) rfl rfl (Nat.le_of_ble_eq_true rfl) dX2_clear_55 (fun Φ10 hΦ9 => ?_)
  have h_15 : Φ10 (x + 80) = some (o_ 4 [.ref (x + 3), .ref (x + 74), .ref (x + 81), .ref (x + 95), .int 0, .int (c 0), .int 1, .int 0, .int 0, .int 0, .long 0, .long sm, .long un]) := fset_at hΦ9
  have hI10 : In G x (ca) Φ10 := In.put (k := 80) hI9 hΦ9 (ok16 (k := 80) rfl ⟨0, c 0, 1, 0, 0, 0, 0, sm, un, rfl, (by decide)⟩)
  refine z_aload_n B dX2_clear_58 rfl 0 rfl ?_
  refine z_lconst (v := 0) B dX2_clear_59 rfl ?_
  refine z_put (ref := "FlowExporter$Exporter") (C := RX2) (T := TX2) (N := 13) (ci := 4) (v := .long 0) B hu_X2_clear_X2 tyX2 tyX2_ok nmX2 rfl 11 (Nat.le_of_ble_eq_true rfl) hv_X2_clear_47 rfl (Or.inl rfl) h_15 (Nat.le_trans hx (Nat.le_add_right x 80)) rfl rfl (Nat.le_of_ble_eq_true rfl) dX2_clear_60 (fun Φ11 hΦ10 => ?_)
  have h_16 : Φ11 (x + 80) = some (o_ 4 [.ref (x + 3), .ref (x + 74), .ref (x + 81), .ref (x + 95), .int 0, .int (c 0), .int 1, .int 0, .int 0, .int 0, .long 0, .long 0, .long un]) := fset_at hΦ10
  have hI11 : In G x (ca) Φ11 := In.put (k := 80) hI10 hΦ10 (ok16 (k := 80) rfl ⟨0, c 0, 1, 0, 0, 0, 0, 0, un, rfl, (by decide)⟩)
  refine z_aload_n B dX2_clear_63 rfl 0 rfl ?_
  refine z_lconst (v := 0) B dX2_clear_64 rfl ?_
  refine z_put (ref := "FlowExporter$Exporter") (C := RX2) (T := TX2) (N := 13) (ci := 4) (v := .long 0) B hu_X2_clear_X2 tyX2 tyX2_ok nmX2 rfl 12 (Nat.le_of_ble_eq_true rfl) hv_X2_clear_50 rfl (Or.inl rfl) h_16 (Nat.le_trans hx (Nat.le_add_right x 80)) rfl rfl (Nat.le_of_ble_eq_true rfl) dX2_clear_65 (fun Φ12 hΦ11 => ?_)
  have h_17 : Φ12 (x + 80) = some (o_ 4 [.ref (x + 3), .ref (x + 74), .ref (x + 81), .ref (x + 95), .int 0, .int (c 0), .int 1, .int 0, .int 0, .int 0, .long 0, .long 0, .long 0]) := fset_at hΦ11
  have hI12 : In G x (ca) Φ12 := In.put (k := 80) hI11 hΦ11 (ok16 (k := 80) rfl ⟨0, c 0, 1, 0, 0, 0, 0, 0, 0, rfl, (by decide)⟩)
  have h_18 : Φ12 (x + 81) = some (o_ 6 [.ref (x + 82), .int 0]) := ((fset_fr hΦ11 (ne_off (x := x) (i := 81) (j := 80) rfl)).trans ((fset_fr hΦ10 (ne_off (x := x) (i := 81) (j := 80) rfl)).trans ((fset_fr hΦ9 (ne_off (x := x) (i := 81) (j := 80) rfl)).trans ((fset_fr hΦ8 (ne_off (x := x) (i := 81) (j := 80) rfl)).trans ((fset_fr hΦ7 (ne_off (x := x) (i := 81) (j := 80) rfl)).trans ((fset_fr hΦ6 (ne_off (x := x) (i := 81) (j := 80) rfl)).trans ((fset_fr hΦ5 (ne_off (x := x) (i := 81) (j := 80) rfl)).trans ((fset_fr hΦ4 (ne_off (x := x) (i := 81) (j := 80) rfl)).trans ((hF1 (x + 81) (fun j9 h8 h7 => (show False from h7).elim)).trans ((fset_fr hΦ3 (ne_off (x := x) (i := 81) (j := 80) rfl)).trans ((fset_fr hΦ2 (ne_off (x := x) (i := 81) (j := 95) rfl)).trans h_1)))))))))))
  have h_19 : Φ12 (x + 95) = some (o_ 6 [.ref (x + 96), .int 0]) := ((fset_fr hΦ11 (ne_off (x := x) (i := 95) (j := 80) rfl)).trans ((fset_fr hΦ10 (ne_off (x := x) (i := 95) (j := 80) rfl)).trans ((fset_fr hΦ9 (ne_off (x := x) (i := 95) (j := 80) rfl)).trans ((fset_fr hΦ8 (ne_off (x := x) (i := 95) (j := 80) rfl)).trans ((fset_fr hΦ7 (ne_off (x := x) (i := 95) (j := 80) rfl)).trans ((fset_fr hΦ6 (ne_off (x := x) (i := 95) (j := 80) rfl)).trans ((fset_fr hΦ5 (ne_off (x := x) (i := 95) (j := 80) rfl)).trans ((fset_fr hΦ4 (ne_off (x := x) (i := 95) (j := 80) rfl)).trans ((hF1 (x + 95) (fun j9 h8 h7 => (show False from h7).elim)).trans ((fset_fr hΦ3 (ne_off (x := x) (i := 95) (j := 80) rfl)).trans h_4))))))))))
  have hcg2 : TbC G x n 99 Fs pp Φ12 := (TbC.off (k := 80) (TbC.off (k := 80) (TbC.off (k := 80) (TbC.off (k := 80) (TbC.off (k := 80) (TbC.off (k := 80) (TbC.off (k := 80) (TbC.off (k := 80) (TbC.fr (TbC.off (k := 80) (TbC.off (k := 95) (TbC.off (k := 81) hcf0 hΦ1 (by omega)) hΦ2 (by omega)) hΦ3 (by omega)) hF1 (fun j9 h7 => (show False from h7).elim)) hΦ4 (by omega)) hΦ5 (by omega)) hΦ6 (by omega)) hΦ7 (by omega)) hΦ8 (by omega)) hΦ9 (by omega)) hΦ10 (by omega)) hΦ11 (by omega))
  have hcg3 : TbT G x nT 99 Ft pt Φ12 := (TbT.off (k := 80) (TbT.off (k := 80) (TbT.off (k := 80) (TbT.off (k := 80) (TbT.off (k := 80) (TbT.off (k := 80) (TbT.off (k := 80) (TbT.off (k := 80) (TbT.fr (TbT.off (k := 80) (TbT.off (k := 95) (TbT.off (k := 81) hcf1 hΦ1 (by omega)) hΦ2 (by omega)) hΦ3 (by omega)) hF1 (fun j9 h7 => (show False from h7).elim)) hΦ4 (by omega)) hΦ5 (by omega)) hΦ6 (by omega)) hΦ7 (by omega)) hΦ8 (by omega)) hΦ9 (by omega)) hΦ10 (by omega)) hΦ11 (by omega))
  exact z_ret_v B dX2_clear_68 ⟨⟨rfl, h_17, h_18, h_19, (TbR.z0 hcg2), (TbR.z0 hcg3)⟩, rfl, hI12, (fun b9 h9 => ((fset_fr hΦ11 (fun h8 => h9 (80) h8 (show 80 = 80 ∨ 80 = 81 ∨ 80 = 95 by decide))).trans ((fset_fr hΦ10 (fun h8 => h9 (80) h8 (show 80 = 80 ∨ 80 = 81 ∨ 80 = 95 by decide))).trans ((fset_fr hΦ9 (fun h8 => h9 (80) h8 (show 80 = 80 ∨ 80 = 81 ∨ 80 = 95 by decide))).trans ((fset_fr hΦ8 (fun h8 => h9 (80) h8 (show 80 = 80 ∨ 80 = 81 ∨ 80 = 95 by decide))).trans ((fset_fr hΦ7 (fun h8 => h9 (80) h8 (show 80 = 80 ∨ 80 = 81 ∨ 80 = 95 by decide))).trans ((fset_fr hΦ6 (fun h8 => h9 (80) h8 (show 80 = 80 ∨ 80 = 81 ∨ 80 = 95 by decide))).trans ((fset_fr hΦ5 (fun h8 => h9 (80) h8 (show 80 = 80 ∨ 80 = 81 ∨ 80 = 95 by decide))).trans ((fset_fr hΦ4 (fun h8 => h9 (80) h8 (show 80 = 80 ∨ 80 = 81 ∨ 80 = 95 by decide))).trans ((hF1 b9 (fun j9 h8 h7 => (show False from h7).elim)).trans ((fset_fr hΦ3 (fun h8 => h9 (80) h8 (show 80 = 80 ∨ 80 = 81 ∨ 80 = 95 by decide))).trans ((fset_fr hΦ2 (fun h8 => h9 (95) h8 (show 95 = 80 ∨ 95 = 81 ∨ 95 = 95 by decide))).trans ((fset_fr hΦ1 (fun h8 => h9 (81) h8 (show 81 = 80 ∨ 81 = 81 ∨ 81 = 95 by decide))).trans rfl)))))))))))))⟩

set_option maxHeartbeats 4000000 in
set_option maxRecDepth 100000 in
theorem s_X3_partOf2X (G : EnvG) (l : Launch) (Φ : Hm) (sz x ca : Nat) (K : Nat) (hx : G.2.2.2 ≤ x) (hI : In G x ca Φ) (hK : K < 2 ^ 40) : Ct G l yX3_partOf wsX3_partOf ({ frames := 0, cells := 0, slots := 0, locals := 0 }) 0 0 [.long (Int64.ofNat K), .int 2] Φ sz (fun v Φ1 sz1 => (v = some (.int (nI (K / 2 ^ 8 % 2 ^ 16)))) ∧ sz1 = sz ∧ In G x (ca) Φ1 ∧ Fr x (fun j9 => False) Φ Φ1) := by
  refine Ct.of (cc := cX3_partOf) (maxL := 3) (ret := (some .int)) (by decide) rfl (Nat.le_of_ble_eq_true rfl) ?_
  intro p9 e9 s9 m9 w9 t9 k9 B
  show Z p9 l e9 _ s9 m9 _ w9 t9 k9 _ G 3 0 [(0, .long (Int64.ofNat K)), (2, .int 2)] [] Φ sz 0 0
  refine z_iload_n B dX3_partOf_0 rfl 1 rfl ?_
  refine z_if_lt (tgt := 20) B dX3_partOf_1 rfl (fun h9 => absurd h9 (by decide)) (fun c_1 => ?_)
  refine z_iload_n B dX3_partOf_4 rfl 1 rfl ?_
  refine z_sta B B.2.2.2.2.2.1.1.2.2.2.2.1 (by decide +kernel) rfl dX3_partOf_5 ?_
  refine z_slen (v := 4) B B.2.2.2.2.2.1.2.2.2.1.2.2.2.2.1 (B.2.2.2.2.2.1.2.2.2.2 4 (by decide)) rfl dX3_partOf_8 ?_
  refine z_icmp_ge (tgt := 20) B dX3_partOf_9 rfl (fun h9 => absurd h9 (by decide)) (fun c_2 => ?_)
  refine z_iload_n B dX3_partOf_12 rfl 1 rfl ?_
  refine z_sta B B.2.2.2.2.2.1.1.2.2.2.2.2 (by decide +kernel) rfl dX3_partOf_13 ?_
  refine z_slen (v := 4) B B.2.2.2.2.2.1.2.2.2.1.2.2.2.2.2 (B.2.2.2.2.2.1.2.2.2.2 5 (by decide)) rfl dX3_partOf_16 ?_
  refine z_icmp_lt (tgt := 22) B dX3_partOf_17 rfl (fun c_3 => ?_) (fun h9 => absurd (by decide) h9)
  refine z_lload_n B dX3_partOf_22 rfl 0 rfl ?_
  refine z_sta B B.2.2.2.2.2.1.1.2.2.2.2.1 (by decide +kernel) rfl dX3_partOf_23 ?_
  refine z_iload_n B dX3_partOf_26 rfl 1 rfl ?_
  refine z_sald B B.2.2.2.2.2.1.2.2.2.1.2.2.2.2.1 (B.2.2.2.2.2.1.2.2.2.2 4 (by decide)) (vin rfl) dX3_partOf_27 ?_
  refine z_top (st1 := [.int 8, .long (Int64.ofNat K)]) (by rfl) ?_
  refine z_lshr (v := (Int64.ofNat K) >>> ((8 : Int32).toInt64 &&& 63)) B dX3_partOf_28 rfl ?_
  refine z_l2i (v := ((Int64.ofNat K) >>> ((8 : Int32).toInt64 &&& 63)).toInt32) B dX3_partOf_29 rfl ?_
  refine z_sta B B.2.2.2.2.2.1.1.2.2.2.2.2 (by decide +kernel) rfl dX3_partOf_30 ?_
  refine z_iload_n B dX3_partOf_33 rfl 1 rfl ?_
  refine z_sald B B.2.2.2.2.2.1.2.2.2.1.2.2.2.2.2 (B.2.2.2.2.2.1.2.2.2.2 5 (by decide)) (vin rfl) dX3_partOf_34 ?_
  refine z_top (st1 := [.int 65535, .int (((Int64.ofNat K) >>> ((8 : Int32).toInt64 &&& 63)).toInt32)]) (by rfl) ?_
  refine z_iand B dX3_partOf_35 ?_
  exact z_ret_i B dX3_partOf_36 ⟨(congrArg (fun w9 : Int32 => some (Value.int w9)) (pt_k (s := 8) (q := 16) _ (by decide) (by omega) (by decide) (by decide))), rfl, hI, (fun b9 h9 => rfl)⟩

set_option maxHeartbeats 4000000 in
set_option maxRecDepth 100000 in
theorem s_X3_partOf3X (G : EnvG) (l : Launch) (Φ : Hm) (sz x ca : Nat) (K : Nat) (hx : G.2.2.2 ≤ x) (hI : In G x ca Φ) (hK : K < 2 ^ 40) : Ct G l yX3_partOf wsX3_partOf ({ frames := 0, cells := 0, slots := 0, locals := 0 }) 0 0 [.long (Int64.ofNat K), .int 3] Φ sz (fun v Φ1 sz1 => (v = some (.int (nI (K % 256)))) ∧ sz1 = sz ∧ In G x (ca) Φ1 ∧ Fr x (fun j9 => False) Φ Φ1) := by
  refine Ct.of (cc := cX3_partOf) (maxL := 3) (ret := (some .int)) (by decide) rfl (Nat.le_of_ble_eq_true rfl) ?_
  intro p9 e9 s9 m9 w9 t9 k9 B
  show Z p9 l e9 _ s9 m9 _ w9 t9 k9 _ G 3 0 [(0, .long (Int64.ofNat K)), (2, .int 3)] [] Φ sz 0 0
  refine z_iload_n B dX3_partOf_0 rfl 1 rfl ?_
  refine z_if_lt (tgt := 20) B dX3_partOf_1 rfl (fun h9 => absurd h9 (by decide)) (fun c_1 => ?_)
  refine z_iload_n B dX3_partOf_4 rfl 1 rfl ?_
  refine z_sta B B.2.2.2.2.2.1.1.2.2.2.2.1 (by decide +kernel) rfl dX3_partOf_5 ?_
  refine z_slen (v := 4) B B.2.2.2.2.2.1.2.2.2.1.2.2.2.2.1 (B.2.2.2.2.2.1.2.2.2.2 4 (by decide)) rfl dX3_partOf_8 ?_
  refine z_icmp_ge (tgt := 20) B dX3_partOf_9 rfl (fun h9 => absurd h9 (by decide)) (fun c_2 => ?_)
  refine z_iload_n B dX3_partOf_12 rfl 1 rfl ?_
  refine z_sta B B.2.2.2.2.2.1.1.2.2.2.2.2 (by decide +kernel) rfl dX3_partOf_13 ?_
  refine z_slen (v := 4) B B.2.2.2.2.2.1.2.2.2.1.2.2.2.2.2 (B.2.2.2.2.2.1.2.2.2.2 5 (by decide)) rfl dX3_partOf_16 ?_
  refine z_icmp_lt (tgt := 22) B dX3_partOf_17 rfl (fun c_3 => ?_) (fun h9 => absurd (by decide) h9)
  refine z_lload_n B dX3_partOf_22 rfl 0 rfl ?_
  refine z_sta B B.2.2.2.2.2.1.1.2.2.2.2.1 (by decide +kernel) rfl dX3_partOf_23 ?_
  refine z_iload_n B dX3_partOf_26 rfl 1 rfl ?_
  refine z_sald B B.2.2.2.2.2.1.2.2.2.1.2.2.2.2.1 (B.2.2.2.2.2.1.2.2.2.2 4 (by decide)) (vin rfl) dX3_partOf_27 ?_
  refine z_top (st1 := [.int 0, .long (Int64.ofNat K)]) (by rfl) ?_
  refine z_lshr (v := (Int64.ofNat K) >>> ((0 : Int32).toInt64 &&& 63)) B dX3_partOf_28 rfl ?_
  refine z_l2i (v := ((Int64.ofNat K) >>> ((0 : Int32).toInt64 &&& 63)).toInt32) B dX3_partOf_29 rfl ?_
  refine z_sta B B.2.2.2.2.2.1.1.2.2.2.2.2 (by decide +kernel) rfl dX3_partOf_30 ?_
  refine z_iload_n B dX3_partOf_33 rfl 1 rfl ?_
  refine z_sald B B.2.2.2.2.2.1.2.2.2.1.2.2.2.2.2 (B.2.2.2.2.2.1.2.2.2.2 5 (by decide)) (vin rfl) dX3_partOf_34 ?_
  refine z_top (st1 := [.int 255, .int (((Int64.ofNat K) >>> ((0 : Int32).toInt64 &&& 63)).toInt32)]) (by rfl) ?_
  refine z_iand B dX3_partOf_35 ?_
  exact z_ret_i B dX3_partOf_36 ⟨(congrArg (fun w9 : Int32 => some (Value.int w9)) (pt_3 _ (by decide) (by omega))), rfl, hI, (fun b9 h9 => rfl)⟩

set_option maxHeartbeats 4000000 in
set_option maxRecDepth 100000 in
theorem s_X3_value0X (G : EnvG) (l : Launch) (Φ : Hm) (sz x ca : Nat) (K : Nat) (pk : Int64) (by_ : Int64) (fi : Nat) (la : Nat) (k : Nat) (hx : G.2.2.2 ≤ x) (hI : In G x ca Φ) (hk_k : kd k = 19) (hc0 : Φ (x + (k)) = some (o_ 5 [.long (Int64.ofNat K), .long pk, .long by_, .int (nI fi), .int (nI la)])) (hK : K < 2 ^ 40) : Ct G l yX3_value wsX3_value ({ frames := 1, cells := 0, slots := 0, locals := 22 }) 0 0 [.ref (x + (k)), .int 0] Φ sz (fun v Φ1 sz1 => (v = some (.long ((nI (K / 2 ^ 32 % 2 ^ 8)).toInt64))) ∧ sz1 = sz ∧ In G x (ca) Φ1 ∧ Fr x (fun j9 => False) Φ Φ1) := by
  refine Ct.of (cc := cX3_value) (maxL := 2) (ret := (some .long)) (by decide) rfl (Nat.le_of_ble_eq_true rfl) ?_
  intro p9 e9 s9 m9 w9 t9 k9 B
  show Z p9 l e9 _ s9 m9 _ w9 t9 k9 _ G 2 0 [(0, .ref (x + (k))), (1, .int 0)] [] Φ sz 0 0
  refine z_iload_n B dX3_value_0 rfl 1 rfl ?_
  refine z_tableOut (tgt := 54) B dX3_value_1 (by decide) rfl ?_
  refine z_aload_n B dX3_value_54 rfl 0 rfl ?_
  refine z_get (ref := "FlowExporter$Flow") (C := RX3) (T := TX3) (N := 5) (ci := 5) (v := .long (Int64.ofNat K)) B hu_X3_value_X3 rfl 0 (Nat.le_of_ble_eq_true rfl) hv_X3_value_9 rfl hc0 rfl dX3_value_55 ?_
  refine z_iload_n B dX3_value_58 rfl 1 rfl ?_
  refine z_callS (As := [.long (Int64.ofNat K), .int 0]) (rest := []) B (s_X3_partOf0X G l Φ sz x (ca) K hx hI (show K < 2 ^ 40 by omega)) (va_cwS 2 B.1.2.2.2.2 gX3_value_X3_partOf rfl rfl rfl (by decide +kernel) ⟨Nat.le_of_ble_eq_true rfl, Nat.le_of_ble_eq_true rfl⟩) rfl rfl (Nat.le_of_ble_eq_true rfl) dX3_value_59 ⟨Nat.le_of_ble_eq_true rfl, Nat.le_of_ble_eq_true rfl⟩ (fun r_1 Φ1 sz1 st1 hp1 hs1 => ?_)
  obtain ⟨rfl, hq1, hI1, hF1⟩ := hp1
  subst sz1
  replace hs1 : st1 = [.int (nI (K / 2 ^ 32 % 2 ^ 8))] := hs1
  subst st1
  replace hI1 : In G x (ca) Φ1 := hI1
  refine z_i2l (v := (nI (K / 2 ^ 32 % 2 ^ 8)).toInt64) B dX3_value_62 rfl ?_
  exact z_ret_l B dX3_value_63 ⟨rfl, rfl, hI1, (fun b9 h9 => ((hF1 b9 (fun j9 h8 h7 => (show False from h7).elim)).trans rfl))⟩

set_option maxHeartbeats 4000000 in
set_option maxRecDepth 100000 in
theorem s_X3_value1X (G : EnvG) (l : Launch) (Φ : Hm) (sz x ca : Nat) (K : Nat) (pk : Int64) (by_ : Int64) (fi : Nat) (la : Nat) (k : Nat) (hx : G.2.2.2 ≤ x) (hI : In G x ca Φ) (hk_k : kd k = 19) (hc0 : Φ (x + (k)) = some (o_ 5 [.long (Int64.ofNat K), .long pk, .long by_, .int (nI fi), .int (nI la)])) (hK : K < 2 ^ 40) : Ct G l yX3_value wsX3_value ({ frames := 1, cells := 0, slots := 0, locals := 22 }) 0 0 [.ref (x + (k)), .int 1] Φ sz (fun v Φ1 sz1 => (v = some (.long ((nI (K / 2 ^ 24 % 2 ^ 8)).toInt64))) ∧ sz1 = sz ∧ In G x (ca) Φ1 ∧ Fr x (fun j9 => False) Φ Φ1) := by
  refine Ct.of (cc := cX3_value) (maxL := 2) (ret := (some .long)) (by decide) rfl (Nat.le_of_ble_eq_true rfl) ?_
  intro p9 e9 s9 m9 w9 t9 k9 B
  show Z p9 l e9 _ s9 m9 _ w9 t9 k9 _ G 2 0 [(0, .ref (x + (k))), (1, .int 1)] [] Φ sz 0 0
  refine z_iload_n B dX3_value_0 rfl 1 rfl ?_
  refine z_tableOut (tgt := 54) B dX3_value_1 (by decide) rfl ?_
  refine z_aload_n B dX3_value_54 rfl 0 rfl ?_
  refine z_get (ref := "FlowExporter$Flow") (C := RX3) (T := TX3) (N := 5) (ci := 5) (v := .long (Int64.ofNat K)) B hu_X3_value_X3 rfl 0 (Nat.le_of_ble_eq_true rfl) hv_X3_value_9 rfl hc0 rfl dX3_value_55 ?_
  refine z_iload_n B dX3_value_58 rfl 1 rfl ?_
  refine z_callS (As := [.long (Int64.ofNat K), .int 1]) (rest := []) B (s_X3_partOf1X G l Φ sz x (ca) K hx hI (show K < 2 ^ 40 by omega)) (va_cwS 2 B.1.2.2.2.2 gX3_value_X3_partOf rfl rfl rfl (by decide +kernel) ⟨Nat.le_of_ble_eq_true rfl, Nat.le_of_ble_eq_true rfl⟩) rfl rfl (Nat.le_of_ble_eq_true rfl) dX3_value_59 ⟨Nat.le_of_ble_eq_true rfl, Nat.le_of_ble_eq_true rfl⟩ (fun r_1 Φ1 sz1 st1 hp1 hs1 => ?_)
  obtain ⟨rfl, hq1, hI1, hF1⟩ := hp1
  subst sz1
  replace hs1 : st1 = [.int (nI (K / 2 ^ 24 % 2 ^ 8))] := hs1
  subst st1
  replace hI1 : In G x (ca) Φ1 := hI1
  refine z_i2l (v := (nI (K / 2 ^ 24 % 2 ^ 8)).toInt64) B dX3_value_62 rfl ?_
  exact z_ret_l B dX3_value_63 ⟨rfl, rfl, hI1, (fun b9 h9 => ((hF1 b9 (fun j9 h8 h7 => (show False from h7).elim)).trans rfl))⟩

set_option maxHeartbeats 4000000 in
set_option maxRecDepth 100000 in
theorem s_X3_value2X (G : EnvG) (l : Launch) (Φ : Hm) (sz x ca : Nat) (K : Nat) (pk : Int64) (by_ : Int64) (fi : Nat) (la : Nat) (k : Nat) (hx : G.2.2.2 ≤ x) (hI : In G x ca Φ) (hk_k : kd k = 19) (hc0 : Φ (x + (k)) = some (o_ 5 [.long (Int64.ofNat K), .long pk, .long by_, .int (nI fi), .int (nI la)])) (hK : K < 2 ^ 40) : Ct G l yX3_value wsX3_value ({ frames := 1, cells := 0, slots := 0, locals := 22 }) 0 0 [.ref (x + (k)), .int 2] Φ sz (fun v Φ1 sz1 => (v = some (.long ((nI (K / 2 ^ 8 % 2 ^ 16)).toInt64))) ∧ sz1 = sz ∧ In G x (ca) Φ1 ∧ Fr x (fun j9 => False) Φ Φ1) := by
  refine Ct.of (cc := cX3_value) (maxL := 2) (ret := (some .long)) (by decide) rfl (Nat.le_of_ble_eq_true rfl) ?_
  intro p9 e9 s9 m9 w9 t9 k9 B
  show Z p9 l e9 _ s9 m9 _ w9 t9 k9 _ G 2 0 [(0, .ref (x + (k))), (1, .int 2)] [] Φ sz 0 0
  refine z_iload_n B dX3_value_0 rfl 1 rfl ?_
  refine z_tableOut (tgt := 54) B dX3_value_1 (by decide) rfl ?_
  refine z_aload_n B dX3_value_54 rfl 0 rfl ?_
  refine z_get (ref := "FlowExporter$Flow") (C := RX3) (T := TX3) (N := 5) (ci := 5) (v := .long (Int64.ofNat K)) B hu_X3_value_X3 rfl 0 (Nat.le_of_ble_eq_true rfl) hv_X3_value_9 rfl hc0 rfl dX3_value_55 ?_
  refine z_iload_n B dX3_value_58 rfl 1 rfl ?_
  refine z_callS (As := [.long (Int64.ofNat K), .int 2]) (rest := []) B (s_X3_partOf2X G l Φ sz x (ca) K hx hI (show K < 2 ^ 40 by omega)) (va_cwS 2 B.1.2.2.2.2 gX3_value_X3_partOf rfl rfl rfl (by decide +kernel) ⟨Nat.le_of_ble_eq_true rfl, Nat.le_of_ble_eq_true rfl⟩) rfl rfl (Nat.le_of_ble_eq_true rfl) dX3_value_59 ⟨Nat.le_of_ble_eq_true rfl, Nat.le_of_ble_eq_true rfl⟩ (fun r_1 Φ1 sz1 st1 hp1 hs1 => ?_)
  obtain ⟨rfl, hq1, hI1, hF1⟩ := hp1
  subst sz1
  replace hs1 : st1 = [.int (nI (K / 2 ^ 8 % 2 ^ 16))] := hs1
  subst st1
  replace hI1 : In G x (ca) Φ1 := hI1
  refine z_i2l (v := (nI (K / 2 ^ 8 % 2 ^ 16)).toInt64) B dX3_value_62 rfl ?_
  exact z_ret_l B dX3_value_63 ⟨rfl, rfl, hI1, (fun b9 h9 => ((hF1 b9 (fun j9 h8 h7 => (show False from h7).elim)).trans rfl))⟩

set_option maxHeartbeats 4000000 in
set_option maxRecDepth 100000 in
theorem s_X3_value3X (G : EnvG) (l : Launch) (Φ : Hm) (sz x ca : Nat) (K : Nat) (pk : Int64) (by_ : Int64) (fi : Nat) (la : Nat) (k : Nat) (hx : G.2.2.2 ≤ x) (hI : In G x ca Φ) (hk_k : kd k = 19) (hc0 : Φ (x + (k)) = some (o_ 5 [.long (Int64.ofNat K), .long pk, .long by_, .int (nI fi), .int (nI la)])) (hK : K < 2 ^ 40) : Ct G l yX3_value wsX3_value ({ frames := 1, cells := 0, slots := 0, locals := 22 }) 0 0 [.ref (x + (k)), .int 3] Φ sz (fun v Φ1 sz1 => (v = some (.long ((nI (K % 256)).toInt64))) ∧ sz1 = sz ∧ In G x (ca) Φ1 ∧ Fr x (fun j9 => False) Φ Φ1) := by
  refine Ct.of (cc := cX3_value) (maxL := 2) (ret := (some .long)) (by decide) rfl (Nat.le_of_ble_eq_true rfl) ?_
  intro p9 e9 s9 m9 w9 t9 k9 B
  show Z p9 l e9 _ s9 m9 _ w9 t9 k9 _ G 2 0 [(0, .ref (x + (k))), (1, .int 3)] [] Φ sz 0 0
  refine z_iload_n B dX3_value_0 rfl 1 rfl ?_
  refine z_tableOut (tgt := 54) B dX3_value_1 (by decide) rfl ?_
  refine z_aload_n B dX3_value_54 rfl 0 rfl ?_
  refine z_get (ref := "FlowExporter$Flow") (C := RX3) (T := TX3) (N := 5) (ci := 5) (v := .long (Int64.ofNat K)) B hu_X3_value_X3 rfl 0 (Nat.le_of_ble_eq_true rfl) hv_X3_value_9 rfl hc0 rfl dX3_value_55 ?_
  refine z_iload_n B dX3_value_58 rfl 1 rfl ?_
  refine z_callS (As := [.long (Int64.ofNat K), .int 3]) (rest := []) B (s_X3_partOf3X G l Φ sz x (ca) K hx hI (show K < 2 ^ 40 by omega)) (va_cwS 2 B.1.2.2.2.2 gX3_value_X3_partOf rfl rfl rfl (by decide +kernel) ⟨Nat.le_of_ble_eq_true rfl, Nat.le_of_ble_eq_true rfl⟩) rfl rfl (Nat.le_of_ble_eq_true rfl) dX3_value_59 ⟨Nat.le_of_ble_eq_true rfl, Nat.le_of_ble_eq_true rfl⟩ (fun r_1 Φ1 sz1 st1 hp1 hs1 => ?_)
  obtain ⟨rfl, hq1, hI1, hF1⟩ := hp1
  subst sz1
  replace hs1 : st1 = [.int (nI (K % 256))] := hs1
  subst st1
  replace hI1 : In G x (ca) Φ1 := hI1
  refine z_i2l (v := (nI (K % 256)).toInt64) B dX3_value_62 rfl ?_
  exact z_ret_l B dX3_value_63 ⟨rfl, rfl, hI1, (fun b9 h9 => ((hF1 b9 (fun j9 h8 h7 => (show False from h7).elim)).trans rfl))⟩

set_option maxHeartbeats 4000000 in
set_option maxRecDepth 100000 in
theorem s_X3_value4X (G : EnvG) (l : Launch) (Φ : Hm) (sz x ca : Nat) (K : Nat) (pk : Int64) (by_ : Int64) (fi : Nat) (la : Nat) (k : Nat) (hx : G.2.2.2 ≤ x) (hI : In G x ca Φ) (hk_k : kd k = 19) (hc0 : Φ (x + (k)) = some (o_ 5 [.long (Int64.ofNat K), .long pk, .long by_, .int (nI fi), .int (nI la)])) (hK : K < 2 ^ 40) : Ct G l yX3_value wsX3_value ({ frames := 0, cells := 0, slots := 0, locals := 0 }) 0 0 [.ref (x + (k)), .int 4] Φ sz (fun v Φ1 sz1 => (v = some (.long pk)) ∧ sz1 = sz ∧ In G x (ca) Φ1 ∧ Fr x (fun j9 => False) Φ Φ1) := by
  refine Ct.of (cc := cX3_value) (maxL := 2) (ret := (some .long)) (by decide) rfl (Nat.le_of_ble_eq_true rfl) ?_
  intro p9 e9 s9 m9 w9 t9 k9 B
  show Z p9 l e9 _ s9 m9 _ w9 t9 k9 _ G 2 0 [(0, .ref (x + (k))), (1, .int 4)] [] Φ sz 0 0
  refine z_iload_n B dX3_value_0 rfl 1 rfl ?_
  refine z_tableIn (off := 31) (tgt := 32) B dX3_value_1 (by decide) (by decide) (by decide) rfl ?_
  refine z_aload_n B dX3_value_32 rfl 0 rfl ?_
  refine z_get (ref := "FlowExporter$Flow") (C := RX3) (T := TX3) (N := 5) (ci := 5) (v := .long pk) B hu_X3_value_X3 rfl 1 (Nat.le_of_ble_eq_true rfl) hv_X3_value_15 rfl hc0 rfl dX3_value_33 ?_
  exact z_ret_l B dX3_value_36 ⟨rfl, rfl, hI, (fun b9 h9 => rfl)⟩

set_option maxHeartbeats 4000000 in
set_option maxRecDepth 100000 in
theorem s_X3_value5X (G : EnvG) (l : Launch) (Φ : Hm) (sz x ca : Nat) (K : Nat) (pk : Int64) (by_ : Int64) (fi : Nat) (la : Nat) (k : Nat) (hx : G.2.2.2 ≤ x) (hI : In G x ca Φ) (hk_k : kd k = 19) (hc0 : Φ (x + (k)) = some (o_ 5 [.long (Int64.ofNat K), .long pk, .long by_, .int (nI fi), .int (nI la)])) (hK : K < 2 ^ 40) : Ct G l yX3_value wsX3_value ({ frames := 0, cells := 0, slots := 0, locals := 0 }) 0 0 [.ref (x + (k)), .int 5] Φ sz (fun v Φ1 sz1 => (v = some (.long by_)) ∧ sz1 = sz ∧ In G x (ca) Φ1 ∧ Fr x (fun j9 => False) Φ Φ1) := by
  refine Ct.of (cc := cX3_value) (maxL := 2) (ret := (some .long)) (by decide) rfl (Nat.le_of_ble_eq_true rfl) ?_
  intro p9 e9 s9 m9 w9 t9 k9 B
  show Z p9 l e9 _ s9 m9 _ w9 t9 k9 _ G 2 0 [(0, .ref (x + (k))), (1, .int 5)] [] Φ sz 0 0
  refine z_iload_n B dX3_value_0 rfl 1 rfl ?_
  refine z_tableIn (off := 36) (tgt := 37) B dX3_value_1 (by decide) (by decide) (by decide) rfl ?_
  refine z_aload_n B dX3_value_37 rfl 0 rfl ?_
  refine z_get (ref := "FlowExporter$Flow") (C := RX3) (T := TX3) (N := 5) (ci := 5) (v := .long by_) B hu_X3_value_X3 rfl 2 (Nat.le_of_ble_eq_true rfl) hv_X3_value_18 rfl hc0 rfl dX3_value_38 ?_
  exact z_ret_l B dX3_value_41 ⟨rfl, rfl, hI, (fun b9 h9 => rfl)⟩

set_option maxHeartbeats 4000000 in
set_option maxRecDepth 100000 in
theorem s_X3_value6X (G : EnvG) (l : Launch) (Φ : Hm) (sz x ca : Nat) (K : Nat) (pk : Int64) (by_ : Int64) (fi : Nat) (la : Nat) (k : Nat) (hx : G.2.2.2 ≤ x) (hI : In G x ca Φ) (hk_k : kd k = 19) (hc0 : Φ (x + (k)) = some (o_ 5 [.long (Int64.ofNat K), .long pk, .long by_, .int (nI fi), .int (nI la)])) (hK : K < 2 ^ 40) : Ct G l yX3_value wsX3_value ({ frames := 0, cells := 0, slots := 0, locals := 0 }) 0 0 [.ref (x + (k)), .int 6] Φ sz (fun v Φ1 sz1 => (v = some (.long ((nI fi).toInt64))) ∧ sz1 = sz ∧ In G x (ca) Φ1 ∧ Fr x (fun j9 => False) Φ Φ1) := by
  refine Ct.of (cc := cX3_value) (maxL := 2) (ret := (some .long)) (by decide) rfl (Nat.le_of_ble_eq_true rfl) ?_
  intro p9 e9 s9 m9 w9 t9 k9 B
  show Z p9 l e9 _ s9 m9 _ w9 t9 k9 _ G 2 0 [(0, .ref (x + (k))), (1, .int 6)] [] Φ sz 0 0
  refine z_iload_n B dX3_value_0 rfl 1 rfl ?_
  refine z_tableIn (off := 41) (tgt := 42) B dX3_value_1 (by decide) (by decide) (by decide) rfl ?_
  refine z_aload_n B dX3_value_42 rfl 0 rfl ?_
  refine z_get (ref := "FlowExporter$Flow") (C := RX3) (T := TX3) (N := 5) (ci := 5) (v := .int (nI fi)) B hu_X3_value_X3 rfl 3 (Nat.le_of_ble_eq_true rfl) hv_X3_value_21 rfl hc0 rfl dX3_value_43 ?_
  refine z_i2l (v := (nI fi).toInt64) B dX3_value_46 rfl ?_
  exact z_ret_l B dX3_value_47 ⟨rfl, rfl, hI, (fun b9 h9 => rfl)⟩

set_option maxHeartbeats 4000000 in
set_option maxRecDepth 100000 in
theorem s_X3_value7X (G : EnvG) (l : Launch) (Φ : Hm) (sz x ca : Nat) (K : Nat) (pk : Int64) (by_ : Int64) (fi : Nat) (la : Nat) (k : Nat) (hx : G.2.2.2 ≤ x) (hI : In G x ca Φ) (hk_k : kd k = 19) (hc0 : Φ (x + (k)) = some (o_ 5 [.long (Int64.ofNat K), .long pk, .long by_, .int (nI fi), .int (nI la)])) (hK : K < 2 ^ 40) : Ct G l yX3_value wsX3_value ({ frames := 0, cells := 0, slots := 0, locals := 0 }) 0 0 [.ref (x + (k)), .int 7] Φ sz (fun v Φ1 sz1 => (v = some (.long ((nI la).toInt64))) ∧ sz1 = sz ∧ In G x (ca) Φ1 ∧ Fr x (fun j9 => False) Φ Φ1) := by
  refine Ct.of (cc := cX3_value) (maxL := 2) (ret := (some .long)) (by decide) rfl (Nat.le_of_ble_eq_true rfl) ?_
  intro p9 e9 s9 m9 w9 t9 k9 B
  show Z p9 l e9 _ s9 m9 _ w9 t9 k9 _ G 2 0 [(0, .ref (x + (k))), (1, .int 7)] [] Φ sz 0 0
  refine z_iload_n B dX3_value_0 rfl 1 rfl ?_
  refine z_tableIn (off := 47) (tgt := 48) B dX3_value_1 (by decide) (by decide) (by decide) rfl ?_
  refine z_aload_n B dX3_value_48 rfl 0 rfl ?_
  refine z_get (ref := "FlowExporter$Flow") (C := RX3) (T := TX3) (N := 5) (ci := 5) (v := .int (nI la)) B hu_X3_value_X3 rfl 4 (Nat.le_of_ble_eq_true rfl) hv_X3_value_25 rfl hc0 rfl dX3_value_49 ?_
  refine z_i2l (v := (nI la).toInt64) B dX3_value_52 rfl ?_
  exact z_ret_l B dX3_value_53 ⟨rfl, rfl, hI, (fun b9 h9 => rfl)⟩

set_option maxHeartbeats 4000000 in
set_option maxRecDepth 100000 in
theorem s_X1_templateOfX (G : EnvG) (l : Launch) (Φ : Hm) (sz x ca : Nat) (t : Nat) (s : Nat) (c : Cf) (u : Nat) (p : Nat) (hx : G.2.2.2 ≤ x) (hI : In G x ca Φ) (hcf0 : CfA G x t s c Φ) (hp : p < 256) (hu : c (51 + p) = nI u) : Ct G l yX1_templateOf wsX1_templateOf ({ frames := 0, cells := 0, slots := 0, locals := 0 }) 0 0 [.ref (x + 3), .int (nI p)] Φ sz (fun v Φ1 sz1 => (v = some (.int (nI u))) ∧ sz1 = sz ∧ In G x (ca) Φ1 ∧ Fr x (fun j9 => False) Φ Φ1) := by
  refine Ct.of (cc := cX1_templateOf) (maxL := 2) (ret := (some .int)) (by decide) rfl (Nat.le_of_ble_eq_true rfl) ?_
  intro p9 e9 s9 m9 w9 t9 k9 B
  show Z p9 l e9 _ s9 m9 _ w9 t9 k9 _ G 2 0 [(0, .ref (x + 3)), (1, .int (nI p))] [] Φ sz 0 0
  refine z_iload_n B dX1_templateOf_0 rfl 1 rfl ?_
  refine z_if_lt (tgt := 20) B dX1_templateOf_1 rfl (fun c_1 => ?_) (fun c_1 => ?_)
  · have e_1 : p < 0 := (nI_ltI (a := p) (b := 0) (by omega) (by omega)).mp c_1
    refine z_iconst (v := 0) B dX1_templateOf_20 rfl ?_
    exact z_ret_i B dX1_templateOf_21 ⟨((show False by omega).elim), rfl, hI, (fun b9 h9 => rfl)⟩
  · have e_2 : ¬ (p < 0) := fun h9 => c_1 ((nI_ltI (a := p) (b := 0) (by omega) (by omega)).mpr h9)
    refine z_iload_n B dX1_templateOf_4 rfl 1 rfl ?_
    refine z_sipush (v := 256) B dX1_templateOf_5 rfl ?_
    refine z_icmp_ge (tgt := 20) B dX1_templateOf_8 rfl (fun c_2 => ?_) (fun c_2 => ?_)
    · have e_3 : 256 ≤ p := (nI_leI (a := 256) (b := p) (by omega) (by omega)).mp c_2
      refine z_iconst (v := 0) B dX1_templateOf_20 rfl ?_
      exact z_ret_i B dX1_templateOf_21 ⟨((show False by omega).elim), rfl, hI, (fun b9 h9 => rfl)⟩
    · have e_4 : ¬ (256 ≤ p) := fun h9 => c_2 ((nI_leI (a := 256) (b := p) (by omega) (by omega)).mpr h9)
      refine z_aload_n B dX1_templateOf_11 rfl 0 rfl ?_
      obtain ⟨v_1, v_2, h_1⟩ := in3 (k := 3) hI rfl
      have h_2 : Φ (x + 3) = some (o_ 3 [.ref (x + 4), .ref (x + 5), .ref (x + 6), .ref (x + 7), .int v_1, .int v_2]) := h_1
      refine z_get (ref := "FlowExporter$Config") (C := RX1) (T := TX1) (N := 6) (ci := 3) (v := .ref (x + 5)) B hu_X1_templateOf_X1 rfl 1 (Nat.le_of_ble_eq_true rfl) hv_X1_templateOf_15 rfl h_2 rfl dX1_templateOf_12 ?_
      refine z_iload_n B dX1_templateOf_15 rfl 1 rfl ?_
      obtain ⟨f_1, h_3⟩ := in5 (k := 5) hI rfl
      have h_4 : Φ (x + 5) = some (ai_ G 256 f_1) := h_3
      refine z_iald B h_4 (vp_in_nI (by omega) (by omega)) dX1_templateOf_16 ?_
      refine z_top (st1 := [.int (nI u)]) (congrArg (fun w9 : Int32 => ([.int w9] : List Value)) (((congrArg f_1 (nI_clamp (by omega))).trans (CfA.use hcf0 h_4 (by omega))).trans hu)) ?_
      refine z_goto (tgt := 21) B dX1_templateOf_17 rfl ?_
      exact z_ret_i B dX1_templateOf_21 ⟨rfl, rfl, hI, (fun b9 h9 => rfl)⟩

set_option maxHeartbeats 4000000 in
set_option maxRecDepth 100000 in
theorem s_X1_getX (G : EnvG) (l : Launch) (Φ : Hm) (sz x ca : Nat) (t : Nat) (s : Nat) (c : Cf) (p : Nat) (hx : G.2.2.2 ≤ x) (hI : In G x ca Φ) (hcf0 : CfA G x t s c Φ) (hp : p < 9) : Ct G l yX1_get wsX1_get ({ frames := 0, cells := 0, slots := 0, locals := 0 }) 0 0 [.ref (x + 3), .int (nI p)] Φ sz (fun v Φ1 sz1 => (v = some (.int (c p))) ∧ sz1 = sz ∧ In G x (ca) Φ1 ∧ Fr x (fun j9 => False) Φ Φ1) := by
  refine Ct.of (cc := cX1_get) (maxL := 2) (ret := (some .int)) (by decide) rfl (Nat.le_of_ble_eq_true rfl) ?_
  intro p9 e9 s9 m9 w9 t9 k9 B
  show Z p9 l e9 _ s9 m9 _ w9 t9 k9 _ G 2 0 [(0, .ref (x + 3)), (1, .int (nI p))] [] Φ sz 0 0
  refine z_iload_n B dX1_get_0 rfl 1 rfl ?_
  refine z_if_lt (tgt := 19) B dX1_get_1 rfl (fun c_1 => ?_) (fun c_1 => ?_)
  · have e_1 : p < 0 := (nI_ltI (a := p) (b := 0) (by omega) (by omega)).mp c_1
    refine z_iconst (v := 0) B dX1_get_19 rfl ?_
    exact z_ret_i B dX1_get_20 ⟨((show False by omega).elim), rfl, hI, (fun b9 h9 => rfl)⟩
  · have e_2 : ¬ (p < 0) := fun h9 => c_1 ((nI_ltI (a := p) (b := 0) (by omega) (by omega)).mpr h9)
    refine z_iload_n B dX1_get_4 rfl 1 rfl ?_
    refine z_bipush (v := 9) B dX1_get_5 rfl ?_
    refine z_icmp_ge (tgt := 19) B dX1_get_7 rfl (fun c_2 => ?_) (fun c_2 => ?_)
    · have e_3 : 9 ≤ p := (nI_leI (a := 9) (b := p) (by omega) (by omega)).mp c_2
      refine z_iconst (v := 0) B dX1_get_19 rfl ?_
      exact z_ret_i B dX1_get_20 ⟨((show False by omega).elim), rfl, hI, (fun b9 h9 => rfl)⟩
    · have e_4 : ¬ (9 ≤ p) := fun h9 => c_2 ((nI_leI (a := 9) (b := p) (by omega) (by omega)).mpr h9)
      refine z_aload_n B dX1_get_10 rfl 0 rfl ?_
      obtain ⟨v_1, v_2, h_1⟩ := in3 (k := 3) hI rfl
      have h_2 : Φ (x + 3) = some (o_ 3 [.ref (x + 4), .ref (x + 5), .ref (x + 6), .ref (x + 7), .int v_1, .int v_2]) := h_1
      refine z_get (ref := "FlowExporter$Config") (C := RX1) (T := TX1) (N := 6) (ci := 3) (v := .ref (x + 4)) B hu_X1_get_X1 rfl 0 (Nat.le_of_ble_eq_true rfl) hv_X1_get_9 rfl h_2 rfl dX1_get_11 ?_
      refine z_iload_n B dX1_get_14 rfl 1 rfl ?_
      obtain ⟨f_1, h_3, r_1⟩ := in4 (k := 4) hI rfl
      have h_4 : Φ (x + 4) = some (ai_ G 9 f_1) := h_3
      refine z_iald B h_4 (vp_in_nI (by omega) (by omega)) dX1_get_15 ?_
      refine z_top (st1 := [.int (c p)]) (congrArg (fun w9 : Int32 => ([.int w9] : List Value)) (((congrArg f_1 (nI_clamp (by omega))).trans (CfA.set hcf0 h_4 (by omega))))) ?_
      refine z_goto (tgt := 20) B dX1_get_16 rfl ?_
      exact z_ret_i B dX1_get_20 ⟨rfl, rfl, hI, (fun b9 h9 => rfl)⟩

/-! the sender, as functions. A template's fields that are supported: how many, their bytes -/
noncomputable def esN (c : Cf) (u : Nat) : Nat := fM (rwC c u) (c 9) (szC c u)
noncomputable def rlN (c : Cf) (u : Nat) : Nat := (rlF c u).toNatClampNeg
theorem lenK_29 : ∀ a, a < 512 → (lenK a 9).toNatClampNeg ≤ 29 ∧ lenK a 9 = nI (lenK a 9).toNatClampNeg := by decide +kernel
/-- last messages, last times, messages sent, records sent, sequence -/
abbrev SN : Type := (Nat → Int32) × (Nat → Int32) × Int32 × Int64 × Int32
/-- how many messages, their lengths, how many were dropped -/
abbrev QN : Type := Nat × (Nat → Nat) × Int32
/-- must a template be sent -/
noncomputable def dueP (c : Cf) (now : Int32) (s : SN) (u : Nat) : Prop := ¬ esN c u = 0 ∧ (s.1 u = 0 ∨ c 4 ≤ s.2.2.1 - s.1 u ∨ c 5 ≤ now - s.2.1 u)
/-- a message begins: its templates are put one by one; the length, the sender -/
noncomputable def ptS (c : Cf) (now : Int32) (u : Nat) (q : Nat × SN) : Nat × SN := @ite (Nat × SN) (dueP c now q.2 u) (Classical.propDecidable _) ((if q.1 = 16 then q.1 + 4 else q.1) + 4 + 4 * esN c u, upd q.2.1 u (q.2.2.2.1 + 1), upd q.2.2.1 u now, q.2.2.2) q
noncomputable def ptI (c : Cf) (now : Int32) (s : SN) : Nat → Nat × SN
  | 0 => (16, s)
  | u + 1 => ptS c now u (ptI c now s u)
theorem ptI_y {c : Cf} {now : Int32} {s : SN} {u l : Nat} {a b : Nat → Int32} {r : Int32 × Int64 × Int32} (h : ptI c now s u = (l, a, b, r)) (hd : dueP c now (a, b, r) u) : ptI c now s (u + 1) = ((if l = 16 then l + 4 else l) + 4 + 4 * esN c u, upd a u (r.1 + 1), upd b u now, r) := by
  show ptS c now u (ptI c now s u) = _
  rw [h]
  exact if_pos hd
theorem ptI_n {c : Cf} {now : Int32} {s : SN} {u l : Nat} {a b : Nat → Int32} {r : Int32 × Int64 × Int32} (h : ptI c now s u = (l, a, b, r)) (hd : ¬ dueP c now (a, b, r) u) : ptI c now s (u + 1) = (l, a, b, r) := by
  show ptS c now u (ptI c now s u) = _
  rw [h]
  exact if_neg hd
/-- nothing but the templates' own numbers changes -/
theorem ptI_r {c : Cf} {now : Int32} {s : SN} : ∀ u, (ptI c now s u).2.2.2 = s.2.2 := by
  intro u
  induction u with
  | zero => rfl
  | succ u ih =>
    by_cases hd : dueP c now (ptI c now s u).2 u
    · have e : ptI c now s (u + 1) = _ := if_pos hd
      rw [e]
      exact ih
    · have e : ptI c now s (u + 1) = ptI c now s u := if_neg hd
      rw [e]
      exact ih
theorem ptI_le {c : Cf} {now : Int32} {s : SN} (he : ∀ u, u < 4 → esN c u ≤ 9) : ∀ u, u ≤ 4 → 16 ≤ (ptI c now s u).1 ∧ (ptI c now s u).1 ≤ 20 + 40 * u ∧ ((ptI c now s u).1 = 16 ∨ 24 ≤ (ptI c now s u).1) := by
  intro u
  induction u with
  | zero =>
    intro _
    show 16 ≤ 16 ∧ 16 ≤ 20 + 40 * 0 ∧ (16 = 16 ∨ 24 ≤ 16)
    omega
  | succ u ih =>
    intro hu
    obtain ⟨h1, h2, h3⟩ := ih (by omega)
    have h4 := he u (by omega)
    by_cases hd : dueP c now (ptI c now s u).2 u
    · have e : (ptI c now s (u + 1)).1 = (if (ptI c now s u).1 = 16 then (ptI c now s u).1 + 4 else (ptI c now s u).1) + 4 + 4 * esN c u := congrArg Prod.fst (show ptI c now s (u + 1) = _ from if_pos hd)
      rw [e]
      split <;> omega
    · have e : ptI c now s (u + 1) = ptI c now s u := if_neg hd
      rw [e]
      omega
noncomputable def bgS (c : Cf) (now : Int32) (s : SN) : Nat × SN := ptI c now s 4
/-- a message ends: it goes into the queue, or is dropped -/
noncomputable def enQ (l : Nat) (q : QN) : QN := if q.1 < 12 then (q.1 + 1, (fun j => if j = q.1 then l else q.2.1 j), q.2.2) else (q.1, q.2.1, q.2.2 + 1)
noncomputable def enS (k : Nat) (s : SN) : SN := (s.1, s.2.1, s.2.2.1 + 1, s.2.2.2.1 + (nI k).toInt64, s.2.2.2.2 + nI k)
theorem enQ_y {l n : Nat} {L : Nat → Nat} {d : Int32} (h : n < 12) : enQ l (n, L, d) = (n + 1, (fun j => if j = n then l else L j), d) := if_pos h
theorem enQ_n {l n : Nat} {L : Nat → Nat} {d : Int32} (h : ¬ n < 12) : enQ l (n, L, d) = (n, L, d + 1) := if_neg h
/-- while a message is written: its length, the template of its last set, its records, the sender, the queue -/
abbrev LN : Type := Nat × Int32 × Nat × SN × QN
noncomputable def moN (c : Cf) (u : Nat) (t : Int32) : Nat := if t = nI u then rlN c u else rlN c u + 4
noncomputable def nxN (c : Cf) (now : Int32) (g : LN) : LN := ((bgS c now (enS g.2.2.1 g.2.2.2.1)).1, -1, 0, (bgS c now (enS g.2.2.1 g.2.2.2.1)).2, enQ g.1 g.2.2.2.2)
noncomputable def adN (c : Cf) (u : Nat) (g : LN) : LN := (g.1 + moN c u g.2.1, nI u, g.2.2.1 + 1, g.2.2.2)
noncomputable def ovN (c : Cf) (u : Nat) (g : LN) : Prop := (c 7).toInt < ((g.1 + moN c u g.2.1 : Nat) : Int)
noncomputable def rcN (c : Cf) (now : Int32) (u : Nat) (g : LN) : LN := @ite LN (ovN c u g) (Classical.propDecidable _) (adN c u (nxN c now g)) (adN c u g)
noncomputable def rcI (c : Cf) (now : Int32) (P : Nat → Nat) (g : LN) : Nat → LN
  | 0 => g
  | k + 1 => rcN c now (P k) (rcI c now P g k)
theorem rcI_y {c : Cf} {now : Int32} {P : Nat → Nat} {g x : LN} {k : Nat} (h : rcI c now P g k = x) (ho : ovN c (P k) x) : rcI c now P g (k + 1) = adN c (P k) (nxN c now x) := by
  show rcN c now (P k) (rcI c now P g k) = _
  rw [h]
  exact if_pos ho
theorem rcI_n {c : Cf} {now : Int32} {P : Nat → Nat} {g x : LN} {k : Nat} (h : rcI c now P g k = x) (ho : ¬ ovN c (P k) x) : rcI c now P g (k + 1) = adN c (P k) x := by
  show rcN c now (P k) (rcI c now P g k) = _
  rw [h]
  exact if_neg ho
noncomputable def g0N (c : Cf) (now : Int32) (s : SN) (q : QN) : LN := ((bgS c now s).1, -1, 0, (bgS c now s).2, q)
/-- the pending records are sent -/
noncomputable def spS (c : Cf) (now : Int32) (P : Nat → Nat) (n : Nat) (s : SN) (q : QN) : SN × QN := if n = 0 then (s, q) else (enS (rcI c now P (g0N c now s q) n).2.2.1 (rcI c now P (g0N c now s q) n).2.2.2.1, enQ (rcI c now P (g0N c now s q) n).1 (rcI c now P (g0N c now s q) n).2.2.2.2)
theorem spS_0 {c : Cf} {now : Int32} {P : Nat → Nat} {n : Nat} {s : SN} {q : QN} (h : n = 0) : spS c now P n s q = (s, q) := if_pos h
theorem spS_n {c : Cf} {now : Int32} {P : Nat → Nat} {n l k : Nat} {t : Int32} {s s1 : SN} {q q1 : QN} (h : ¬ n = 0) (hr : rcI c now P (g0N c now s q) n = (l, t, k, s1, q1)) : spS c now P n s q = (enS k s1, enQ l q1) := by
  have e : spS c now P n s q = _ := if_neg h
  rw [e, hr]
/-- the bytes of the first k pending records -/
noncomputable def plN (c : Cf) (P : Nat → Nat) : Nat → Nat
  | 0 => 0
  | k + 1 => plN c P k + rlN c (P k)
theorem plN_mono {c : Cf} {P : Nat → Nat} {i : Nat} : ∀ k, i ≤ k → plN c P i ≤ plN c P k := by
  intro k
  induction k with
  | zero => intro h; have h1 : i = 0 := by omega
            rw [h1]
            exact Nat.le_refl _
  | succ k ih =>
    intro h
    by_cases e : i = k + 1
    · rw [e]
      exact Nat.le_refl _
    · have h1 := ih (by omega)
      show plN c P i ≤ plN c P k + rlN c (P k)
      omega
theorem plN_le {c : Cf} {P : Nat → Nat} : ∀ k, (∀ j, j < k → rlN c (P j) ≤ 29) → plN c P k ≤ 29 * k := by
  intro k
  induction k with
  | zero => intro _; exact Nat.le_refl _
  | succ k ih =>
    intro h
    have h1 := ih (fun j hj => h j (by omega))
    have h2 := h k (by omega)
    show plN c P k + rlN c (P k) ≤ 29 * (k + 1)
    omega
theorem plN_ext {c : Cf} {P Q : Nat → Nat} : ∀ k, (∀ j, j < k → P j = Q j) → plN c P k = plN c Q k := by
  intro k
  induction k with
  | zero => intro _; rfl
  | succ k ih =>
    intro h
    show plN c P k + rlN c (P k) = plN c Q k + rlN c (Q k)
    rw [ih (fun j hj => h j (by omega)), h k (by omega)]
/-- what the effective templates hold -/
noncomputable def CfW (c : Cf) : Prop := ∀ u, u < 4 → esN c u ≤ 9 ∧ rlN c u ≤ 29 ∧ (esN c u = 0 ↔ tfF c u &&& c 9 = 0) ∧ rlF c u = nI (rlN c u)
theorem CfA.ec {G : EnvG} {x t s u : Nat} {c : Cf} {Φ : Hm} (h : CfA G x t s c Φ) (hg : CfG c) (hu : u < 4) : (∃ (a : Int32) (g : Nat → Int32), Φ (x + (10 + 4 * u)) = some (o_ 12 [.ref (x + (10 + 4 * u + 1)), .int (nI (esN c u)), .int a, .int (nI (rlN c u))]) ∧ Φ (x + (10 + 4 * u + 1)) = some (ai_ G 9 g)) ∧ esN c u ≤ 9 ∧ rlN c u ≤ 29 ∧ (esN c u = 0 ↔ tfF c u &&& c 9 = 0) ∧ rlF c u = nI (rlN c u) := by
  obtain ⟨m, f, g, h1, h2, h3, h4, h5, h6, -⟩ := h.2.2 u hu
  have hle := fM_le f (nI s) m
  obtain ⟨a, ha, -, ha2⟩ := fS_and h.2.1.1 m h4
  have hb := fB_len h.2.1.1 m h4 (a &&& s) (Nat.lt_of_le_of_lt Nat.and_le_left ha) ha2
  obtain ⟨k1, k2⟩ := lenK_29 (a &&& s) (Nat.lt_of_le_of_lt Nat.and_le_left ha)
  by_cases ht : u < t
  · obtain ⟨e3, e4⟩ := wt_fS (s := nI s) h1 ht h3
    obtain ⟨q1, q2⟩ := wt_sz h1 ht h3
    have e5 : fM f (nI s) m = esN c u := by
      unfold esN
      rw [h.2.1.2, q1]
      exact (fS_ext (f := f) (g := rwC c u) (s := nI s) m q2).2.1
    have e6 : fB_ f (nI s) m = rlF c u := by
      unfold rlF
      rw [h.2.1.2]
      exact e4
    have e7 : rlF c u = nI (rlN c u) := by
      unfold rlN
      rw [← e6, hb]
      exact k2
    have e8 : rlN c u ≤ 29 := by
      unfold rlN
      rw [← e6, hb]
      exact k1
    refine ⟨⟨fS f (nI s) m, g, ?_, h6⟩, by omega, e8, ?_, e7⟩
    · rw [← e5, ← e7, ← e6]
      exact h5
    · have f1 := h.ef1 ht
      have f2 : efF c u = fS f (nI s) m := by
        unfold efF
        rw [h.2.1.2]
        exact e3.symm
      rw [← f1, f2, ← e5]
      exact fM_0 h.2.1.1 m h4
  · have e0 := h2 (by omega)
    subst e0
    have e1 : szC c u = 0 := by
      unfold szC
      rw [hg.2.1 u t (by omega) h.1.1 (by omega)]
      decide
    have e2 : tfF c u = 0 := by
      unfold tfF
      rw [e1]
      rfl
    have e5 : esN c u = 0 := by
      unfold esN
      rw [e1]
      rfl
    have e6 : rlF c u = 0 := by
      unfold rlF
      rw [e1]
      rfl
    have e7 : rlN c u = 0 := by
      unfold rlN
      rw [e6]
      decide
    refine ⟨⟨fS f (nI s) 0, g, ?_, h6⟩, by omega, by omega, ?_, ?_⟩
    · rw [e5, e7]
      exact h5
    · rw [e2, Int32.zero_and]
      exact ⟨fun _ => rfl, fun _ => e5⟩
    · rw [e6, e7]
      rfl
theorem CfA.W {G : EnvG} {x t s : Nat} {c : Cf} {Φ : Hm} (h : CfA G x t s c Φ) (hg : CfG c) : CfW c := fun _ hu => (h.ec hg hu).2

/-! the queue of the class: the messages by their places p; behind the last the free one -/
noncomputable def QbR (G : EnvG) (x n : Nat) (L : Nat → Nat) (d : Int32) (p : Nat → Nat) (Φ : Hm) : Prop := Φ (x + 46) = some (o_ 9 [.ref (x + 47), .int (nI n), .int d]) ∧ (∃ f : Nat → Option Nat, Φ (x + 47) = some (aq_ G 6 13 f) ∧ ∀ j, j < 13 → f j = some (x + (48 + 2 * p j))) ∧ (∀ j, j < 13 → p j < 13) ∧ (∀ i j, i < 13 → j < 13 → p i = p j → i = j) ∧ n ≤ 12 ∧ ∀ j, j < n → L j ≤ 600 ∧ Φ (x + (48 + 2 * p j)) = some (o_ 7 [.ref (x + (48 + 2 * p j + 1)), .int (nI (L j))])
theorem QbR.mv {G : EnvG} {x n : Nat} {L : Nat → Nat} {d : Int32} {p : Nat → Nat} {Φ Φ1 : Hm} (h : QbR G x n L d p Φ) (e1 : Φ1 (x + 46) = Φ (x + 46)) (e2 : Φ1 (x + 47) = Φ (x + 47)) (e : ∀ j, j < n → Φ1 (x + (48 + 2 * p j)) = Φ (x + (48 + 2 * p j))) : QbR G x n L d p Φ1 := by
  obtain ⟨h1, ⟨f, h2, h3⟩, h4, h5, h6, h7⟩ := h
  exact ⟨e1.trans h1, ⟨f, e2.trans h2, h3⟩, h4, h5, h6, fun j hj => ⟨(h7 j hj).1, (e j hj).trans (h7 j hj).2⟩⟩
theorem QbR.ne {G : EnvG} {x n j : Nat} {L : Nat → Nat} {d : Int32} {p : Nat → Nat} {Φ : Hm} (h : QbR G x n L d p Φ) (hj : j < n) : ¬ p j = p n := by
  intro q
  have h6 := h.2.2.2.2.1
  have := h.2.2.2.1 j n (by omega) (by omega) q
  omega
theorem QbR.lt {G : EnvG} {x n j : Nat} {L : Nat → Nat} {d : Int32} {p : Nat → Nat} {Φ : Hm} (h : QbR G x n L d p Φ) (hj : j < 13) : p j < 13 := h.2.2.1 j hj
theorem QbR.le {G : EnvG} {x n : Nat} {L : Nat → Nat} {d : Int32} {p : Nat → Nat} {Φ : Hm} (h : QbR G x n L d p Φ) : n ≤ 12 := h.2.2.2.2.1
/-- the free message, and what isn't the queue's, may change -/
theorem QbR.frw {G : EnvG} {x n : Nat} {L : Nat → Nat} {d : Int32} {p : Nat → Nat} {md : Nat → Prop} {Φ Φ1 : Hm} (h : QbR G x n L d p Φ) (hF : Fr x md Φ Φ1) (hm : ∀ j, md j → (j = 48 + 2 * p n ∨ j = 48 + 2 * p n + 1) ∨ (¬ j = 46 ∧ ¬ j = 47 ∧ ¬ (48 ≤ j ∧ j < 74))) : QbR G x n L d p Φ1 := by
  refine h.mv (hF _ (fun j q hj => ?_)) (hF _ (fun j q hj => ?_)) (fun i hi => hF _ (fun j q hj => ?_))
  · have := hm j hj
    omega
  · have := hm j hj
    omega
  · have h1 := hm j hj
    have h2 := h.ne hi
    have h3 := h.le
    have h4 := h.lt (j := i) (by omega)
    omega
theorem QbR.offw {G : EnvG} {x n k : Nat} {L : Nat → Nat} {d : Int32} {p : Nat → Nat} {e : va_E} {Φ Φ1 : Hm} (h : QbR G x n L d p Φ) (h1 : Φ1 = fset Φ (x + k) e) (hk : (k = 48 + 2 * p n ∨ k = 48 + 2 * p n + 1) ∨ (¬ k = 46 ∧ ¬ k = 47 ∧ ¬ (48 ≤ k ∧ k < 74))) : QbR G x n L d p Φ1 := by
  refine h.mv (fset_fr h1 (by omega)) (fset_fr h1 (by omega)) (fun i hi => fset_fr h1 ?_)
  have h2 := h.ne hi
  have h3 := h.le
  have h4 := h.lt (j := i) (by omega)
  omega
theorem QbR.row {G : EnvG} {x n j : Nat} {L : Nat → Nat} {d : Int32} {p : Nat → Nat} {f : Nat → Option Nat} {Φ : Hm} (h : QbR G x n L d p Φ) (hf : Φ (x + 47) = some (aq_ G 6 13 f)) (hj : j < 13) : f j = some (x + (48 + 2 * p j)) := by
  obtain ⟨g, h2, h3⟩ := h.2.1
  have e : some (aq_ G 6 13 g) = some (aq_ G 6 13 f) := h2.symm.trans hf
  have e2 : g = f := by
    have q1 := Option.some.inj e
    have q2 := Sum.inl.inj q1
    have q3 := (Prod.mk.inj (Prod.mk.inj q2).2).2
    exact Sum.inr.inj (Sum.inr.inj (Sum.inr.inj (Sum.inr.inj q3)))
  rw [← e2]
  exact h3 j hj
/-- the free message goes into the queue -/
theorem QbR.add {G : EnvG} {x n l : Nat} {L : Nat → Nat} {d : Int32} {p : Nat → Nat} {Φ Φ1 : Hm} (h : QbR G x n L d p Φ) (hn : n < 12) (hl : l ≤ 600) (hc : Φ (x + (48 + 2 * p n)) = some (o_ 7 [.ref (x + (48 + 2 * p n + 1)), .int (nI l)])) (h1 : Φ1 = fset Φ (x + 46) (o_ 9 [.ref (x + 47), .int (nI (n + 1)), .int d])) : QbR G x (n + 1) (fun j => if j = n then l else L j) d p Φ1 := by
  obtain ⟨-, ⟨f, h2, h3⟩, h4, h5, h6, h7⟩ := h
  refine ⟨fset_at h1, ⟨f, (fset_fr h1 (by omega)).trans h2, h3⟩, h4, h5, by omega, fun j hj => ?_⟩
  have e : Φ1 (x + (48 + 2 * p j)) = Φ (x + (48 + 2 * p j)) := fset_fr h1 (by omega)
  by_cases q : j = n
  · subst q
    dsimp only
    rw [if_pos rfl]
    exact ⟨hl, e.trans hc⟩
  · dsimp only
    rw [if_neg q]
    exact ⟨(h7 j (by omega)).1, e.trans (h7 j (by omega)).2⟩
theorem QbR.drop {G : EnvG} {x n : Nat} {L : Nat → Nat} {d d1 : Int32} {p : Nat → Nat} {Φ Φ1 : Hm} (h : QbR G x n L d p Φ) (h1 : Φ1 = fset Φ (x + 46) (o_ 9 [.ref (x + 47), .int (nI n), .int d1])) : QbR G x n L d1 p Φ1 := by
  obtain ⟨-, ⟨f, h2, h3⟩, h4, h5, h6, h7⟩ := h
  exact ⟨fset_at h1, ⟨f, (fset_fr h1 (by omega)).trans h2, h3⟩, h4, h5, h6, fun j hj => ⟨(h7 j hj).1, (fset_fr h1 (by omega)).trans (h7 j hj).2⟩⟩
theorem QbR.z {G : EnvG} {x n : Nat} {L : Nat → Nat} {d : Int32} {p : Nat → Nat} {Φ Φ1 : Hm} (h : QbR G x n L d p Φ) (h46 : Φ1 (x + 46) = some (o_ 9 [.ref (x + 47), .int (nI 0), .int 0])) (e : Φ1 (x + 47) = Φ (x + 47)) : QbR G x 0 (fun _ => 0) 0 p Φ1 := by
  obtain ⟨-, ⟨f, h2, h3⟩, h4, h5, h6, h7⟩ := h
  exact ⟨h46, ⟨f, e.trans h2, h3⟩, h4, h5, by omega, fun j hj => absurd hj (Nat.not_lt_zero j)⟩
/-- a message is taken out: the others move up -/
noncomputable def rmL (L : Nat → Nat) (i : Nat) : Nat → Nat := fun j => if j < i then L j else L (j + 1)
theorem shP_lt {p : Nat → Nat} {n i : Nat} (h : ∀ j, j < 13 → p j < 13) (hn : n ≤ 13) (hi : i < n) : ∀ j, j < 13 → shP p n i j < 13 := by
  intro j hj
  unfold shP
  split
  · exact h j hj
  · split
    · exact h _ (by omega)
    · split
      · exact h _ (by omega)
      · exact h j hj
theorem shP_inj {p : Nat → Nat} {n i : Nat} (hp : ∀ a b, a < 13 → b < 13 → p a = p b → a = b) (hn : n ≤ 13) (hi : i < n) : ∀ a b, a < 13 → b < 13 → shP p n i a = shP p n i b → a = b := by
  have key : ∀ j, j < 13 → ∃ k, k < 13 ∧ shP p n i j = p k ∧ ((j < i ∧ k = j) ∨ (i ≤ j ∧ j + 1 < n ∧ k = j + 1) ∨ (i ≤ j ∧ j + 1 = n ∧ k = i) ∨ (i ≤ j ∧ n < j + 1 ∧ k = j)) := by
    intro j hj
    unfold shP
    by_cases a : j < i
    · exact ⟨j, hj, if_pos a, Or.inl ⟨a, rfl⟩⟩
    · by_cases b : j + 1 < n
      · exact ⟨j + 1, by omega, by rw [if_neg a, if_pos b], Or.inr (Or.inl ⟨by omega, b, rfl⟩)⟩
      · by_cases c : j + 1 = n
        · exact ⟨i, by omega, by rw [if_neg a, if_neg b, if_pos c], Or.inr (Or.inr (Or.inl ⟨by omega, c, rfl⟩))⟩
        · exact ⟨j, hj, by rw [if_neg a, if_neg b, if_neg c], Or.inr (Or.inr (Or.inr ⟨by omega, by omega, rfl⟩))⟩
  intro a b ha hb q
  obtain ⟨k1, k1h, e1, c1⟩ := key a ha
  obtain ⟨k2, k2h, e2, c2⟩ := key b hb
  have e := hp k1 k2 k1h k2h (e1.symm.trans (q.trans e2))
  omega
theorem QbR.rem {G : EnvG} {x n i : Nat} {L : Nat → Nat} {d : Int32} {p : Nat → Nat} {f : Nat → Option Nat} {Φ Φ1 : Hm} (h : QbR G x n L d p Φ) (hi : i < n) (h46 : Φ1 (x + 46) = some (o_ 9 [.ref (x + 47), .int (nI (n - 1)), .int d])) (h1 : Φ1 (x + 47) = some (aq_ G 6 13 f)) (hf : ∀ j, j < 13 → f j = some (x + (48 + 2 * shP p n i j))) (e : ∀ j, j < 13 → Φ1 (x + (48 + 2 * j)) = Φ (x + (48 + 2 * j))) : QbR G x (n - 1) (rmL L i) d (shP p n i) Φ1 := by
  obtain ⟨-, -, h4, h5, h6, h7⟩ := h
  have hp := shP_lt h4 (n := n) (i := i) (by omega) hi
  refine ⟨h46, ⟨f, h1, hf⟩, hp, shP_inj h5 (by omega) hi, by omega, fun j hj => ?_⟩
  rw [e _ (hp j (by omega))]
  unfold rmL shP
  by_cases a1 : j < i
  · rw [if_pos a1, if_pos a1]
    exact h7 j (by omega)
  · rw [if_neg a1, if_neg a1, if_pos (by omega)]
    exact h7 (j + 1) (by omega)
/-- a removal under way -/
noncomputable def RmQ (p : Nat → Nat) (i q : Nat) (f : Nat → Option Nat) (x : Nat) : Prop := ∀ j, j < 13 → f j = some (x + (48 + 2 * if i ≤ j ∧ j < q then p (j + 1) else p j))
theorem RmQ.z {p : Nat → Nat} {i x : Nat} {f : Nat → Option Nat} (h : ∀ j, j < 13 → f j = some (x + (48 + 2 * p j))) : RmQ p i i f x := by
  intro j hj
  rw [if_neg (by omega)]
  exact h j hj
theorem RmQ.nx {p : Nat → Nat} {i q x : Nat} {f : Nat → Option Nat} (h : RmQ p i q f x) (hq : q + 1 < 13) : f (q + 1) = some (x + (48 + 2 * p (q + 1))) := by
  have e := h (q + 1) hq
  rw [if_neg (by omega)] at e
  exact e
theorem RmQ.s {p : Nat → Nat} {i q k x : Nat} {f : Nat → Option Nat} (h : RmQ p i q f x) (hk : k = q) (hi : i ≤ q) : RmQ p i (q + 1) (va_up f k (some (x + (48 + 2 * p (q + 1))))) x := by
  subst hk
  intro j hj
  by_cases e : j = k
  · subst e
    rw [if_pos (by omega)]
    exact if_pos rfl
  · have e2 : va_up f k (some (x + (48 + 2 * p (k + 1)))) j = f j := if_neg e
    rw [e2, h j hj]
    by_cases a : i ≤ j ∧ j < k
    · rw [if_pos a, if_pos (by omega)]
    · rw [if_neg a, if_neg (by omega)]
theorem RmQ.e {p : Nat → Nat} {i q n k x : Nat} {f : Nat → Option Nat} (h : RmQ p i q f x) (hq : q = n - 1) (hk : k = n - 1) (hi : i < n) : ∀ j, j < 13 → va_up f k (some (x + (48 + 2 * p i))) j = some (x + (48 + 2 * shP p n i j)) := by
  subst hk
  subst hq
  intro j hj
  unfold shP
  by_cases e : j = n - 1
  · subst e
    have e2 : va_up f (n - 1) (some (x + (48 + 2 * p i))) (n - 1) = some (x + (48 + 2 * p i)) := if_pos rfl
    rw [e2]
    by_cases a : n - 1 < i
    · omega
    · rw [if_neg a, if_neg (by omega), if_pos (by omega)]
  · have e2 : va_up f (n - 1) (some (x + (48 + 2 * p i))) j = f j := if_neg e
    rw [e2, h j hj]
    by_cases a : j < i
    · rw [if_neg (by omega), if_pos a]
    · by_cases b : j + 1 < n
      · rw [if_pos (by omega), if_neg a, if_pos b]
      · rw [if_neg (by omega), if_neg a, if_neg b, if_neg (by omega)]
/-- two messages change places -/
noncomputable def swN (L : Nat → Nat) (a b : Nat) : Nat → Nat := fun j => if j = b then L a else if j = a then L b else L j
theorem QbR.swap {G : EnvG} {x n a b ka kb : Nat} {L : Nat → Nat} {d : Int32} {p : Nat → Nat} {f : Nat → Option Nat} {Φ Φ1 : Hm} (h : QbR G x n L d p Φ) (ha : a < n) (hb : b < n) (hf : Φ (x + 47) = some (aq_ G 6 13 f)) (h46 : Φ1 (x + 46) = Φ (x + 46)) (h1 : Φ1 (x + 47) = some (aq_ G 6 13 (va_up (va_up f ka (some (x + (48 + 2 * p b)))) kb (some (x + (48 + 2 * p a)))))) (hka : ka = a) (hkb : kb = b) (e : ∀ j, j < 13 → Φ1 (x + (48 + 2 * j)) = Φ (x + (48 + 2 * j))) : QbR G x n (swN L a b) d (swN p a b) Φ1 := by
  subst hka
  subst hkb
  have hr := fun j (hj : j < 13) => h.row hf hj
  obtain ⟨h0, -, h4, h5, h6, h7⟩ := h
  have hp : ∀ j, j < 13 → swN p ka kb j < 13 := by
    intro j hj
    unfold swN
    split
    · exact h4 _ (by omega)
    · split
      · exact h4 _ (by omega)
      · exact h4 j hj
  have key : ∀ j, j < 13 → ∃ k, k < 13 ∧ swN p ka kb j = p k ∧ ((j = kb ∧ k = ka) ∨ (¬ j = kb ∧ j = ka ∧ k = kb) ∨ (¬ j = kb ∧ ¬ j = ka ∧ k = j)) := by
    intro j hj
    unfold swN
    by_cases q1 : j = kb
    · exact ⟨ka, by omega, if_pos q1, Or.inl ⟨q1, rfl⟩⟩
    · by_cases q2 : j = ka
      · exact ⟨kb, by omega, by rw [if_neg q1, if_pos q2], Or.inr (Or.inl ⟨q1, q2, rfl⟩)⟩
      · exact ⟨j, hj, by rw [if_neg q1, if_neg q2], Or.inr (Or.inr ⟨q1, q2, rfl⟩)⟩
  refine ⟨h46.trans h0, ⟨_, h1, fun j hj => ?_⟩, hp, fun u v hu hv q => ?_, h6, fun j hj => ?_⟩
  · unfold swN
    by_cases q1 : j = kb
    · subst q1
      rw [if_pos rfl]
      exact if_pos rfl
    · rw [if_neg q1]
      have e2 : va_up (va_up f ka (some (x + (48 + 2 * p kb)))) kb (some (x + (48 + 2 * p ka))) j = va_up f ka (some (x + (48 + 2 * p kb))) j := if_neg q1
      rw [e2]
      by_cases q2 : j = ka
      · subst q2
        rw [if_pos rfl]
        exact if_pos rfl
      · rw [if_neg q2]
        have e3 : va_up f ka (some (x + (48 + 2 * p kb))) j = f j := if_neg q2
        rw [e3]
        exact hr j hj
  · obtain ⟨k1, k1h, e1, c1⟩ := key u hu
    obtain ⟨k2, k2h, e2, c2⟩ := key v hv
    have e3 := h5 k1 k2 k1h k2h (e1.symm.trans (q.trans e2))
    omega
  · rw [e _ (hp j (by omega))]
    unfold swN
    by_cases q1 : j = kb
    · rw [if_pos q1, if_pos q1]
      exact h7 ka ha
    · rw [if_neg q1, if_neg q1]
      by_cases q2 : j = ka
      · rw [if_pos q2, if_pos q2]
        exact h7 kb hb
      · rw [if_neg q2, if_neg q2]
        exact h7 j hj
/-! the sender of the class -/
noncomputable def SdP (G : EnvG) (x : Nat) (c : Cf) (s : SN) (u : UN) (Φ : Hm) : Prop := ∃ fp : Nat → Int32, Φ (x + 74) = some (o_ 10 [.ref (x + 3), .ref (x + 46), .ref (x + 75), .ref (x + 77), .int (nI u.2.1), .ref (x + 78), .ref (x + 79), .int s.2.2.1, .long s.2.2.2.1, .int s.2.2.2.2]) ∧ Φ (x + 75) = some (o_ 7 [.ref (x + 76), .int (nI (plN c u.2.2 u.2.1))]) ∧ Φ (x + 77) = some (ai_ G 12 fp) ∧ (∀ j, j < u.2.1 → fp j = nI (u.2.2 j) ∧ u.2.2 j < 4) ∧ u.2.1 ≤ 12 ∧ Φ (x + 78) = some (ai_ G 4 s.1) ∧ Φ (x + 79) = some (ai_ G 4 s.2.1)
theorem SdP.mv {G : EnvG} {x : Nat} {c : Cf} {s : SN} {u : UN} {Φ Φ1 : Hm} (h : SdP G x c s u Φ) (e : ∀ j, j = 74 ∨ j = 75 ∨ j = 77 ∨ j = 78 ∨ j = 79 → Φ1 (x + j) = Φ (x + j)) : SdP G x c s u Φ1 := by
  obtain ⟨fp, h1, h2, h3, h4, h5, h6, h7⟩ := h
  exact ⟨fp, (e 74 (by omega)).trans h1, (e 75 (by omega)).trans h2, (e 77 (by omega)).trans h3, h4, h5, (e 78 (by omega)).trans h6, (e 79 (by omega)).trans h7⟩
theorem SdP.fr {G : EnvG} {x : Nat} {c : Cf} {s : SN} {u : UN} {md : Nat → Prop} {Φ Φ1 : Hm} (h : SdP G x c s u Φ) (hF : Fr x md Φ Φ1) (hm : ∀ j, md j → ¬ (j = 74 ∨ j = 75 ∨ j = 77 ∨ j = 78 ∨ j = 79)) : SdP G x c s u Φ1 := h.mv (fun j hj => hF _ (fun i q hi => hm i hi (by omega)))
theorem SdP.off {G : EnvG} {x k : Nat} {c : Cf} {s : SN} {u : UN} {e : va_E} {Φ Φ1 : Hm} (h : SdP G x c s u Φ) (h1 : Φ1 = fset Φ (x + k) e) (hk : ¬ (k = 74 ∨ k = 75 ∨ k = 77 ∨ k = 78 ∨ k = 79)) : SdP G x c s u Φ1 := h.mv (fun j hj => fset_fr h1 (by omega))
/-! the bytes of an effective template, field by field -/
noncomputable def fnT (k : Nat) : Nat := ([1, 1, 2, 1, 4, 8, 4, 4, 4] : List Nat).getD k 0
theorem fbT_fn : ∀ k, k < 9 → fbT k = nI (fnT k) ∧ fnT k ≤ 8 := by decide
noncomputable def smN (g : Nat → Int32) : Nat → Nat
  | 0 => 0
  | j + 1 => smN g j + fnT (g j).toNatClampNeg
theorem CpF.sum {G : EnvG} {x k m b : Nat} {f g : Nat → Int32} {Φ : Hm} (h : CpF G x k m b f g Φ) (hd : dF f m) : (∀ i, i ≤ m → nI (smN g (fM f (nI b) i)) = fB_ f (nI b) i ∧ smN g (fM f (nI b) i) ≤ 8 * i) ∧ ∀ j, j < fM f (nI b) m → ∃ q, q ≤ 8 ∧ g j = nI q := by
  constructor
  · intro i
    induction i with
    | zero => intro _; exact ⟨rfl, Nat.le_refl _⟩
    | succ i ih =>
      intro hi
      obtain ⟨h1, h2⟩ := ih (by omega)
      by_cases hb : bitI (f i) (nI b)
      · obtain ⟨⟨q, hq, e⟩, -⟩ := hd i (by omega)
        have e2 := h.2.2 i (by omega) hb
        obtain ⟨e3, e4⟩ := fbT_fn q (by omega)
        have e5 : (f i).toNatClampNeg = q := by
          rw [e]
          exact nI_clamp (by omega)
        rw [fM_y hb, fB_y hb, e5, e3, ← h1]
        have e6 : smN g (fM f (nI b) i + 1) = smN g (fM f (nI b) i) + fnT q := by
          show smN g (fM f (nI b) i) + fnT (g (fM f (nI b) i)).toNatClampNeg = _
          rw [e2, e5]
        rw [e6]
        exact ⟨(nI_add _ _).symm, by omega⟩
      · rw [fM_n hb, fB_n hb]
        exact ⟨h1, by omega⟩
  · intro j hj
    have key : ∀ i, i ≤ m → j < fM f (nI b) i → ∃ a, a < i ∧ bitI (f a) (nI b) ∧ fM f (nI b) a = j := by
      intro i
      induction i with
      | zero => intro _ q; exact absurd q (Nat.not_lt_zero j)
      | succ i ih =>
        intro hi q
        by_cases hb : bitI (f i) (nI b)
        · rw [fM_y hb] at q
          by_cases e : j = fM f (nI b) i
          · exact ⟨i, by omega, hb, e.symm⟩
          · obtain ⟨a, a1, a2⟩ := ih (by omega) (by omega)
            exact ⟨a, by omega, a2⟩
        · rw [fM_n hb] at q
          obtain ⟨a, a1, a2⟩ := ih (by omega) q
          exact ⟨a, by omega, a2⟩
    obtain ⟨a, a1, a2, a3⟩ := key m (Nat.le_refl m) hj
    obtain ⟨⟨q, hq, e⟩, -⟩ := hd a a1
    exact ⟨q, hq, by rw [← a3, h.2.2 a a1 a2, e]⟩
theorem CfA.eg {G : EnvG} {x t s u : Nat} {c : Cf} {Φ : Hm} (h : CfA G x t s c Φ) (hg : CfG c) (hu : u < 4) : ∃ (a : Int32) (g : Nat → Int32), Φ (x + (10 + 4 * u)) = some (o_ 12 [.ref (x + (10 + 4 * u + 1)), .int (nI (esN c u)), .int a, .int (nI (rlN c u))]) ∧ Φ (x + (10 + 4 * u + 1)) = some (ai_ G 9 g) ∧ (∀ j, j < esN c u → ∃ q, q ≤ 8 ∧ g j = nI q) ∧ smN g (esN c u) = rlN c u := by
  obtain ⟨⟨a, g0, hc, hr⟩, he, hl, -, hrl⟩ := h.ec hg hu
  obtain ⟨m, f, g, h1, h2, h3, h4, h5⟩ := h.2.2 u hu
  obtain ⟨k1, k2⟩ := CpF.sum h5 h4
  have e1 := hc.symm.trans h5.1
  have e2 := (Prod.mk.inj (Sum.inr.inj (Option.some.inj e1))).2
  have e3 : Value.int (nI (esN c u)) = Value.int (nI (fM f (nI s) m)) := congrArg (fun l : List Value => l.getD 1 .null) e2
  have e4 : Value.int (nI (rlN c u)) = Value.int (fB_ f (nI s) m) := congrArg (fun l : List Value => l.getD 3 .null) e2
  have hle := fM_le f (nI s) m
  have e5 : esN c u = fM f (nI s) m := (nI_eq (a := esN c u) (b := fM f (nI s) m) (by omega) (by omega)).mp (by injection e3)
  have e6 : nI (rlN c u) = fB_ f (nI s) m := by injection e4
  obtain ⟨k3, k4⟩ := k1 m (Nat.le_refl m)
  refine ⟨a, g, hc, h5.2.1, fun j hj => k2 j (by omega), ?_⟩
  rw [e5]
  exact (nI_eq (a := smN g (fM f (nI s) m)) (b := rlN c u) (by omega) (by omega)).mp (k3.trans e6.symm)
theorem moN_y {c : Cf} {u : Nat} {t : Int32} (h : t = nI u) : moN c u t = rlN c u := if_pos h
theorem moN_n {c : Cf} {u : Nat} {t : Int32} (h : ¬ t = nI u) : moN c u t = rlN c u + 4 := if_neg h
theorem ovN_i {c : Cf} {u l r m : Nat} {t : Int32} {z : Nat × SN × QN} (h7 : c 7 = nI r) (hr : r ≤ 600) (hm : m = l + moN c u t) (hb : m ≤ 2000) : nI m ≤ c 7 ↔ ¬ ovN c u (l, t, z) := by
  unfold ovN
  rw [h7, Int32.le_iff_toInt_le, nI_toInt (by omega), nI_toInt (by omega)]
  show _ ↔ ¬ ((r : Int) < ((l + moN c u t : Nat) : Int))
  rw [← hm]
  omega
theorem pts_y {c : Cf} {now : Int32} {s : SN} {u l l2 k : Nat} {a b : Nat → Int32} {r : Int32 × Int64 × Int32} (h : ptI c now s u = (l, a, b, r)) (hd : dueP c now (a, b, r) u) (hl : l2 = (if l = 16 then l + 4 else l) + 4 + 4 * esN c u) (hk : k = u) : ptI c now s (u + 1) = (l2, upd a k (r.1 + 1), upd b k now, r) := by
  subst hl
  subst hk
  exact ptI_y h hd
theorem smN_mono (g : Nat → Int32) {i : Nat} : ∀ k, i ≤ k → smN g i ≤ smN g k := by
  intro k
  induction k with
  | zero =>
    intro h
    rw [Nat.le_zero.mp h]
    exact Nat.le_refl _
  | succ k ih =>
    intro h
    by_cases e : i = k + 1
    · rw [e]
      exact Nat.le_refl _
    · have h1 := ih (by omega)
      show smN g i ≤ smN g k + fnT (g k).toNatClampNeg
      omega
theorem smN_s {g : Nat → Int32} {i q : Nat} (e : g i = nI q) (hq : q ≤ 8) : smN g (i + 1) = smN g i + fnT q := by
  show smN g i + fnT (g i).toNatClampNeg = _
  rw [e, nI_clamp (by omega)]
/-- the whole template u: its fields -/
theorem CfA.wm {G : EnvG} {x t s u : Nat} {c : Cf} {Φ : Hm} (h : CfA G x t s c Φ) (hg : CfG c) (hu : u < 4) : ∃ (m : Nat) (b : Int32), m ≤ 9 ∧ Φ (x + (8 + 4 * u)) = some (o_ 12 [.ref (x + (8 + 4 * u + 1)), .int (nI m), .int (tfF c u), .int b]) := by
  by_cases ht : u < t
  · obtain ⟨m, f, h1, -, -, h4, -⟩ := h.wt ht hu
    exact ⟨m, _, h1, h4⟩
  · obtain ⟨m, f, -, h2, h3, -, h5, -⟩ := h.1.wt (u := u) hu (by omega)
    have e0 := h2 (by omega)
    subst e0
    have e1 : szC c u = 0 := by
      unfold szC
      rw [hg.2.1 u t (by omega) h.1.1 (by omega)]
      decide
    have e2 : tfF c u = 0 := by
      unfold tfF
      rw [e1]
      rfl
    refine ⟨0, fB_ f 511 0, by omega, ?_⟩
    rw [e2]
    exact h5
/-- a template with a field counts as not sent -/
noncomputable def fgW (c : Cf) (a : Int32) (f : Nat → Int32) : Nat → Int32 := fun j => @ite Int32 (bitI a (tfF c j)) (Classical.propDecidable _) 0 (f j)
/-- a record more -/
theorem SdP.add {G : EnvG} {x t pn8 pl8 : Nat} {c : Cf} {s : SN} {u : UN} {fp f8 : Nat → Int32} {Φ1 : Hm} (h4 : ∀ j, j < u.2.1 → fp j = nI (u.2.2 j) ∧ u.2.2 j < 4) (h5 : u.2.1 ≤ 12) (ht : t < 4) (h74 : Φ1 (x + 74) = some (o_ 10 [.ref (x + 3), .ref (x + 46), .ref (x + 75), .ref (x + 77), .int (nI pn8), .ref (x + 78), .ref (x + 79), .int s.2.2.1, .long s.2.2.2.1, .int s.2.2.2.2])) (h75 : Φ1 (x + 75) = some (o_ 7 [.ref (x + 76), .int (nI pl8)])) (h77 : Φ1 (x + 77) = some (ai_ G 12 f8)) (h78 : Φ1 (x + 78) = some (ai_ G 4 s.1)) (h79 : Φ1 (x + 79) = some (ai_ G 4 s.2.1)) (hd : (u.2.1 < 12 ∧ pn8 = u.2.1 + 1 ∧ pl8 = plN c u.2.2 u.2.1 + rlN c t ∧ f8 = upd fp u.2.1 (nI t)) ∨ (¬ u.2.1 < 12 ∧ pn8 = u.2.1 ∧ pl8 = plN c u.2.2 u.2.1 ∧ f8 = fp)) : SdP G x c s (uPu u t) Φ1 := by
  rcases hd with ⟨q, rfl, rfl, rfl⟩ | ⟨q, rfl, rfl, rfl⟩
  · have e : uPu u t = (u.1, u.2.1 + 1, fun j => if j = u.2.1 then t else u.2.2 j) := if_pos q
    rw [e]
    refine ⟨_, h74, ?_, h77, fun j hj => ?_, by show u.2.1 + 1 ≤ 12; omega, h78, h79⟩
    · have e2 : plN c (fun j => if j = u.2.1 then t else u.2.2 j) (u.2.1 + 1) = plN c u.2.2 u.2.1 + rlN c t := by
        show plN c (fun j => if j = u.2.1 then t else u.2.2 j) u.2.1 + rlN c (if u.2.1 = u.2.1 then t else u.2.2 u.2.1) = _
        rw [if_pos rfl, plN_ext u.2.1 (Q := u.2.2) (fun j hj => if_neg (by omega))]
      show Φ1 (x + 75) = some (o_ 7 [.ref (x + 76), .int (nI (plN c (fun j => if j = u.2.1 then t else u.2.2 j) (u.2.1 + 1)))])
      rw [e2]
      exact h75
    · show upd fp u.2.1 (nI t) j = nI (if j = u.2.1 then t else u.2.2 j) ∧ (if j = u.2.1 then t else u.2.2 j) < 4
      replace hj : j < u.2.1 + 1 := hj
      by_cases e2 : j = u.2.1
      · subst e2
        rw [if_pos rfl, upd_at]
        exact ⟨rfl, ht⟩
      · rw [if_neg e2, upd_ne e2]
        exact h4 j (by omega)
  · have e : uPu u t = u := if_neg q
    rw [e]
    exact ⟨f8, h74, h75, h77, h4, h5, h78, h79⟩
theorem g0_eq {c : Cf} {now : Int32} {s s1 : SN} {q : QN} {l : Nat} (h : bgS c now s = (l, s1)) : g0N c now s q = (l, -1, 0, s1, q) := by
  unfold g0N
  rw [h]
theorem rcs_f {c : Cf} {now : Int32} {P : Nat → Nat} {g : LN} {k l l2 rc : Nat} {t t2 : Int32} {z : SN × QN} (h : rcI c now P g k = (l, t, rc, z)) (ho : ¬ ovN c (P k) (l, t, rc, z)) (hl : l2 = l + moN c (P k) t) (ht : t2 = nI (P k)) : rcI c now P g (k + 1) = (l2, t2, rc + 1, z) := by
  subst hl
  subst ht
  exact rcI_n h ho
theorem rcs_o {c : Cf} {now : Int32} {P : Nat → Nat} {g : LN} {k l l0 l2 rc : Nat} {t t2 : Int32} {s s1 : SN} {q q1 : QN} (h : rcI c now P g k = (l, t, rc, s, q)) (ho : ovN c (P k) (l, t, rc, s, q)) (hu : P k < 4) (hb : bgS c now (enS rc s) = (l0, s1)) (hq : enQ l q = q1) (hl : l2 = l0 + rlN c (P k) + 4) (ht : t2 = nI (P k)) : rcI c now P g (k + 1) = (l2, t2, 1, s1, q1) := by
  subst hl
  subst ht
  rw [rcI_y h ho]
  have hm : moN c (P k) (-1) = rlN c (P k) + 4 := moN_n (fun e => by
    have e1 := congrArg Int32.toInt e
    rw [nI_toInt (by omega), show (-1 : Int32).toInt = -1 from by decide] at e1
    omega)
  have e : nxN c now (l, t, rc, s, q) = (l0, -1, 0, s1, q1) := by
    show ((bgS c now (enS rc s)).1, (-1 : Int32), 0, (bgS c now (enS rc s)).2, enQ l q) = _
    rw [hb, hq]
  rw [e]
  show (l0 + moN c (P k) (-1), nI (P k), 0 + 1, s1, q1) = _
  rw [hm]
  rfl
theorem SdP.eq0 {G : EnvG} {x : Nat} {c : Cf} {s : SN} {u u2 : UN} {Φ : Hm} (e : u2.2 = u.2) (h : SdP G x c s u Φ) : SdP G x c s u2 Φ := by
  unfold SdP
  rw [e]
  exact h
theorem SdP.eq1 {G : EnvG} {x : Nat} {c : Cf} {s : SN} {u1 u2 : UN} {Φ : Hm} (e : u2 = u1) (h : SdP G x c s u1 Φ) : SdP G x c s u2 Φ := by
  rw [e]
  exact h

set_option maxHeartbeats 4000000 in
set_option maxRecDepth 100000 in
theorem f_X2_exportAll (G : EnvG) (l : Launch) (Φ : Hm) (sz : Nat) (x : Nat) (hc80_ : Φ (x + 80) = some (o_ 4 [.ref (x + 3), .ref (x + 74), .ref (x + 81), .ref (x + 95), .int 0, .int 1, .int 1, .int 0, .int 0, .int 0, .long 0, .long 0, .long 0])) (hc81_ : Φ (x + 81) = some (o_ 6 [.ref (x + 82), .int 0])) : Ct G l yX2_exportAll wsX2_exportAll ({ frames := 0, cells := 0, slots := 0, locals := 0 }) 0 0 [.ref (x + 80)] Φ sz (fun v Φ1 sz1 => v = none ∧ sz1 = sz ∧ (∀ b9 : Nat, Φ1 b9 = Φ b9)) := by
  refine Ct.of (cc := cX2_exportAll) (maxL := 2) (ret := none) (by decide) rfl (Nat.le_of_ble_eq_true rfl) ?_
  intro p9 e9 s9 m9 w9 t9 k9 B
  show Z p9 l e9 _ s9 m9 _ w9 t9 k9 _ G 2 0 [(0, .ref (x + 80))] [] Φ sz 0 0
  refine z_aload_n B dX2_exportAll_0 rfl 0 rfl ?_
  refine z_get (ref := "FlowExporter$Exporter") (C := RX2) (T := TX2) (N := 13) (ci := 4) (v := .ref (x + 81)) B (by decide +kernel) rfl 2 (by decide) (by decide +kernel) rfl hc80_ rfl dX2_exportAll_1 ?_
  refine z_get (ref := "FlowExporter$FlowTable") (C := RX4) (T := TX4) (N := 2) (ci := 6) (v := .int 0) B (by decide +kernel) rfl 1 (by decide) (by decide +kernel) rfl hc81_ rfl dX2_exportAll_4 ?_
  refine z_istore_n (lv' := [(1, .int 0), (0, .ref (x + 80))]) B dX2_exportAll_7 rfl (Nat.le_of_ble_eq_true rfl) rfl ?_
  refine z_iload_n B dX2_exportAll_8 rfl 0 rfl ?_
  refine z_if_le (tgt := 23) B dX2_exportAll_9 rfl (fun c_1 => ?_) (fun h9 => absurd (by decide) h9)
  exact z_ret_v B dX2_exportAll_23 ⟨rfl, rfl, (fun b9 => rfl)⟩

set_option maxHeartbeats 4000000 in
set_option maxRecDepth 100000 in
theorem f_X8_sendPending (G : EnvG) (l : Launch) (Φ : Hm) (sz : Nat) (x : Nat) (hc74_ : Φ (x + 74) = some (o_ 10 [.ref (x + 3), .ref (x + 46), .ref (x + 75), .ref (x + 77), .int 0, .ref (x + 78), .ref (x + 79), .int 0, .long 0, .int 0])) : Ct G l yX8_sendPending wsX8_sendPending ({ frames := 0, cells := 0, slots := 0, locals := 0 }) 0 0 [.ref (x + 74), .int 0] Φ sz (fun v Φ1 sz1 => v = none ∧ sz1 = sz ∧ (∀ b9 : Nat, Φ1 b9 = Φ b9)) := by
  refine Ct.of (cc := cX8_sendPending) (maxL := 11) (ret := none) (by decide) rfl (Nat.le_of_ble_eq_true rfl) ?_
  intro p9 e9 s9 m9 w9 t9 k9 B
  show Z p9 l e9 _ s9 m9 _ w9 t9 k9 _ G 11 0 [(0, .ref (x + 74)), (1, .int 0)] [] Φ sz 0 0
  refine z_aload_n B dX8_sendPending_0 rfl 0 rfl ?_
  refine z_get (ref := "FlowExporter$Sender") (C := RX8) (T := TX8) (N := 10) (ci := 10) (v := .int 0) B (by decide +kernel) rfl 4 (by decide) (by decide +kernel) rfl hc74_ rfl dX8_sendPending_1 ?_
  refine z_if_ne (tgt := 8) B dX8_sendPending_4 rfl (fun h9 => absurd (by decide) h9) (fun c_1 => ?_)
  exact z_ret_v B dX8_sendPending_7 ⟨rfl, rfl, (fun b9 => rfl)⟩

set_option maxHeartbeats 4000000 in
set_option maxRecDepth 100000 in
theorem f_X2_exportAllAndSend (G : EnvG) (l : Launch) (Φ : Hm) (sz : Nat) (x : Nat) (hc74_ : Φ (x + 74) = some (o_ 10 [.ref (x + 3), .ref (x + 46), .ref (x + 75), .ref (x + 77), .int 0, .ref (x + 78), .ref (x + 79), .int 0, .long 0, .int 0])) (hc80_ : Φ (x + 80) = some (o_ 4 [.ref (x + 3), .ref (x + 74), .ref (x + 81), .ref (x + 95), .int 0, .int 1, .int 1, .int 0, .int 0, .int 0, .long 0, .long 0, .long 0])) (hc81_ : Φ (x + 81) = some (o_ 6 [.ref (x + 82), .int 0])) : Ct G l yX2_exportAllAndSend wsX2_exportAllAndSend ({ frames := 1, cells := 0, slots := 0, locals := 30 }) 0 0 [.ref (x + 80)] Φ sz (fun v Φ1 sz1 => v = some (.int 0) ∧ sz1 = sz ∧ (∀ b9 : Nat, Φ1 b9 = Φ b9)) := by
  refine Ct.of (cc := cX2_exportAllAndSend) (maxL := 2) (ret := (some .int)) (by decide) rfl (Nat.le_of_ble_eq_true rfl) ?_
  intro p9 e9 s9 m9 w9 t9 k9 B
  show Z p9 l e9 _ s9 m9 _ w9 t9 k9 _ G 2 0 [(0, .ref (x + 80))] [] Φ sz 0 0
  refine z_aload_n B dX2_exportAllAndSend_0 rfl 0 rfl ?_
  refine z_get (ref := "FlowExporter$Exporter") (C := RX2) (T := TX2) (N := 13) (ci := 4) (v := .ref (x + 81)) B (by decide +kernel) rfl 2 (by decide) (by decide +kernel) rfl hc80_ rfl dX2_exportAllAndSend_1 ?_
  refine z_get (ref := "FlowExporter$FlowTable") (C := RX4) (T := TX4) (N := 2) (ci := 6) (v := .int 0) B (by decide +kernel) rfl 1 (by decide) (by decide +kernel) rfl hc81_ rfl dX2_exportAllAndSend_4 ?_
  refine z_istore_n (lv' := [(1, .int 0), (0, .ref (x + 80))]) B dX2_exportAllAndSend_7 rfl (Nat.le_of_ble_eq_true rfl) rfl ?_
  refine z_aload_n B dX2_exportAllAndSend_8 rfl 1 rfl ?_
  refine z_callV (As := []) (rest := []) B (f_X2_exportAll G l Φ sz x hc80_ hc81_) (cwV 0 B.1.2.2.2.2 gX2_exportAllAndSend_X2_exportAll rfl rfl rfl (by decide +kernel) ⟨Nat.le_of_ble_eq_true rfl, Nat.le_of_ble_eq_true rfl⟩) hc80_ rfl rfl rfl rfl (Nat.le_of_ble_eq_true rfl) dX2_exportAllAndSend_9 ⟨Nat.le_of_ble_eq_true rfl, Nat.le_of_ble_eq_true rfl⟩ (fun v1 Φ1 sz1 st1 hp1 hs1 => ?_)
  obtain ⟨rfl, hq1, fr1⟩ := hp1
  replace hq1 : sz1 = sz := hq1
  subst sz1
  replace hs1 : st1 = [] := hs1
  subst st1
  refine z_aload_n B dX2_exportAllAndSend_12 rfl 1 rfl ?_
  have h_1 : Φ1 (x + 80) = some (o_ 4 [.ref (x + 3), .ref (x + 74), .ref (x + 81), .ref (x + 95), .int 0, .int 1, .int 1, .int 0, .int 0, .int 0, .long 0, .long 0, .long 0]) := ((fr1 (x + 80)).trans hc80_)
  refine z_get (ref := "FlowExporter$Exporter") (C := RX2) (T := TX2) (N := 13) (ci := 4) (v := .ref (x + 74)) B (by decide +kernel) rfl 1 (by decide) (by decide +kernel) rfl h_1 rfl dX2_exportAllAndSend_13 ?_
  refine z_aload_n B dX2_exportAllAndSend_16 rfl 1 rfl ?_
  refine z_get (ref := "FlowExporter$Exporter") (C := RX2) (T := TX2) (N := 13) (ci := 4) (v := .int 0) B (by decide +kernel) rfl 4 (by decide) (by decide +kernel) rfl h_1 rfl dX2_exportAllAndSend_17 ?_
  have h_2 : Φ1 (x + 74) = some (o_ 10 [.ref (x + 3), .ref (x + 46), .ref (x + 75), .ref (x + 77), .int 0, .ref (x + 78), .ref (x + 79), .int 0, .long 0, .int 0]) := ((fr1 (x + 74)).trans hc74_)
  refine z_callV (As := [.int 0]) (rest := []) B (f_X8_sendPending G l Φ1 sz x h_2) (cwV 1 B.1.2.2.2.2 gX2_exportAllAndSend_X8_sendPending rfl rfl rfl (by decide +kernel) ⟨Nat.le_of_ble_eq_true rfl, Nat.le_of_ble_eq_true rfl⟩) h_2 rfl rfl rfl rfl (Nat.le_of_ble_eq_true rfl) dX2_exportAllAndSend_20 ⟨Nat.le_of_ble_eq_true rfl, Nat.le_of_ble_eq_true rfl⟩ (fun v2 Φ2 sz2 st2 hp2 hs2 => ?_)
  obtain ⟨rfl, hq2, fr2⟩ := hp2
  replace hq2 : sz2 = sz := hq2
  subst sz2
  replace hs2 : st2 = [] := hs2
  subst st2
  refine z_iload_n B dX2_exportAllAndSend_23 rfl 0 rfl ?_
  exact z_ret_i B dX2_exportAllAndSend_24 ⟨rfl, rfl, (fun b9 => ((fr2 b9).trans ((fr1 b9).trans rfl)))⟩

set_option maxHeartbeats 4000000 in
set_option maxRecDepth 100000 in
theorem f_X2_bitsOfInverse (G : EnvG) (l : Launch) (Φ : Hm) (sz : Nat) (x : Nat)  : Ct G l yX2_bitsOfInverse wsX2_bitsOfInverse ({ frames := 0, cells := 0, slots := 0, locals := 0 }) 0 0 [.int 1] Φ sz (fun v Φ1 sz1 => v = some (.int 1065353216) ∧ sz1 = sz ∧ (∀ b9 : Nat, Φ1 b9 = Φ b9)) := by
  refine Ct.of (cc := cX2_bitsOfInverse) (maxL := 4) (ret := (some .int)) (by decide) rfl (Nat.le_of_ble_eq_true rfl) ?_
  intro p9 e9 s9 m9 w9 t9 k9 B
  show Z p9 l e9 _ s9 m9 _ w9 t9 k9 _ G 4 0 [(0, .int 1)] [] Φ sz 0 0
  refine z_iload_n B dX2_bitsOfInverse_0 rfl 0 rfl ?_
  refine z_iconst (v := 1) B dX2_bitsOfInverse_1 rfl ?_
  refine z_icmp_ge (tgt := 7) B dX2_bitsOfInverse_2 rfl (fun c_1 => ?_) (fun h9 => absurd (by decide) h9)
  refine z_iconst (v := 0) B dX2_bitsOfInverse_7 rfl ?_
  refine z_istore_n (lv' := [(1, .int 0), (0, .int 1)]) B dX2_bitsOfInverse_8 rfl (Nat.le_of_ble_eq_true rfl) rfl ?_
  refine z_iload_n B dX2_bitsOfInverse_9 rfl 0 rfl ?_
  refine z_bipush (v := 30) B dX2_bitsOfInverse_10 rfl ?_
  refine z_icmp_ge (tgt := 28) B dX2_bitsOfInverse_12 rfl (fun h9 => absurd h9 (by decide)) (fun c_2 => ?_)
  refine z_iconst (v := 1) B dX2_bitsOfInverse_15 rfl ?_
  refine z_iload_n B dX2_bitsOfInverse_16 rfl 0 rfl ?_
  refine z_ishl B dX2_bitsOfInverse_17 ?_
  refine z_top (st1 := [.int 1]) (congrArg (fun w9 : Int32 => ([.int w9] : List Value)) (show ((1 : Int32) <<< ((0 : Int32) &&& (31 : Int32)) : Int32) = 1 by decide +kernel)) ?_
  refine z_iload_n B dX2_bitsOfInverse_18 rfl 1 rfl ?_
  refine z_icmp_ge (tgt := 28) B dX2_bitsOfInverse_19 rfl (fun c_3 => ?_) (fun h9 => absurd (by decide) h9)
  refine z_lconst (v := 1) B dX2_bitsOfInverse_28 rfl ?_
  refine z_bipush (v := 23) B dX2_bitsOfInverse_29 rfl ?_
  refine z_iload_n B dX2_bitsOfInverse_31 rfl 0 rfl ?_
  refine z_iadd B dX2_bitsOfInverse_32 ?_
  refine z_top (st1 := [.int 23, .long 1]) (congrArg (fun w9 : Int32 => ([.int w9, .long 1] : List Value)) (show (23 + 0 : Int32) = 23 by decide +kernel)) ?_
  refine z_lshl (v := 8388608) B dX2_bitsOfInverse_33 (by decide +kernel) ?_
  refine z_iload_n B dX2_bitsOfInverse_34 rfl 1 rfl ?_
  refine z_iconst (v := 2) B dX2_bitsOfInverse_35 rfl ?_
  refine z_idiv B dX2_bitsOfInverse_36 (by decide) ?_
  refine z_top (st1 := [.int 0, .long 8388608]) (congrArg (fun w9 : Int32 => ([.int w9, .long 8388608] : List Value)) (show (1 / 2 : Int32) = 0 by decide +kernel)) ?_
  refine z_i2l (v := 0) B dX2_bitsOfInverse_37 (by decide +kernel) ?_
  refine z_ladd B dX2_bitsOfInverse_38 ?_
  refine z_top (st1 := [.long 8388608]) (congrArg (fun w9 : Int64 => ([.long w9] : List Value)) (show (8388608 + 0 : Int64) = 8388608 by decide +kernel)) ?_
  refine z_iload_n B dX2_bitsOfInverse_39 rfl 1 rfl ?_
  refine z_i2l (v := 1) B dX2_bitsOfInverse_40 (by decide +kernel) ?_
  refine z_ldiv B dX2_bitsOfInverse_41 (by decide) ?_
  refine z_top (st1 := [.long 8388608]) (congrArg (fun w9 : Int64 => ([.long w9] : List Value)) (show (8388608 / 1 : Int64) = 8388608 by decide +kernel)) ?_
  refine z_lstore_n (lv' := [(2, .long 8388608), (1, .int 0), (0, .int 1)]) B dX2_bitsOfInverse_42 rfl (Nat.le_of_ble_eq_true rfl) rfl ?_
  refine z_bipush (v := 127) B dX2_bitsOfInverse_43 rfl ?_
  refine z_iload_n B dX2_bitsOfInverse_45 rfl 1 rfl ?_
  refine z_isub B dX2_bitsOfInverse_46 ?_
  refine z_top (st1 := [.int 127]) (congrArg (fun w9 : Int32 => ([.int w9] : List Value)) (show (127 - 0 : Int32) = 127 by decide +kernel)) ?_
  refine z_bipush (v := 23) B dX2_bitsOfInverse_47 rfl ?_
  refine z_ishl B dX2_bitsOfInverse_49 ?_
  refine z_top (st1 := [.int 1065353216]) (congrArg (fun w9 : Int32 => ([.int w9] : List Value)) (show ((127 : Int32) <<< ((23 : Int32) &&& (31 : Int32)) : Int32) = 1065353216 by decide +kernel)) ?_
  refine z_lload_n B dX2_bitsOfInverse_50 rfl 0 rfl ?_
  refine z_ldc2 (v := 8388608) B (by decide +kernel) dX2_bitsOfInverse_51 ?_
  refine z_lsub B dX2_bitsOfInverse_54 ?_
  refine z_top (st1 := [.long 0, .int 1065353216]) (congrArg (fun w9 : Int64 => ([.long w9, .int 1065353216] : List Value)) (show (8388608 - 8388608 : Int64) = 0 by decide +kernel)) ?_
  refine z_l2i (v := 0) B dX2_bitsOfInverse_55 (by decide +kernel) ?_
  refine z_iadd B dX2_bitsOfInverse_56 ?_
  refine z_top (st1 := [.int 1065353216]) (congrArg (fun w9 : Int32 => ([.int w9] : List Value)) (show (1065353216 + 0 : Int32) = 1065353216 by decide +kernel)) ?_
  exact z_ret_i B dX2_bitsOfInverse_57 ⟨rfl, rfl, (fun b9 => rfl)⟩

set_option maxHeartbeats 4000000 in
set_option maxRecDepth 100000 in
theorem f_X1_effective_0 (G : EnvG) (l : Launch) (Φ : Hm) (sz : Nat) (x : Nat) (hc3_ : Φ (x + 3) = some (o_ 3 [.ref (x + 4), .ref (x + 5), .ref (x + 6), .ref (x + 7), .int 1, .int 511])) (hc7_ : Φ (x + 7) = some (aq_ G 4 4 (va_up (va_up (va_up (va_up (fun _ => none) (0 : Int32).toNatClampNeg (some (x + 10))) (1 : Int32).toNatClampNeg (some (x + 14))) (2 : Int32).toNatClampNeg (some (x + 18))) (3 : Int32).toNatClampNeg (some (x + 22))))) : Ct G l yX1_effective wsX1_effective ({ frames := 0, cells := 0, slots := 0, locals := 0 }) 0 0 [.ref (x + 3), .int 0] Φ sz (fun v Φ1 sz1 => v = some (.ref (x + 10)) ∧ sz1 = sz ∧ (∀ b9 : Nat, Φ1 b9 = Φ b9)) := by
  refine Ct.of (cc := cX1_effective) (maxL := 2) (ret := (some (.object "FlowExporter$Template"))) (by decide) rfl (Nat.le_of_ble_eq_true rfl) ?_
  intro p9 e9 s9 m9 w9 t9 k9 B
  show Z p9 l e9 _ s9 m9 _ w9 t9 k9 _ G 2 0 [(0, .ref (x + 3)), (1, .int 0)] [] Φ sz 0 0
  refine z_aload_n B dX1_effective_0 rfl 0 rfl ?_
  refine z_get (ref := "FlowExporter$Config") (C := RX1) (T := TX1) (N := 6) (ci := 3) (v := .ref (x + 7)) B (by decide +kernel) rfl 3 (by decide) (by decide +kernel) rfl hc3_ rfl dX1_effective_1 ?_
  refine z_iload_n B dX1_effective_4 rfl 1 rfl ?_
  refine z_if_lt (tgt := 17) B dX1_effective_5 rfl (fun h9 => absurd h9 (by decide)) (fun c_1 => ?_)
  refine z_iload_n B dX1_effective_8 rfl 1 rfl ?_
  refine z_iconst (v := 4) B dX1_effective_9 rfl ?_
  refine z_icmp_ge (tgt := 17) B dX1_effective_10 rfl (fun h9 => absurd h9 (by decide)) (fun c_2 => ?_)
  refine z_iload_n B dX1_effective_13 rfl 1 rfl ?_
  refine z_goto (tgt := 18) B dX1_effective_14 rfl ?_
  refine z_aald (b := x + 10) B rfl hc7_ (vin rfl) rfl dX1_effective_18 ?_
  exact z_ret_a B dX1_effective_19 ⟨rfl, rfl, (fun b9 => rfl)⟩

set_option maxHeartbeats 4000000 in
set_option maxRecDepth 100000 in
theorem f_X1_template_0 (G : EnvG) (l : Launch) (Φ : Hm) (sz : Nat) (x : Nat) (hc3_ : Φ (x + 3) = some (o_ 3 [.ref (x + 4), .ref (x + 5), .ref (x + 6), .ref (x + 7), .int 1, .int 511])) (hc6_ : Φ (x + 6) = some (aq_ G 4 4 (va_up (va_up (va_up (va_up (fun _ => none) (0 : Int32).toNatClampNeg (some (x + 8))) (1 : Int32).toNatClampNeg (some (x + 12))) (2 : Int32).toNatClampNeg (some (x + 16))) (3 : Int32).toNatClampNeg (some (x + 20))))) : Ct G l yX1_template wsX1_template ({ frames := 0, cells := 0, slots := 0, locals := 0 }) 0 0 [.ref (x + 3), .int 0] Φ sz (fun v Φ1 sz1 => v = some (.ref (x + 8)) ∧ sz1 = sz ∧ (∀ b9 : Nat, Φ1 b9 = Φ b9)) := by
  refine Ct.of (cc := cX1_template) (maxL := 2) (ret := (some (.object "FlowExporter$Template"))) (by decide) rfl (Nat.le_of_ble_eq_true rfl) ?_
  intro p9 e9 s9 m9 w9 t9 k9 B
  show Z p9 l e9 _ s9 m9 _ w9 t9 k9 _ G 2 0 [(0, .ref (x + 3)), (1, .int 0)] [] Φ sz 0 0
  refine z_aload_n B dX1_template_0 rfl 0 rfl ?_
  refine z_get (ref := "FlowExporter$Config") (C := RX1) (T := TX1) (N := 6) (ci := 3) (v := .ref (x + 6)) B (by decide +kernel) rfl 2 (by decide) (by decide +kernel) rfl hc3_ rfl dX1_template_1 ?_
  refine z_iload_n B dX1_template_4 rfl 1 rfl ?_
  refine z_if_lt (tgt := 17) B dX1_template_5 rfl (fun h9 => absurd h9 (by decide)) (fun c_1 => ?_)
  refine z_iload_n B dX1_template_8 rfl 1 rfl ?_
  refine z_iconst (v := 4) B dX1_template_9 rfl ?_
  refine z_icmp_ge (tgt := 17) B dX1_template_10 rfl (fun h9 => absurd h9 (by decide)) (fun c_2 => ?_)
  refine z_iload_n B dX1_template_13 rfl 1 rfl ?_
  refine z_goto (tgt := 18) B dX1_template_14 rfl ?_
  refine z_aald (b := x + 8) B rfl hc6_ (vin rfl) rfl dX1_template_18 ?_
  exact z_ret_a B dX1_template_19 ⟨rfl, rfl, (fun b9 => rfl)⟩

set_option maxHeartbeats 4000000 in
set_option maxRecDepth 100000 in
theorem f_X8_mustSend (G : EnvG) (l : Launch) (Φ : Hm) (sz : Nat) (x : Nat) (hc3_ : Φ (x + 3) = some (o_ 3 [.ref (x + 4), .ref (x + 5), .ref (x + 6), .ref (x + 7), .int 1, .int 511])) (hc7_ : Φ (x + 7) = some (aq_ G 4 4 (va_up (va_up (va_up (va_up (fun _ => none) (0 : Int32).toNatClampNeg (some (x + 10))) (1 : Int32).toNatClampNeg (some (x + 14))) (2 : Int32).toNatClampNeg (some (x + 18))) (3 : Int32).toNatClampNeg (some (x + 22))))) (hc10_ : Φ (x + 10) = some (o_ 12 [.ref (x + 11), .int 9, .int 511, .int 29])) (hc74_ : Φ (x + 74) = some (o_ 10 [.ref (x + 3), .ref (x + 46), .ref (x + 75), .ref (x + 77), .int 0, .ref (x + 78), .ref (x + 79), .int 0, .long 0, .int 0])) (hc78_ : Φ (x + 78) = some (ai_ G 4 (fun _ => 0))) : Ct G l yX8_mustSend wsX8_mustSend ({ frames := 1, cells := 0, slots := 0, locals := 21 }) 0 0 [.ref (x + 74), .int 0, .int 0] Φ sz (fun v Φ1 sz1 => v = some (.int 1) ∧ sz1 = sz ∧ (∀ b9 : Nat, Φ1 b9 = Φ b9)) := by
  refine Ct.of (cc := cX8_mustSend) (maxL := 3) (ret := (some .boolean)) (by decide) rfl (Nat.le_of_ble_eq_true rfl) ?_
  intro p9 e9 s9 m9 w9 t9 k9 B
  show Z p9 l e9 _ s9 m9 _ w9 t9 k9 _ G 3 0 [(0, .ref (x + 74)), (1, .int 0), (2, .int 0)] [] Φ sz 0 0
  refine z_iload_n B dX8_mustSend_0 rfl 1 rfl ?_
  refine z_if_lt (tgt := 23) B dX8_mustSend_1 rfl (fun h9 => absurd h9 (by decide)) (fun c_1 => ?_)
  refine z_iload_n B dX8_mustSend_4 rfl 1 rfl ?_
  refine z_iconst (v := 4) B dX8_mustSend_5 rfl ?_
  refine z_icmp_ge (tgt := 23) B dX8_mustSend_6 rfl (fun h9 => absurd h9 (by decide)) (fun c_2 => ?_)
  refine z_aload_n B dX8_mustSend_9 rfl 0 rfl ?_
  refine z_get (ref := "FlowExporter$Sender") (C := RX8) (T := TX8) (N := 10) (ci := 10) (v := .ref (x + 3)) B (by decide +kernel) rfl 0 (by decide) (by decide +kernel) rfl hc74_ rfl dX8_mustSend_10 ?_
  refine z_iload_n B dX8_mustSend_13 rfl 1 rfl ?_
  refine z_callV (As := [.int 0]) (rest := []) B (f_X1_effective_0 G l Φ sz x hc3_ hc7_) (cwV 1 B.1.2.2.2.2 gX8_mustSend_X1_effective rfl rfl rfl (by decide +kernel) ⟨Nat.le_of_ble_eq_true rfl, Nat.le_of_ble_eq_true rfl⟩) hc3_ rfl rfl rfl rfl (Nat.le_of_ble_eq_true rfl) dX8_mustSend_14 ⟨Nat.le_of_ble_eq_true rfl, Nat.le_of_ble_eq_true rfl⟩ (fun v1 Φ1 sz1 st1 hp1 hs1 => ?_)
  obtain ⟨rfl, hq1, fr1⟩ := hp1
  replace hq1 : sz1 = sz := hq1
  subst sz1
  replace hs1 : st1 = [.ref (x + 10)] := hs1
  subst st1
  have h_1 : Φ1 (x + 10) = some (o_ 12 [.ref (x + 11), .int 9, .int 511, .int 29]) := ((fr1 (x + 10)).trans hc10_)
  refine z_get (ref := "FlowExporter$Template") (C := RX10) (T := TX10) (N := 4) (ci := 12) (v := .int 9) B (by decide +kernel) rfl 1 (by decide) (by decide +kernel) rfl h_1 rfl dX8_mustSend_17 ?_
  refine z_if_ne (tgt := 25) B dX8_mustSend_20 rfl (fun c_3 => ?_) (fun h9 => absurd h9 (by decide))
  refine z_aload_n B dX8_mustSend_25 rfl 0 rfl ?_
  have h_2 : Φ1 (x + 74) = some (o_ 10 [.ref (x + 3), .ref (x + 46), .ref (x + 75), .ref (x + 77), .int 0, .ref (x + 78), .ref (x + 79), .int 0, .long 0, .int 0]) := ((fr1 (x + 74)).trans hc74_)
  refine z_get (ref := "FlowExporter$Sender") (C := RX8) (T := TX8) (N := 10) (ci := 10) (v := .ref (x + 78)) B (by decide +kernel) rfl 5 (by decide) (by decide +kernel) rfl h_2 rfl dX8_mustSend_26 ?_
  refine z_iload_n B dX8_mustSend_29 rfl 1 rfl ?_
  have h_3 : Φ1 (x + 78) = some (ai_ G 4 (fun _ => 0)) := ((fr1 (x + 78)).trans hc78_)
  refine z_iald B h_3 (vin rfl) dX8_mustSend_30 ?_
  refine z_top (st1 := [.int 0]) (by rfl) ?_
  refine z_if_eq (tgt := 75) B dX8_mustSend_31 rfl (fun c_4 => ?_) (fun h9 => absurd (by decide) h9)
  refine z_iconst (v := 1) B dX8_mustSend_75 rfl ?_
  refine z_goto (tgt := 80) B dX8_mustSend_76 rfl ?_
  exact z_ret_z B dX8_mustSend_80 (by decide) ⟨rfl, rfl, (fun b9 => ((fr1 b9).trans rfl))⟩

set_option maxHeartbeats 4000000 in
set_option maxRecDepth 100000 in
theorem f_X0_take (G : EnvG) (l : Launch) (Φ : Hm) (sz : Nat) (x : Nat) (hc1_ : Φ (x + 1) = some (o_ 7 [.ref (x + 2), .int 0])) (hc132_ : Φ (x + 132) = some (o_ 2 [.ref (x + 3), .ref (x + 121), .ref (x + 133), .ref (x + 134), .ref (x + 135), .ref (x + 137), .ref (x + 138), .ref (x + 139), .ref (x + 140), .int 0, .int 0, .int 0])) (hc139_ : Φ (x + 139) = some (al_ G 9 (fun _ => 0))) (hna : G.2.2.2 ≤ x) : Ct G l yX0_take wsX0_take ({ frames := 0, cells := 0, slots := 0, locals := 0 }) 0 0 [.ref (x + 132), .ref (x + 1), .int 0] Φ sz (fun v Φ1 sz1 => v = some (.int 0) ∧ sz1 = sz ∧ (∀ b9 : Nat, b9 ≠ x + 139 → Φ1 b9 = Φ b9) ∧ Φ1 (x + 139) = some (al_ G 9 (vp_updL (vp_updL (fun _ => 0) (8 : Int32).toNatClampNeg 1) (4 : Int32).toNatClampNeg 1))) := by
  refine Ct.of (cc := cX0_take) (maxL := 5) (ret := (some .int)) (by decide) rfl (Nat.le_of_ble_eq_true rfl) ?_
  intro p9 e9 s9 m9 w9 t9 k9 B
  show Z p9 l e9 _ s9 m9 _ w9 t9 k9 _ G 5 0 [(0, .ref (x + 132)), (1, .ref (x + 1)), (2, .int 0)] [] Φ sz 0 0
  refine z_aload_n B dX0_take_0 rfl 0 rfl ?_
  refine z_get (ref := "FlowExporter$Collector") (C := RX0) (T := TX0) (N := 12) (ci := 2) (v := .ref (x + 139)) B (by decide +kernel) rfl 7 (by decide) (by decide +kernel) rfl hc132_ rfl dX0_take_1 ?_
  refine z_bipush (v := 8) B dX0_take_4 rfl ?_
  refine z_dup2_11 B dX0_take_6 rfl rfl ?_
  refine z_lald B hc139_ (vin rfl) dX0_take_7 ?_
  refine z_top (st1 := [.long 0, .int 8, .ref (x + 139)]) (by rfl) ?_
  refine z_lconst (v := 1) B dX0_take_8 rfl ?_
  refine z_ladd B dX0_take_9 ?_
  refine z_top (st1 := [.long 1, .int 8, .ref (x + 139)]) (congrArg (fun w9 : Int64 => ([.long w9, .int 8, .ref (x + 139)] : List Value)) (show (0 + 1 : Int64) = 1 by decide +kernel)) ?_
  refine z_last B hc139_ (Nat.le_trans hna (Nat.le_add_right x 139)) (vin rfl) dX0_take_10 (fun Φ1 hΦ1 => ?_)
  have h_1 : Φ1 (x + 139) = some (al_ G 9 (vp_updL (fun _ => 0) (8 : Int32).toNatClampNeg 1)) := fset_at hΦ1
  refine z_aload_n B dX0_take_11 rfl 1 rfl ?_
  have h_2 : Φ1 (x + 1) = some (o_ 7 [.ref (x + 2), .int 0]) := ((fset_fr hΦ1 (ne_off (x := x) (i := 1) (j := 139) rfl)).trans hc1_)
  refine z_get (ref := "FlowExporter$Message") (C := RX5) (T := TX5) (N := 2) (ci := 7) (v := .int 0) B (by decide +kernel) rfl 1 (by decide) (by decide +kernel) rfl h_2 rfl dX0_take_12 ?_
  refine z_bipush (v := 16) B dX0_take_15 rfl ?_
  refine z_icmp_lt (tgt := 44) B dX0_take_17 rfl (fun c_1 => ?_) (fun h9 => absurd (by decide) h9)
  refine z_aload_n B dX0_take_44 rfl 0 rfl ?_
  have h_3 : Φ1 (x + 132) = some (o_ 2 [.ref (x + 3), .ref (x + 121), .ref (x + 133), .ref (x + 134), .ref (x + 135), .ref (x + 137), .ref (x + 138), .ref (x + 139), .ref (x + 140), .int 0, .int 0, .int 0]) := ((fset_fr hΦ1 (ne_off (x := x) (i := 132) (j := 139) rfl)).trans hc132_)
  refine z_get (ref := "FlowExporter$Collector") (C := RX0) (T := TX0) (N := 12) (ci := 2) (v := .ref (x + 139)) B (by decide +kernel) rfl 7 (by decide) (by decide +kernel) rfl h_3 rfl dX0_take_45 ?_
  refine z_iconst (v := 4) B dX0_take_48 rfl ?_
  refine z_dup2_11 B dX0_take_49 rfl rfl ?_
  refine z_lald B h_1 (vin rfl) dX0_take_50 ?_
  refine z_top (st1 := [.long 0, .int 4, .ref (x + 139)]) (by rfl) ?_
  refine z_lconst (v := 1) B dX0_take_51 rfl ?_
  refine z_ladd B dX0_take_52 ?_
  refine z_top (st1 := [.long 1, .int 4, .ref (x + 139)]) (congrArg (fun w9 : Int64 => ([.long w9, .int 4, .ref (x + 139)] : List Value)) (show (0 + 1 : Int64) = 1 by decide +kernel)) ?_
  refine z_last B h_1 (Nat.le_trans hna (Nat.le_add_right x 139)) (vin rfl) dX0_take_53 (fun Φ2 hΦ2 => ?_)
  have h_4 : Φ2 (x + 139) = some (al_ G 9 (vp_updL (vp_updL (fun _ => 0) (8 : Int32).toNatClampNeg 1) (4 : Int32).toNatClampNeg 1)) := fset_at hΦ2
  refine z_iconst (v := 0) B dX0_take_54 rfl ?_
  exact z_ret_i B dX0_take_55 ⟨rfl, rfl, (fun b9 h9a => ((fset_fr hΦ2 h9a).trans ((fset_fr hΦ1 h9a).trans rfl))), h_4⟩

set_option maxHeartbeats 4000000 in
set_option maxRecDepth 100000 in
theorem f_X0_ageOf_0 (G : EnvG) (l : Launch) (Φ : Hm) (sz : Nat) (x : Nat) (hc132_ : Φ (x + 132) = some (o_ 2 [.ref (x + 3), .ref (x + 121), .ref (x + 133), .ref (x + 134), .ref (x + 135), .ref (x + 137), .ref (x + 138), .ref (x + 139), .ref (x + 140), .int 0, .int 0, .int 0])) (hc133_ : Φ (x + 133) = some (aq_ G 4 4 (va_up (va_up (va_up (va_up (fun _ => none) (0 : Int32).toNatClampNeg (some (x + 141))) (1 : Int32).toNatClampNeg (some (x + 143))) (2 : Int32).toNatClampNeg (some (x + 145))) (3 : Int32).toNatClampNeg (some (x + 147))))) (hc141_ : Φ (x + 141) = some (o_ 12 [.ref (x + 142), .int 0, .int 0, .int 0])) : Ct G l yX0_ageOf wsX0_ageOf ({ frames := 0, cells := 0, slots := 0, locals := 0 }) 0 0 [.ref (x + 132), .int 0, .int 0] Φ sz (fun v Φ1 sz1 => v = some (.int (-1)) ∧ sz1 = sz ∧ (∀ b9 : Nat, Φ1 b9 = Φ b9)) := by
  refine Ct.of (cc := cX0_ageOf) (maxL := 3) (ret := (some .int)) (by decide) rfl (Nat.le_of_ble_eq_true rfl) ?_
  intro p9 e9 s9 m9 w9 t9 k9 B
  show Z p9 l e9 _ s9 m9 _ w9 t9 k9 _ G 3 0 [(0, .ref (x + 132)), (1, .int 0), (2, .int 0)] [] Φ sz 0 0
  refine z_iload_n B dX0_ageOf_0 rfl 1 rfl ?_
  refine z_if_lt (tgt := 21) B dX0_ageOf_1 rfl (fun h9 => absurd h9 (by decide)) (fun c_1 => ?_)
  refine z_iload_n B dX0_ageOf_4 rfl 1 rfl ?_
  refine z_iconst (v := 4) B dX0_ageOf_5 rfl ?_
  refine z_icmp_ge (tgt := 21) B dX0_ageOf_6 rfl (fun h9 => absurd h9 (by decide)) (fun c_2 => ?_)
  refine z_aload_n B dX0_ageOf_9 rfl 0 rfl ?_
  refine z_get (ref := "FlowExporter$Collector") (C := RX0) (T := TX0) (N := 12) (ci := 2) (v := .ref (x + 133)) B (by decide +kernel) rfl 2 (by decide) (by decide +kernel) rfl hc132_ rfl dX0_ageOf_10 ?_
  refine z_iload_n B dX0_ageOf_13 rfl 1 rfl ?_
  refine z_aald (b := x + 141) B rfl hc133_ (vin rfl) rfl dX0_ageOf_14 ?_
  refine z_get (ref := "FlowExporter$Template") (C := RX10) (T := TX10) (N := 4) (ci := 12) (v := .int 0) B (by decide +kernel) rfl 1 (by decide) (by decide +kernel) rfl hc141_ rfl dX0_ageOf_15 ?_
  refine z_if_ne (tgt := 23) B dX0_ageOf_18 rfl (fun h9 => absurd (by decide) h9) (fun c_3 => ?_)
  refine z_iconst (v := (-1)) B dX0_ageOf_21 rfl ?_
  exact z_ret_i B dX0_ageOf_22 ⟨rfl, rfl, (fun b9 => rfl)⟩

set_option maxHeartbeats 4000000 in
set_option maxRecDepth 100000 in
theorem f_X0_isUsable_0 (G : EnvG) (l : Launch) (Φ : Hm) (sz : Nat) (x : Nat) (hc132_ : Φ (x + 132) = some (o_ 2 [.ref (x + 3), .ref (x + 121), .ref (x + 133), .ref (x + 134), .ref (x + 135), .ref (x + 137), .ref (x + 138), .ref (x + 139), .ref (x + 140), .int 0, .int 0, .int 0])) (hc133_ : Φ (x + 133) = some (aq_ G 4 4 (va_up (va_up (va_up (va_up (fun _ => none) (0 : Int32).toNatClampNeg (some (x + 141))) (1 : Int32).toNatClampNeg (some (x + 143))) (2 : Int32).toNatClampNeg (some (x + 145))) (3 : Int32).toNatClampNeg (some (x + 147))))) (hc141_ : Φ (x + 141) = some (o_ 12 [.ref (x + 142), .int 0, .int 0, .int 0])) : Ct G l yX0_isUsable wsX0_isUsable ({ frames := 1, cells := 0, slots := 0, locals := 22 }) 0 0 [.ref (x + 132), .int 0, .int 0] Φ sz (fun v Φ1 sz1 => v = some (.int 0) ∧ sz1 = sz ∧ (∀ b9 : Nat, Φ1 b9 = Φ b9)) := by
  refine Ct.of (cc := cX0_isUsable) (maxL := 4) (ret := (some .boolean)) (by decide) rfl (Nat.le_of_ble_eq_true rfl) ?_
  intro p9 e9 s9 m9 w9 t9 k9 B
  show Z p9 l e9 _ s9 m9 _ w9 t9 k9 _ G 4 0 [(0, .ref (x + 132)), (1, .int 0), (2, .int 0)] [] Φ sz 0 0
  refine z_aload_n B dX0_isUsable_0 rfl 0 rfl ?_
  refine z_iload_n B dX0_isUsable_1 rfl 1 rfl ?_
  refine z_iload_n B dX0_isUsable_2 rfl 2 rfl ?_
  refine z_callV (As := [.int 0, .int 0]) (rest := []) B (f_X0_ageOf_0 G l Φ sz x hc132_ hc133_ hc141_) (cwV 2 B.1.2.2.2.2 gX0_isUsable_X0_ageOf rfl rfl rfl (by decide +kernel) ⟨Nat.le_of_ble_eq_true rfl, Nat.le_of_ble_eq_true rfl⟩) hc132_ rfl rfl rfl rfl (Nat.le_of_ble_eq_true rfl) dX0_isUsable_3 ⟨Nat.le_of_ble_eq_true rfl, Nat.le_of_ble_eq_true rfl⟩ (fun v1 Φ1 sz1 st1 hp1 hs1 => ?_)
  obtain ⟨rfl, hq1, fr1⟩ := hp1
  replace hq1 : sz1 = sz := hq1
  subst sz1
  replace hs1 : st1 = [.int (-1)] := hs1
  subst st1
  refine z_istore_n (lv' := [(3, .int (-1)), (0, .ref (x + 132)), (1, .int 0), (2, .int 0)]) B dX0_isUsable_6 rfl (Nat.le_of_ble_eq_true rfl) rfl ?_
  refine z_iload_n B dX0_isUsable_7 rfl 0 rfl ?_
  refine z_iconst (v := (-1)) B dX0_isUsable_8 rfl ?_
  refine z_icmp_eq (tgt := 29) B dX0_isUsable_9 rfl (fun c_1 => ?_) (fun h9 => absurd (by decide) h9)
  refine z_iconst (v := 0) B dX0_isUsable_29 rfl ?_
  exact z_ret_z B dX0_isUsable_30 (by decide) ⟨rfl, rfl, (fun b9 => ((fr1 b9).trans rfl))⟩

set_option maxHeartbeats 4000000 in
set_option maxRecDepth 100000 in
theorem f_X0_ageOf_1 (G : EnvG) (l : Launch) (Φ : Hm) (sz : Nat) (x : Nat) (hc132_ : Φ (x + 132) = some (o_ 2 [.ref (x + 3), .ref (x + 121), .ref (x + 133), .ref (x + 134), .ref (x + 135), .ref (x + 137), .ref (x + 138), .ref (x + 139), .ref (x + 140), .int 0, .int 0, .int 0])) (hc133_ : Φ (x + 133) = some (aq_ G 4 4 (va_up (va_up (va_up (va_up (fun _ => none) (0 : Int32).toNatClampNeg (some (x + 141))) (1 : Int32).toNatClampNeg (some (x + 143))) (2 : Int32).toNatClampNeg (some (x + 145))) (3 : Int32).toNatClampNeg (some (x + 147))))) (hc143_ : Φ (x + 143) = some (o_ 12 [.ref (x + 144), .int 0, .int 0, .int 0])) : Ct G l yX0_ageOf wsX0_ageOf ({ frames := 0, cells := 0, slots := 0, locals := 0 }) 0 0 [.ref (x + 132), .int 1, .int 0] Φ sz (fun v Φ1 sz1 => v = some (.int (-1)) ∧ sz1 = sz ∧ (∀ b9 : Nat, Φ1 b9 = Φ b9)) := by
  refine Ct.of (cc := cX0_ageOf) (maxL := 3) (ret := (some .int)) (by decide) rfl (Nat.le_of_ble_eq_true rfl) ?_
  intro p9 e9 s9 m9 w9 t9 k9 B
  show Z p9 l e9 _ s9 m9 _ w9 t9 k9 _ G 3 0 [(0, .ref (x + 132)), (1, .int 1), (2, .int 0)] [] Φ sz 0 0
  refine z_iload_n B dX0_ageOf_0 rfl 1 rfl ?_
  refine z_if_lt (tgt := 21) B dX0_ageOf_1 rfl (fun h9 => absurd h9 (by decide)) (fun c_1 => ?_)
  refine z_iload_n B dX0_ageOf_4 rfl 1 rfl ?_
  refine z_iconst (v := 4) B dX0_ageOf_5 rfl ?_
  refine z_icmp_ge (tgt := 21) B dX0_ageOf_6 rfl (fun h9 => absurd h9 (by decide)) (fun c_2 => ?_)
  refine z_aload_n B dX0_ageOf_9 rfl 0 rfl ?_
  refine z_get (ref := "FlowExporter$Collector") (C := RX0) (T := TX0) (N := 12) (ci := 2) (v := .ref (x + 133)) B (by decide +kernel) rfl 2 (by decide) (by decide +kernel) rfl hc132_ rfl dX0_ageOf_10 ?_
  refine z_iload_n B dX0_ageOf_13 rfl 1 rfl ?_
  refine z_aald (b := x + 143) B rfl hc133_ (vin rfl) rfl dX0_ageOf_14 ?_
  refine z_get (ref := "FlowExporter$Template") (C := RX10) (T := TX10) (N := 4) (ci := 12) (v := .int 0) B (by decide +kernel) rfl 1 (by decide) (by decide +kernel) rfl hc143_ rfl dX0_ageOf_15 ?_
  refine z_if_ne (tgt := 23) B dX0_ageOf_18 rfl (fun h9 => absurd (by decide) h9) (fun c_3 => ?_)
  refine z_iconst (v := (-1)) B dX0_ageOf_21 rfl ?_
  exact z_ret_i B dX0_ageOf_22 ⟨rfl, rfl, (fun b9 => rfl)⟩

set_option maxHeartbeats 4000000 in
set_option maxRecDepth 100000 in
theorem f_X0_isUsable_1 (G : EnvG) (l : Launch) (Φ : Hm) (sz : Nat) (x : Nat) (hc132_ : Φ (x + 132) = some (o_ 2 [.ref (x + 3), .ref (x + 121), .ref (x + 133), .ref (x + 134), .ref (x + 135), .ref (x + 137), .ref (x + 138), .ref (x + 139), .ref (x + 140), .int 0, .int 0, .int 0])) (hc133_ : Φ (x + 133) = some (aq_ G 4 4 (va_up (va_up (va_up (va_up (fun _ => none) (0 : Int32).toNatClampNeg (some (x + 141))) (1 : Int32).toNatClampNeg (some (x + 143))) (2 : Int32).toNatClampNeg (some (x + 145))) (3 : Int32).toNatClampNeg (some (x + 147))))) (hc143_ : Φ (x + 143) = some (o_ 12 [.ref (x + 144), .int 0, .int 0, .int 0])) : Ct G l yX0_isUsable wsX0_isUsable ({ frames := 1, cells := 0, slots := 0, locals := 22 }) 0 0 [.ref (x + 132), .int 1, .int 0] Φ sz (fun v Φ1 sz1 => v = some (.int 0) ∧ sz1 = sz ∧ (∀ b9 : Nat, Φ1 b9 = Φ b9)) := by
  refine Ct.of (cc := cX0_isUsable) (maxL := 4) (ret := (some .boolean)) (by decide) rfl (Nat.le_of_ble_eq_true rfl) ?_
  intro p9 e9 s9 m9 w9 t9 k9 B
  show Z p9 l e9 _ s9 m9 _ w9 t9 k9 _ G 4 0 [(0, .ref (x + 132)), (1, .int 1), (2, .int 0)] [] Φ sz 0 0
  refine z_aload_n B dX0_isUsable_0 rfl 0 rfl ?_
  refine z_iload_n B dX0_isUsable_1 rfl 1 rfl ?_
  refine z_iload_n B dX0_isUsable_2 rfl 2 rfl ?_
  refine z_callV (As := [.int 1, .int 0]) (rest := []) B (f_X0_ageOf_1 G l Φ sz x hc132_ hc133_ hc143_) (cwV 2 B.1.2.2.2.2 gX0_isUsable_X0_ageOf rfl rfl rfl (by decide +kernel) ⟨Nat.le_of_ble_eq_true rfl, Nat.le_of_ble_eq_true rfl⟩) hc132_ rfl rfl rfl rfl (Nat.le_of_ble_eq_true rfl) dX0_isUsable_3 ⟨Nat.le_of_ble_eq_true rfl, Nat.le_of_ble_eq_true rfl⟩ (fun v1 Φ1 sz1 st1 hp1 hs1 => ?_)
  obtain ⟨rfl, hq1, fr1⟩ := hp1
  replace hq1 : sz1 = sz := hq1
  subst sz1
  replace hs1 : st1 = [.int (-1)] := hs1
  subst st1
  refine z_istore_n (lv' := [(3, .int (-1)), (0, .ref (x + 132)), (1, .int 1), (2, .int 0)]) B dX0_isUsable_6 rfl (Nat.le_of_ble_eq_true rfl) rfl ?_
  refine z_iload_n B dX0_isUsable_7 rfl 0 rfl ?_
  refine z_iconst (v := (-1)) B dX0_isUsable_8 rfl ?_
  refine z_icmp_eq (tgt := 29) B dX0_isUsable_9 rfl (fun c_1 => ?_) (fun h9 => absurd (by decide) h9)
  refine z_iconst (v := 0) B dX0_isUsable_29 rfl ?_
  exact z_ret_z B dX0_isUsable_30 (by decide) ⟨rfl, rfl, (fun b9 => ((fr1 b9).trans rfl))⟩

set_option maxHeartbeats 4000000 in
set_option maxRecDepth 100000 in
theorem f_X0_ageOf_2 (G : EnvG) (l : Launch) (Φ : Hm) (sz : Nat) (x : Nat) (hc132_ : Φ (x + 132) = some (o_ 2 [.ref (x + 3), .ref (x + 121), .ref (x + 133), .ref (x + 134), .ref (x + 135), .ref (x + 137), .ref (x + 138), .ref (x + 139), .ref (x + 140), .int 0, .int 0, .int 0])) (hc133_ : Φ (x + 133) = some (aq_ G 4 4 (va_up (va_up (va_up (va_up (fun _ => none) (0 : Int32).toNatClampNeg (some (x + 141))) (1 : Int32).toNatClampNeg (some (x + 143))) (2 : Int32).toNatClampNeg (some (x + 145))) (3 : Int32).toNatClampNeg (some (x + 147))))) (hc145_ : Φ (x + 145) = some (o_ 12 [.ref (x + 146), .int 0, .int 0, .int 0])) : Ct G l yX0_ageOf wsX0_ageOf ({ frames := 0, cells := 0, slots := 0, locals := 0 }) 0 0 [.ref (x + 132), .int 2, .int 0] Φ sz (fun v Φ1 sz1 => v = some (.int (-1)) ∧ sz1 = sz ∧ (∀ b9 : Nat, Φ1 b9 = Φ b9)) := by
  refine Ct.of (cc := cX0_ageOf) (maxL := 3) (ret := (some .int)) (by decide) rfl (Nat.le_of_ble_eq_true rfl) ?_
  intro p9 e9 s9 m9 w9 t9 k9 B
  show Z p9 l e9 _ s9 m9 _ w9 t9 k9 _ G 3 0 [(0, .ref (x + 132)), (1, .int 2), (2, .int 0)] [] Φ sz 0 0
  refine z_iload_n B dX0_ageOf_0 rfl 1 rfl ?_
  refine z_if_lt (tgt := 21) B dX0_ageOf_1 rfl (fun h9 => absurd h9 (by decide)) (fun c_1 => ?_)
  refine z_iload_n B dX0_ageOf_4 rfl 1 rfl ?_
  refine z_iconst (v := 4) B dX0_ageOf_5 rfl ?_
  refine z_icmp_ge (tgt := 21) B dX0_ageOf_6 rfl (fun h9 => absurd h9 (by decide)) (fun c_2 => ?_)
  refine z_aload_n B dX0_ageOf_9 rfl 0 rfl ?_
  refine z_get (ref := "FlowExporter$Collector") (C := RX0) (T := TX0) (N := 12) (ci := 2) (v := .ref (x + 133)) B (by decide +kernel) rfl 2 (by decide) (by decide +kernel) rfl hc132_ rfl dX0_ageOf_10 ?_
  refine z_iload_n B dX0_ageOf_13 rfl 1 rfl ?_
  refine z_aald (b := x + 145) B rfl hc133_ (vin rfl) rfl dX0_ageOf_14 ?_
  refine z_get (ref := "FlowExporter$Template") (C := RX10) (T := TX10) (N := 4) (ci := 12) (v := .int 0) B (by decide +kernel) rfl 1 (by decide) (by decide +kernel) rfl hc145_ rfl dX0_ageOf_15 ?_
  refine z_if_ne (tgt := 23) B dX0_ageOf_18 rfl (fun h9 => absurd (by decide) h9) (fun c_3 => ?_)
  refine z_iconst (v := (-1)) B dX0_ageOf_21 rfl ?_
  exact z_ret_i B dX0_ageOf_22 ⟨rfl, rfl, (fun b9 => rfl)⟩

set_option maxHeartbeats 4000000 in
set_option maxRecDepth 100000 in
theorem f_X0_isUsable_2 (G : EnvG) (l : Launch) (Φ : Hm) (sz : Nat) (x : Nat) (hc132_ : Φ (x + 132) = some (o_ 2 [.ref (x + 3), .ref (x + 121), .ref (x + 133), .ref (x + 134), .ref (x + 135), .ref (x + 137), .ref (x + 138), .ref (x + 139), .ref (x + 140), .int 0, .int 0, .int 0])) (hc133_ : Φ (x + 133) = some (aq_ G 4 4 (va_up (va_up (va_up (va_up (fun _ => none) (0 : Int32).toNatClampNeg (some (x + 141))) (1 : Int32).toNatClampNeg (some (x + 143))) (2 : Int32).toNatClampNeg (some (x + 145))) (3 : Int32).toNatClampNeg (some (x + 147))))) (hc145_ : Φ (x + 145) = some (o_ 12 [.ref (x + 146), .int 0, .int 0, .int 0])) : Ct G l yX0_isUsable wsX0_isUsable ({ frames := 1, cells := 0, slots := 0, locals := 22 }) 0 0 [.ref (x + 132), .int 2, .int 0] Φ sz (fun v Φ1 sz1 => v = some (.int 0) ∧ sz1 = sz ∧ (∀ b9 : Nat, Φ1 b9 = Φ b9)) := by
  refine Ct.of (cc := cX0_isUsable) (maxL := 4) (ret := (some .boolean)) (by decide) rfl (Nat.le_of_ble_eq_true rfl) ?_
  intro p9 e9 s9 m9 w9 t9 k9 B
  show Z p9 l e9 _ s9 m9 _ w9 t9 k9 _ G 4 0 [(0, .ref (x + 132)), (1, .int 2), (2, .int 0)] [] Φ sz 0 0
  refine z_aload_n B dX0_isUsable_0 rfl 0 rfl ?_
  refine z_iload_n B dX0_isUsable_1 rfl 1 rfl ?_
  refine z_iload_n B dX0_isUsable_2 rfl 2 rfl ?_
  refine z_callV (As := [.int 2, .int 0]) (rest := []) B (f_X0_ageOf_2 G l Φ sz x hc132_ hc133_ hc145_) (cwV 2 B.1.2.2.2.2 gX0_isUsable_X0_ageOf rfl rfl rfl (by decide +kernel) ⟨Nat.le_of_ble_eq_true rfl, Nat.le_of_ble_eq_true rfl⟩) hc132_ rfl rfl rfl rfl (Nat.le_of_ble_eq_true rfl) dX0_isUsable_3 ⟨Nat.le_of_ble_eq_true rfl, Nat.le_of_ble_eq_true rfl⟩ (fun v1 Φ1 sz1 st1 hp1 hs1 => ?_)
  obtain ⟨rfl, hq1, fr1⟩ := hp1
  replace hq1 : sz1 = sz := hq1
  subst sz1
  replace hs1 : st1 = [.int (-1)] := hs1
  subst st1
  refine z_istore_n (lv' := [(3, .int (-1)), (0, .ref (x + 132)), (1, .int 2), (2, .int 0)]) B dX0_isUsable_6 rfl (Nat.le_of_ble_eq_true rfl) rfl ?_
  refine z_iload_n B dX0_isUsable_7 rfl 0 rfl ?_
  refine z_iconst (v := (-1)) B dX0_isUsable_8 rfl ?_
  refine z_icmp_eq (tgt := 29) B dX0_isUsable_9 rfl (fun c_1 => ?_) (fun h9 => absurd (by decide) h9)
  refine z_iconst (v := 0) B dX0_isUsable_29 rfl ?_
  exact z_ret_z B dX0_isUsable_30 (by decide) ⟨rfl, rfl, (fun b9 => ((fr1 b9).trans rfl))⟩

set_option maxHeartbeats 4000000 in
set_option maxRecDepth 100000 in
theorem f_X0_ageOf_3 (G : EnvG) (l : Launch) (Φ : Hm) (sz : Nat) (x : Nat) (hc132_ : Φ (x + 132) = some (o_ 2 [.ref (x + 3), .ref (x + 121), .ref (x + 133), .ref (x + 134), .ref (x + 135), .ref (x + 137), .ref (x + 138), .ref (x + 139), .ref (x + 140), .int 0, .int 0, .int 0])) (hc133_ : Φ (x + 133) = some (aq_ G 4 4 (va_up (va_up (va_up (va_up (fun _ => none) (0 : Int32).toNatClampNeg (some (x + 141))) (1 : Int32).toNatClampNeg (some (x + 143))) (2 : Int32).toNatClampNeg (some (x + 145))) (3 : Int32).toNatClampNeg (some (x + 147))))) (hc147_ : Φ (x + 147) = some (o_ 12 [.ref (x + 148), .int 0, .int 0, .int 0])) : Ct G l yX0_ageOf wsX0_ageOf ({ frames := 0, cells := 0, slots := 0, locals := 0 }) 0 0 [.ref (x + 132), .int 3, .int 0] Φ sz (fun v Φ1 sz1 => v = some (.int (-1)) ∧ sz1 = sz ∧ (∀ b9 : Nat, Φ1 b9 = Φ b9)) := by
  refine Ct.of (cc := cX0_ageOf) (maxL := 3) (ret := (some .int)) (by decide) rfl (Nat.le_of_ble_eq_true rfl) ?_
  intro p9 e9 s9 m9 w9 t9 k9 B
  show Z p9 l e9 _ s9 m9 _ w9 t9 k9 _ G 3 0 [(0, .ref (x + 132)), (1, .int 3), (2, .int 0)] [] Φ sz 0 0
  refine z_iload_n B dX0_ageOf_0 rfl 1 rfl ?_
  refine z_if_lt (tgt := 21) B dX0_ageOf_1 rfl (fun h9 => absurd h9 (by decide)) (fun c_1 => ?_)
  refine z_iload_n B dX0_ageOf_4 rfl 1 rfl ?_
  refine z_iconst (v := 4) B dX0_ageOf_5 rfl ?_
  refine z_icmp_ge (tgt := 21) B dX0_ageOf_6 rfl (fun h9 => absurd h9 (by decide)) (fun c_2 => ?_)
  refine z_aload_n B dX0_ageOf_9 rfl 0 rfl ?_
  refine z_get (ref := "FlowExporter$Collector") (C := RX0) (T := TX0) (N := 12) (ci := 2) (v := .ref (x + 133)) B (by decide +kernel) rfl 2 (by decide) (by decide +kernel) rfl hc132_ rfl dX0_ageOf_10 ?_
  refine z_iload_n B dX0_ageOf_13 rfl 1 rfl ?_
  refine z_aald (b := x + 147) B rfl hc133_ (vin rfl) rfl dX0_ageOf_14 ?_
  refine z_get (ref := "FlowExporter$Template") (C := RX10) (T := TX10) (N := 4) (ci := 12) (v := .int 0) B (by decide +kernel) rfl 1 (by decide) (by decide +kernel) rfl hc147_ rfl dX0_ageOf_15 ?_
  refine z_if_ne (tgt := 23) B dX0_ageOf_18 rfl (fun h9 => absurd (by decide) h9) (fun c_3 => ?_)
  refine z_iconst (v := (-1)) B dX0_ageOf_21 rfl ?_
  exact z_ret_i B dX0_ageOf_22 ⟨rfl, rfl, (fun b9 => rfl)⟩

set_option maxHeartbeats 4000000 in
set_option maxRecDepth 100000 in
theorem f_X0_isUsable_3 (G : EnvG) (l : Launch) (Φ : Hm) (sz : Nat) (x : Nat) (hc132_ : Φ (x + 132) = some (o_ 2 [.ref (x + 3), .ref (x + 121), .ref (x + 133), .ref (x + 134), .ref (x + 135), .ref (x + 137), .ref (x + 138), .ref (x + 139), .ref (x + 140), .int 0, .int 0, .int 0])) (hc133_ : Φ (x + 133) = some (aq_ G 4 4 (va_up (va_up (va_up (va_up (fun _ => none) (0 : Int32).toNatClampNeg (some (x + 141))) (1 : Int32).toNatClampNeg (some (x + 143))) (2 : Int32).toNatClampNeg (some (x + 145))) (3 : Int32).toNatClampNeg (some (x + 147))))) (hc147_ : Φ (x + 147) = some (o_ 12 [.ref (x + 148), .int 0, .int 0, .int 0])) : Ct G l yX0_isUsable wsX0_isUsable ({ frames := 1, cells := 0, slots := 0, locals := 22 }) 0 0 [.ref (x + 132), .int 3, .int 0] Φ sz (fun v Φ1 sz1 => v = some (.int 0) ∧ sz1 = sz ∧ (∀ b9 : Nat, Φ1 b9 = Φ b9)) := by
  refine Ct.of (cc := cX0_isUsable) (maxL := 4) (ret := (some .boolean)) (by decide) rfl (Nat.le_of_ble_eq_true rfl) ?_
  intro p9 e9 s9 m9 w9 t9 k9 B
  show Z p9 l e9 _ s9 m9 _ w9 t9 k9 _ G 4 0 [(0, .ref (x + 132)), (1, .int 3), (2, .int 0)] [] Φ sz 0 0
  refine z_aload_n B dX0_isUsable_0 rfl 0 rfl ?_
  refine z_iload_n B dX0_isUsable_1 rfl 1 rfl ?_
  refine z_iload_n B dX0_isUsable_2 rfl 2 rfl ?_
  refine z_callV (As := [.int 3, .int 0]) (rest := []) B (f_X0_ageOf_3 G l Φ sz x hc132_ hc133_ hc147_) (cwV 2 B.1.2.2.2.2 gX0_isUsable_X0_ageOf rfl rfl rfl (by decide +kernel) ⟨Nat.le_of_ble_eq_true rfl, Nat.le_of_ble_eq_true rfl⟩) hc132_ rfl rfl rfl rfl (Nat.le_of_ble_eq_true rfl) dX0_isUsable_3 ⟨Nat.le_of_ble_eq_true rfl, Nat.le_of_ble_eq_true rfl⟩ (fun v1 Φ1 sz1 st1 hp1 hs1 => ?_)
  obtain ⟨rfl, hq1, fr1⟩ := hp1
  replace hq1 : sz1 = sz := hq1
  subst sz1
  replace hs1 : st1 = [.int (-1)] := hs1
  subst st1
  refine z_istore_n (lv' := [(3, .int (-1)), (0, .ref (x + 132)), (1, .int 3), (2, .int 0)]) B dX0_isUsable_6 rfl (Nat.le_of_ble_eq_true rfl) rfl ?_
  refine z_iload_n B dX0_isUsable_7 rfl 0 rfl ?_
  refine z_iconst (v := (-1)) B dX0_isUsable_8 rfl ?_
  refine z_icmp_eq (tgt := 29) B dX0_isUsable_9 rfl (fun c_1 => ?_) (fun h9 => absurd (by decide) h9)
  refine z_iconst (v := 0) B dX0_isUsable_29 rfl ?_
  exact z_ret_z B dX0_isUsable_30 (by decide) ⟨rfl, rfl, (fun b9 => ((fr1 b9).trans rfl))⟩

set_option maxHeartbeats 4000000 in
set_option maxRecDepth 100000 in
theorem f_X0_usableTemplates (G : EnvG) (l : Launch) (Φ : Hm) (sz : Nat) (x : Nat) (hc132_ : Φ (x + 132) = some (o_ 2 [.ref (x + 3), .ref (x + 121), .ref (x + 133), .ref (x + 134), .ref (x + 135), .ref (x + 137), .ref (x + 138), .ref (x + 139), .ref (x + 140), .int 0, .int 0, .int 0])) (hc133_ : Φ (x + 133) = some (aq_ G 4 4 (va_up (va_up (va_up (va_up (fun _ => none) (0 : Int32).toNatClampNeg (some (x + 141))) (1 : Int32).toNatClampNeg (some (x + 143))) (2 : Int32).toNatClampNeg (some (x + 145))) (3 : Int32).toNatClampNeg (some (x + 147))))) (hc141_ : Φ (x + 141) = some (o_ 12 [.ref (x + 142), .int 0, .int 0, .int 0])) (hc143_ : Φ (x + 143) = some (o_ 12 [.ref (x + 144), .int 0, .int 0, .int 0])) (hc145_ : Φ (x + 145) = some (o_ 12 [.ref (x + 146), .int 0, .int 0, .int 0])) (hc147_ : Φ (x + 147) = some (o_ 12 [.ref (x + 148), .int 0, .int 0, .int 0])) : Ct G l yX0_usableTemplates wsX0_usableTemplates ({ frames := 2, cells := 0, slots := 0, locals := 45 }) 0 0 [.ref (x + 132), .int 0] Φ sz (fun v Φ1 sz1 => v = some (.int 0) ∧ sz1 = sz ∧ (∀ b9 : Nat, Φ1 b9 = Φ b9)) := by
  refine Ct.of (cc := cX0_usableTemplates) (maxL := 4) (ret := (some .int)) (by decide) rfl (Nat.le_of_ble_eq_true rfl) ?_
  intro p9 e9 s9 m9 w9 t9 k9 B
  show Z p9 l e9 _ s9 m9 _ w9 t9 k9 _ G 4 0 [(0, .ref (x + 132)), (1, .int 0)] [] Φ sz 0 0
  refine z_iconst (v := 0) B dX0_usableTemplates_0 rfl ?_
  refine z_istore_n (lv' := [(2, .int 0), (0, .ref (x + 132)), (1, .int 0)]) B dX0_usableTemplates_1 rfl (Nat.le_of_ble_eq_true rfl) rfl ?_
  refine z_iconst (v := 0) B dX0_usableTemplates_2 rfl ?_
  refine z_istore_n (lv' := [(3, .int 0), (2, .int 0), (0, .ref (x + 132)), (1, .int 0)]) B dX0_usableTemplates_3 rfl (Nat.le_of_ble_eq_true rfl) rfl ?_
  refine z_iload_n B dX0_usableTemplates_4 rfl 0 rfl ?_
  refine z_iconst (v := 4) B dX0_usableTemplates_5 rfl ?_
  refine z_icmp_ge (tgt := 30) B dX0_usableTemplates_6 rfl (fun h9 => absurd h9 (by decide)) (fun c_1 => ?_)
  refine z_aload_n B dX0_usableTemplates_9 rfl 2 rfl ?_
  refine z_iload_n B dX0_usableTemplates_10 rfl 0 rfl ?_
  refine z_iload_n B dX0_usableTemplates_11 rfl 3 rfl ?_
  refine z_callV (As := [.int 0, .int 0]) (rest := []) B (f_X0_isUsable_0 G l Φ sz x hc132_ hc133_ hc141_) (cwV 2 B.1.2.2.2.2 gX0_usableTemplates_X0_isUsable rfl rfl rfl (by decide +kernel) ⟨Nat.le_of_ble_eq_true rfl, Nat.le_of_ble_eq_true rfl⟩) hc132_ rfl rfl rfl rfl (Nat.le_of_ble_eq_true rfl) dX0_usableTemplates_12 ⟨Nat.le_of_ble_eq_true rfl, Nat.le_of_ble_eq_true rfl⟩ (fun v1 Φ1 sz1 st1 hp1 hs1 => ?_)
  obtain ⟨rfl, hq1, fr1⟩ := hp1
  replace hq1 : sz1 = sz := hq1
  subst sz1
  replace hs1 : st1 = [.int 0] := hs1
  subst st1
  refine z_if_eq (tgt := 24) B dX0_usableTemplates_15 rfl (fun c_2 => ?_) (fun h9 => absurd (by decide) h9)
  refine z_iinc (k := 0) (v := 1) (lv' := [(3, .int 1), (2, .int 0), (0, .ref (x + 132)), (1, .int 0)]) B dX0_usableTemplates_24 rfl rfl (Nat.le_of_ble_eq_true rfl) rfl ?_
  refine z_goto (tgt := 4) B dX0_usableTemplates_27 rfl ?_
  refine z_iload_n B dX0_usableTemplates_4 rfl 0 rfl ?_
  refine z_iconst (v := 4) B dX0_usableTemplates_5 rfl ?_
  refine z_icmp_ge (tgt := 30) B dX0_usableTemplates_6 rfl (fun h9 => absurd h9 (by decide)) (fun c_3 => ?_)
  refine z_aload_n B dX0_usableTemplates_9 rfl 2 rfl ?_
  refine z_iload_n B dX0_usableTemplates_10 rfl 0 rfl ?_
  refine z_iload_n B dX0_usableTemplates_11 rfl 3 rfl ?_
  have h_1 : Φ1 (x + 132) = some (o_ 2 [.ref (x + 3), .ref (x + 121), .ref (x + 133), .ref (x + 134), .ref (x + 135), .ref (x + 137), .ref (x + 138), .ref (x + 139), .ref (x + 140), .int 0, .int 0, .int 0]) := ((fr1 (x + 132)).trans hc132_)
  have h_2 : Φ1 (x + 133) = some (aq_ G 4 4 (va_up (va_up (va_up (va_up (fun _ => none) (0 : Int32).toNatClampNeg (some (x + 141))) (1 : Int32).toNatClampNeg (some (x + 143))) (2 : Int32).toNatClampNeg (some (x + 145))) (3 : Int32).toNatClampNeg (some (x + 147)))) := ((fr1 (x + 133)).trans hc133_)
  have h_3 : Φ1 (x + 143) = some (o_ 12 [.ref (x + 144), .int 0, .int 0, .int 0]) := ((fr1 (x + 143)).trans hc143_)
  refine z_callV (As := [.int 1, .int 0]) (rest := []) B (f_X0_isUsable_1 G l Φ1 sz x h_1 h_2 h_3) (cwV 2 B.1.2.2.2.2 gX0_usableTemplates_X0_isUsable rfl rfl rfl (by decide +kernel) ⟨Nat.le_of_ble_eq_true rfl, Nat.le_of_ble_eq_true rfl⟩) h_1 rfl rfl rfl rfl (Nat.le_of_ble_eq_true rfl) dX0_usableTemplates_12 ⟨Nat.le_of_ble_eq_true rfl, Nat.le_of_ble_eq_true rfl⟩ (fun v2 Φ2 sz2 st2 hp2 hs2 => ?_)
  obtain ⟨rfl, hq2, fr2⟩ := hp2
  replace hq2 : sz2 = sz := hq2
  subst sz2
  replace hs2 : st2 = [.int 0] := hs2
  subst st2
  refine z_if_eq (tgt := 24) B dX0_usableTemplates_15 rfl (fun c_4 => ?_) (fun h9 => absurd (by decide) h9)
  refine z_iinc (k := 0) (v := 2) (lv' := [(3, .int 2), (2, .int 0), (0, .ref (x + 132)), (1, .int 0)]) B dX0_usableTemplates_24 rfl rfl (Nat.le_of_ble_eq_true rfl) rfl ?_
  refine z_goto (tgt := 4) B dX0_usableTemplates_27 rfl ?_
  refine z_iload_n B dX0_usableTemplates_4 rfl 0 rfl ?_
  refine z_iconst (v := 4) B dX0_usableTemplates_5 rfl ?_
  refine z_icmp_ge (tgt := 30) B dX0_usableTemplates_6 rfl (fun h9 => absurd h9 (by decide)) (fun c_5 => ?_)
  refine z_aload_n B dX0_usableTemplates_9 rfl 2 rfl ?_
  refine z_iload_n B dX0_usableTemplates_10 rfl 0 rfl ?_
  refine z_iload_n B dX0_usableTemplates_11 rfl 3 rfl ?_
  have h_4 : Φ2 (x + 132) = some (o_ 2 [.ref (x + 3), .ref (x + 121), .ref (x + 133), .ref (x + 134), .ref (x + 135), .ref (x + 137), .ref (x + 138), .ref (x + 139), .ref (x + 140), .int 0, .int 0, .int 0]) := ((fr2 (x + 132)).trans h_1)
  have h_5 : Φ2 (x + 133) = some (aq_ G 4 4 (va_up (va_up (va_up (va_up (fun _ => none) (0 : Int32).toNatClampNeg (some (x + 141))) (1 : Int32).toNatClampNeg (some (x + 143))) (2 : Int32).toNatClampNeg (some (x + 145))) (3 : Int32).toNatClampNeg (some (x + 147)))) := ((fr2 (x + 133)).trans h_2)
  have h_6 : Φ2 (x + 145) = some (o_ 12 [.ref (x + 146), .int 0, .int 0, .int 0]) := ((fr2 (x + 145)).trans ((fr1 (x + 145)).trans hc145_))
  refine z_callV (As := [.int 2, .int 0]) (rest := []) B (f_X0_isUsable_2 G l Φ2 sz x h_4 h_5 h_6) (cwV 2 B.1.2.2.2.2 gX0_usableTemplates_X0_isUsable rfl rfl rfl (by decide +kernel) ⟨Nat.le_of_ble_eq_true rfl, Nat.le_of_ble_eq_true rfl⟩) h_4 rfl rfl rfl rfl (Nat.le_of_ble_eq_true rfl) dX0_usableTemplates_12 ⟨Nat.le_of_ble_eq_true rfl, Nat.le_of_ble_eq_true rfl⟩ (fun v3 Φ3 sz3 st3 hp3 hs3 => ?_)
  obtain ⟨rfl, hq3, fr3⟩ := hp3
  replace hq3 : sz3 = sz := hq3
  subst sz3
  replace hs3 : st3 = [.int 0] := hs3
  subst st3
  refine z_if_eq (tgt := 24) B dX0_usableTemplates_15 rfl (fun c_6 => ?_) (fun h9 => absurd (by decide) h9)
  refine z_iinc (k := 0) (v := 3) (lv' := [(3, .int 3), (2, .int 0), (0, .ref (x + 132)), (1, .int 0)]) B dX0_usableTemplates_24 rfl rfl (Nat.le_of_ble_eq_true rfl) rfl ?_
  refine z_goto (tgt := 4) B dX0_usableTemplates_27 rfl ?_
  refine z_iload_n B dX0_usableTemplates_4 rfl 0 rfl ?_
  refine z_iconst (v := 4) B dX0_usableTemplates_5 rfl ?_
  refine z_icmp_ge (tgt := 30) B dX0_usableTemplates_6 rfl (fun h9 => absurd h9 (by decide)) (fun c_7 => ?_)
  refine z_aload_n B dX0_usableTemplates_9 rfl 2 rfl ?_
  refine z_iload_n B dX0_usableTemplates_10 rfl 0 rfl ?_
  refine z_iload_n B dX0_usableTemplates_11 rfl 3 rfl ?_
  have h_7 : Φ3 (x + 132) = some (o_ 2 [.ref (x + 3), .ref (x + 121), .ref (x + 133), .ref (x + 134), .ref (x + 135), .ref (x + 137), .ref (x + 138), .ref (x + 139), .ref (x + 140), .int 0, .int 0, .int 0]) := ((fr3 (x + 132)).trans h_4)
  have h_8 : Φ3 (x + 133) = some (aq_ G 4 4 (va_up (va_up (va_up (va_up (fun _ => none) (0 : Int32).toNatClampNeg (some (x + 141))) (1 : Int32).toNatClampNeg (some (x + 143))) (2 : Int32).toNatClampNeg (some (x + 145))) (3 : Int32).toNatClampNeg (some (x + 147)))) := ((fr3 (x + 133)).trans h_5)
  have h_9 : Φ3 (x + 147) = some (o_ 12 [.ref (x + 148), .int 0, .int 0, .int 0]) := ((fr3 (x + 147)).trans ((fr2 (x + 147)).trans ((fr1 (x + 147)).trans hc147_)))
  refine z_callV (As := [.int 3, .int 0]) (rest := []) B (f_X0_isUsable_3 G l Φ3 sz x h_7 h_8 h_9) (cwV 2 B.1.2.2.2.2 gX0_usableTemplates_X0_isUsable rfl rfl rfl (by decide +kernel) ⟨Nat.le_of_ble_eq_true rfl, Nat.le_of_ble_eq_true rfl⟩) h_7 rfl rfl rfl rfl (Nat.le_of_ble_eq_true rfl) dX0_usableTemplates_12 ⟨Nat.le_of_ble_eq_true rfl, Nat.le_of_ble_eq_true rfl⟩ (fun v4 Φ4 sz4 st4 hp4 hs4 => ?_)
  obtain ⟨rfl, hq4, fr4⟩ := hp4
  replace hq4 : sz4 = sz := hq4
  subst sz4
  replace hs4 : st4 = [.int 0] := hs4
  subst st4
  refine z_if_eq (tgt := 24) B dX0_usableTemplates_15 rfl (fun c_8 => ?_) (fun h9 => absurd (by decide) h9)
  refine z_iinc (k := 0) (v := 4) (lv' := [(3, .int 4), (2, .int 0), (0, .ref (x + 132)), (1, .int 0)]) B dX0_usableTemplates_24 rfl rfl (Nat.le_of_ble_eq_true rfl) rfl ?_
  refine z_goto (tgt := 4) B dX0_usableTemplates_27 rfl ?_
  refine z_iload_n B dX0_usableTemplates_4 rfl 0 rfl ?_
  refine z_iconst (v := 4) B dX0_usableTemplates_5 rfl ?_
  refine z_icmp_ge (tgt := 30) B dX0_usableTemplates_6 rfl (fun c_9 => ?_) (fun h9 => absurd (by decide) h9)
  refine z_iload_n B dX0_usableTemplates_30 rfl 1 rfl ?_
  exact z_ret_i B dX0_usableTemplates_31 ⟨rfl, rfl, (fun b9 => ((fr4 b9).trans ((fr3 b9).trans ((fr2 b9).trans ((fr1 b9).trans rfl)))))⟩

set_option maxHeartbeats 4000000 in
set_option maxRecDepth 100000 in
theorem f_X0_hasStarted (G : EnvG) (l : Launch) (Φ : Hm) (sz : Nat) (x : Nat) (hc132_ : Φ (x + 132) = some (o_ 2 [.ref (x + 3), .ref (x + 121), .ref (x + 133), .ref (x + 134), .ref (x + 135), .ref (x + 137), .ref (x + 138), .ref (x + 139), .ref (x + 140), .int 0, .int 0, .int 0])) : Ct G l yX0_hasStarted wsX0_hasStarted ({ frames := 0, cells := 0, slots := 0, locals := 0 }) 0 0 [.ref (x + 132)] Φ sz (fun v Φ1 sz1 => v = some (.int 0) ∧ sz1 = sz ∧ (∀ b9 : Nat, Φ1 b9 = Φ b9)) := by
  refine Ct.of (cc := cX0_hasStarted) (maxL := 1) (ret := (some .boolean)) (by decide) rfl (Nat.le_of_ble_eq_true rfl) ?_
  intro p9 e9 s9 m9 w9 t9 k9 B
  show Z p9 l e9 _ s9 m9 _ w9 t9 k9 _ G 1 0 [(0, .ref (x + 132))] [] Φ sz 0 0
  refine z_aload_n B dX0_hasStarted_0 rfl 0 rfl ?_
  refine z_get (ref := "FlowExporter$Collector") (C := RX0) (T := TX0) (N := 12) (ci := 2) (v := .int 0) B (by decide +kernel) rfl 9 (by decide) (by decide +kernel) rfl hc132_ rfl dX0_hasStarted_1 ?_
  refine z_if_le (tgt := 11) B dX0_hasStarted_4 rfl (fun c_1 => ?_) (fun h9 => absurd (by decide) h9)
  refine z_iconst (v := 0) B dX0_hasStarted_11 rfl ?_
  exact z_ret_z B dX0_hasStarted_12 (by decide) ⟨rfl, rfl, (fun b9 => rfl)⟩

set_option maxHeartbeats 4000000 in
set_option maxRecDepth 100000 in
theorem f_X11_requireTemplate_0 (G : EnvG) (l : Launch) (Φ : Hm) (sz : Nat) (x : Nat) (hc0_ : Φ x = some (o_ 13 [.ref (x + 1), .ref (x + 3), .ref (x + 24), .ref (x + 46), .ref (x + 74), .ref (x + 80), .ref (x + 132), .ref (x + 121)])) (hc3_ : Φ (x + 3) = some (o_ 3 [.ref (x + 4), .ref (x + 5), .ref (x + 6), .ref (x + 7), .int 1, .int 511])) : Ct G l yX11_requireTemplate wsX11_requireTemplate ({ frames := 0, cells := 0, slots := 0, locals := 0 }) 0 0 [.ref x, .int 0] Φ sz (fun v Φ1 sz1 => v = none ∧ sz1 = sz ∧ (∀ b9 : Nat, Φ1 b9 = Φ b9)) := by
  refine Ct.of (cc := cX11_requireTemplate) (maxL := 2) (ret := none) (by decide) rfl (Nat.le_of_ble_eq_true rfl) ?_
  intro p9 e9 s9 m9 w9 t9 k9 B
  show Z p9 l e9 _ s9 m9 _ w9 t9 k9 _ G 2 0 [(0, .ref x), (1, .int 0)] [] Φ sz 0 0
  refine z_iload_n B dX11_requireTemplate_0 rfl 1 rfl ?_
  refine z_if_lt (tgt := 15) B dX11_requireTemplate_1 rfl (fun h9 => absurd h9 (by decide)) (fun c_1 => ?_)
  refine z_iload_n B dX11_requireTemplate_4 rfl 1 rfl ?_
  refine z_aload_n B dX11_requireTemplate_5 rfl 0 rfl ?_
  refine z_get (ref := "FlowExporter") (C := RX11) (T := TX11) (N := 8) (ci := 13) (v := .ref (x + 3)) B (by decide +kernel) rfl 1 (by decide) (by decide +kernel) rfl hc0_ rfl dX11_requireTemplate_6 ?_
  refine z_get (ref := "FlowExporter$Config") (C := RX1) (T := TX1) (N := 6) (ci := 3) (v := .int 1) B (by decide +kernel) rfl 4 (by decide) (by decide +kernel) rfl hc3_ rfl dX11_requireTemplate_9 ?_
  refine z_icmp_lt (tgt := 23) B dX11_requireTemplate_12 rfl (fun c_2 => ?_) (fun h9 => absurd (by decide) h9)
  exact z_ret_v B dX11_requireTemplate_23 ⟨rfl, rfl, (fun b9 => rfl)⟩

set_option maxHeartbeats 4000000 in
set_option maxRecDepth 100000 in
theorem f_X11_flush (G : EnvG) (l : Launch) (Φ : Hm) (sz : Nat) (x : Nat) (hc0_ : Φ x = some (o_ 13 [.ref (x + 1), .ref (x + 3), .ref (x + 24), .ref (x + 46), .ref (x + 74), .ref (x + 80), .ref (x + 132), .ref (x + 121)])) (hc74_ : Φ (x + 74) = some (o_ 10 [.ref (x + 3), .ref (x + 46), .ref (x + 75), .ref (x + 77), .int 0, .ref (x + 78), .ref (x + 79), .int 0, .long 0, .int 0])) (hc80_ : Φ (x + 80) = some (o_ 4 [.ref (x + 3), .ref (x + 74), .ref (x + 81), .ref (x + 95), .int 0, .int 1, .int 1, .int 0, .int 0, .int 0, .long 0, .long 0, .long 0])) (hc81_ : Φ (x + 81) = some (o_ 6 [.ref (x + 82), .int 0])) : Ct G l yX11_flush wsX11_flush ({ frames := 2, cells := 0, slots := 0, locals := 51 }) 0 0 [.ref x] Φ sz (fun v Φ1 sz1 => v = some (.int 0) ∧ ∀ b9 : Nat, x + 149 ≤ b9 → Φ1 b9 = Φ b9) := by
  refine Ct.of (cc := cX11_flush) (maxL := 1) (ret := (some .int)) (by decide) rfl (Nat.le_of_ble_eq_true rfl) ?_
  intro p9 e9 s9 m9 w9 t9 k9 B
  show Z p9 l e9 _ s9 m9 _ w9 t9 k9 _ G 1 0 [(0, .ref x)] [] Φ sz 0 0
  refine z_aload_n B dX11_flush_0 rfl 0 rfl ?_
  refine z_get (ref := "FlowExporter") (C := RX11) (T := TX11) (N := 8) (ci := 13) (v := .ref (x + 80)) B (by decide +kernel) rfl 5 (by decide) (by decide +kernel) rfl hc0_ rfl dX11_flush_1 ?_
  refine z_callV (As := []) (rest := []) B (f_X2_exportAllAndSend G l Φ sz x hc74_ hc80_ hc81_) (cwV 0 B.1.2.2.2.2 gX11_flush_X2_exportAllAndSend rfl rfl rfl (by decide +kernel) ⟨Nat.le_of_ble_eq_true rfl, Nat.le_of_ble_eq_true rfl⟩) hc80_ rfl rfl rfl rfl (Nat.le_of_ble_eq_true rfl) dX11_flush_4 ⟨Nat.le_of_ble_eq_true rfl, Nat.le_of_ble_eq_true rfl⟩ (fun v1 Φ1 sz1 st1 hp1 hs1 => ?_)
  obtain ⟨rfl, hq1, fr1⟩ := hp1
  replace hq1 : sz1 = sz := hq1
  subst sz1
  replace hs1 : st1 = [.int 0] := hs1
  subst st1
  exact z_ret_i B dX11_flush_7 ⟨rfl, fun b9 h9 => ((fr1 b9).trans rfl)⟩

set_option maxHeartbeats 4000000 in
set_option maxRecDepth 100000 in
theorem f_X11_rateBits (G : EnvG) (l : Launch) (Φ : Hm) (sz : Nat) (x : Nat) (hc0_ : Φ x = some (o_ 13 [.ref (x + 1), .ref (x + 3), .ref (x + 24), .ref (x + 46), .ref (x + 74), .ref (x + 80), .ref (x + 132), .ref (x + 121)])) (hc80_ : Φ (x + 80) = some (o_ 4 [.ref (x + 3), .ref (x + 74), .ref (x + 81), .ref (x + 95), .int 0, .int 1, .int 1, .int 0, .int 0, .int 0, .long 0, .long 0, .long 0])) : Ct G l yX11_rateBits wsX11_rateBits ({ frames := 1, cells := 0, slots := 0, locals := 23 }) 0 0 [.ref x] Φ sz (fun v Φ1 sz1 => v = some (.int 1065353216) ∧ ∀ b9 : Nat, x + 149 ≤ b9 → Φ1 b9 = Φ b9) := by
  refine Ct.of (cc := cX11_rateBits) (maxL := 1) (ret := (some .int)) (by decide) rfl (Nat.le_of_ble_eq_true rfl) ?_
  intro p9 e9 s9 m9 w9 t9 k9 B
  show Z p9 l e9 _ s9 m9 _ w9 t9 k9 _ G 1 0 [(0, .ref x)] [] Φ sz 0 0
  refine z_aload_n B dX11_rateBits_0 rfl 0 rfl ?_
  refine z_get (ref := "FlowExporter") (C := RX11) (T := TX11) (N := 8) (ci := 13) (v := .ref (x + 80)) B (by decide +kernel) rfl 5 (by decide) (by decide +kernel) rfl hc0_ rfl dX11_rateBits_1 ?_
  refine z_get (ref := "FlowExporter$Exporter") (C := RX2) (T := TX2) (N := 13) (ci := 4) (v := .int 1) B (by decide +kernel) rfl 5 (by decide) (by decide +kernel) rfl hc80_ rfl dX11_rateBits_4 ?_
  refine z_callS (As := [.int 1]) (rest := []) B (f_X2_bitsOfInverse G l Φ sz x ) (va_cwS 1 B.1.2.2.2.2 gX11_rateBits_X2_bitsOfInverse rfl rfl rfl (by decide +kernel) ⟨Nat.le_of_ble_eq_true rfl, Nat.le_of_ble_eq_true rfl⟩) rfl rfl (Nat.le_of_ble_eq_true rfl) dX11_rateBits_7 ⟨Nat.le_of_ble_eq_true rfl, Nat.le_of_ble_eq_true rfl⟩ (fun v1 Φ1 sz1 st1 hp1 hs1 => ?_)
  obtain ⟨rfl, hq1, fr1⟩ := hp1
  replace hq1 : sz1 = sz := hq1
  subst sz1
  replace hs1 : st1 = [.int 1065353216] := hs1
  subst st1
  exact z_ret_i B dX11_rateBits_10 ⟨rfl, fun b9 h9 => ((fr1 b9).trans rfl)⟩

set_option maxHeartbeats 4000000 in
set_option maxRecDepth 100000 in
theorem f_X11_setRate (G : EnvG) (l : Launch) (Φ : Hm) (sz : Nat) (x : Nat) (a : Int32) (hc0_ : Φ x = some (o_ 13 [.ref (x + 1), .ref (x + 3), .ref (x + 24), .ref (x + 46), .ref (x + 74), .ref (x + 80), .ref (x + 132), .ref (x + 121)])) (hc74_ : Φ (x + 74) = some (o_ 10 [.ref (x + 3), .ref (x + 46), .ref (x + 75), .ref (x + 77), .int 0, .ref (x + 78), .ref (x + 79), .int 0, .long 0, .int 0])) (hc80_ : Φ (x + 80) = some (o_ 4 [.ref (x + 3), .ref (x + 74), .ref (x + 81), .ref (x + 95), .int 0, .int 1, .int 1, .int 0, .int 0, .int 0, .long 0, .long 0, .long 0])) (hc81_ : Φ (x + 81) = some (o_ 6 [.ref (x + 82), .int 0])) (hna : G.2.2.2 ≤ x) : Ct G l yX11_setRate wsX11_setRate ({ frames := 2, cells := 0, slots := 0, locals := 51 }) 0 0 [.ref x, .int a] Φ sz (fun v Φ1 sz1 => v = some (.int (if a < 1 then -1 else if a ≤ 1024 then 0 else -1)) ∧ ∀ b9 : Nat, x + 149 ≤ b9 → Φ1 b9 = Φ b9) := by
  refine Ct.of (cc := cX11_setRate) (maxL := 3) (ret := (some .int)) (by decide) rfl (Nat.le_of_ble_eq_true rfl) ?_
  intro p9 e9 s9 m9 w9 t9 k9 B
  show Z p9 l e9 _ s9 m9 _ w9 t9 k9 _ G 3 0 [(0, .ref x), (1, .int a)] [] Φ sz 0 0
  refine z_iload_n B dX11_setRate_0 rfl 1 rfl ?_
  refine z_iconst (v := 1) B dX11_setRate_1 rfl ?_
  refine z_icmp_lt (tgt := 12) B dX11_setRate_2 rfl (fun c_1 => ?_) (fun c_1 => ?_)
  · refine z_iconst (v := (-1)) B dX11_setRate_12 rfl ?_
    exact z_ret_i B dX11_setRate_13 ⟨(by first | rfl | simp [c_1]), fun b9 h9 => rfl⟩
  · refine z_iload_n B dX11_setRate_5 rfl 1 rfl ?_
    refine z_sipush (v := 1024) B dX11_setRate_6 rfl ?_
    refine z_icmp_le (tgt := 14) B dX11_setRate_9 rfl (fun c_2 => ?_) (fun c_2 => ?_)
    · refine z_iload_n B dX11_setRate_14 rfl 1 rfl ?_
      refine z_aload_n B dX11_setRate_15 rfl 0 rfl ?_
      refine z_get (ref := "FlowExporter") (C := RX11) (T := TX11) (N := 8) (ci := 13) (v := .ref (x + 80)) B (by decide +kernel) rfl 5 (by decide) (by decide +kernel) rfl hc0_ rfl dX11_setRate_16 ?_
      refine z_get (ref := "FlowExporter$Exporter") (C := RX2) (T := TX2) (N := 13) (ci := 4) (v := .int 1) B (by decide +kernel) rfl 5 (by decide) (by decide +kernel) rfl hc80_ rfl dX11_setRate_19 ?_
      refine z_icmp_ne (tgt := 27) B dX11_setRate_22 rfl (fun c_3 => ?_) (fun c_3 => ?_)
      · refine z_aload_n B dX11_setRate_27 rfl 0 rfl ?_
        refine z_get (ref := "FlowExporter") (C := RX11) (T := TX11) (N := 8) (ci := 13) (v := .ref (x + 80)) B (by decide +kernel) rfl 5 (by decide) (by decide +kernel) rfl hc0_ rfl dX11_setRate_28 ?_
        refine z_callV (As := []) (rest := []) B (f_X2_exportAllAndSend G l Φ sz x hc74_ hc80_ hc81_) (cwV 0 B.1.2.2.2.2 gX11_setRate_X2_exportAllAndSend rfl rfl rfl (by decide +kernel) ⟨Nat.le_of_ble_eq_true rfl, Nat.le_of_ble_eq_true rfl⟩) hc80_ rfl rfl rfl rfl (Nat.le_of_ble_eq_true rfl) dX11_setRate_31 ⟨Nat.le_of_ble_eq_true rfl, Nat.le_of_ble_eq_true rfl⟩ (fun v1 Φ1 sz1 st1 hp1 hs1 => ?_)
        obtain ⟨rfl, hq1, fr1⟩ := hp1
        replace hq1 : sz1 = sz := hq1
        subst sz1
        replace hs1 : st1 = [.int 0] := hs1
        subst st1
        refine z_istore_n (lv' := [(2, .int 0), (0, .ref x), (1, .int a)]) B dX11_setRate_34 rfl (Nat.le_of_ble_eq_true rfl) rfl ?_
        refine z_aload_n B dX11_setRate_35 rfl 1 rfl ?_
        have h_1 : Φ1 x = some (o_ 13 [.ref (x + 1), .ref (x + 3), .ref (x + 24), .ref (x + 46), .ref (x + 74), .ref (x + 80), .ref (x + 132), .ref (x + 121)]) := ((fr1 x).trans hc0_)
        refine z_get (ref := "FlowExporter") (C := RX11) (T := TX11) (N := 8) (ci := 13) (v := .ref (x + 80)) B (by decide +kernel) rfl 5 (by decide) (by decide +kernel) rfl h_1 rfl dX11_setRate_36 ?_
        refine z_iload_n B dX11_setRate_39 rfl 2 rfl ?_
        have h_2 : Φ1 (x + 80) = some (o_ 4 [.ref (x + 3), .ref (x + 74), .ref (x + 81), .ref (x + 95), .int 0, .int 1, .int 1, .int 0, .int 0, .int 0, .long 0, .long 0, .long 0]) := ((fr1 (x + 80)).trans hc80_)
        refine z_put (ref := "FlowExporter$Exporter") (C := RX2) (T := TX2) (N := 13) (ci := 4) (v := .int a) B (by decide +kernel) tyX2 tyX2_ok nmX2 rfl 5 (by decide) (by decide +kernel) rfl (Or.inl rfl) h_2 (Nat.le_trans hna (Nat.le_add_right x 80)) rfl rfl (Nat.le_of_ble_eq_true rfl) dX11_setRate_40 (fun Φ2 hΦ1 => ?_)
        have h_3 : Φ2 (x + 80) = some (o_ 4 [.ref (x + 3), .ref (x + 74), .ref (x + 81), .ref (x + 95), .int 0, .int a, .int 1, .int 0, .int 0, .int 0, .long 0, .long 0, .long 0]) := fset_at hΦ1
        refine z_iload_n B dX11_setRate_43 rfl 0 rfl ?_
        exact z_ret_i B dX11_setRate_44 ⟨(by first | rfl | simp [c_1, c_2, c_3]), fun b9 h9 => ((fset_fr hΦ1 (Nat.ne_of_gt (Nat.lt_of_lt_of_le (lt_off (x := x) (i := 80) (j := 149) rfl) h9))).trans ((fr1 b9).trans rfl))⟩
      · refine z_iconst (v := 0) B dX11_setRate_25 rfl ?_
        exact z_ret_i B dX11_setRate_26 ⟨(by first | rfl | simp [c_1, c_2, c_3]), fun b9 h9 => rfl⟩
    · refine z_iconst (v := (-1)) B dX11_setRate_12 rfl ?_
      exact z_ret_i B dX11_setRate_13 ⟨(by first | rfl | simp [c_1, c_2]), fun b9 h9 => rfl⟩

set_option maxHeartbeats 4000000 in
set_option maxRecDepth 100000 in
theorem f_X11_templateFields (G : EnvG) (l : Launch) (Φ : Hm) (sz : Nat) (x : Nat) (hc0_ : Φ x = some (o_ 13 [.ref (x + 1), .ref (x + 3), .ref (x + 24), .ref (x + 46), .ref (x + 74), .ref (x + 80), .ref (x + 132), .ref (x + 121)])) (hc3_ : Φ (x + 3) = some (o_ 3 [.ref (x + 4), .ref (x + 5), .ref (x + 6), .ref (x + 7), .int 1, .int 511])) (hc6_ : Φ (x + 6) = some (aq_ G 4 4 (va_up (va_up (va_up (va_up (fun _ => none) (0 : Int32).toNatClampNeg (some (x + 8))) (1 : Int32).toNatClampNeg (some (x + 12))) (2 : Int32).toNatClampNeg (some (x + 16))) (3 : Int32).toNatClampNeg (some (x + 20))))) (hc8_ : Φ (x + 8) = some (o_ 12 [.ref (x + 9), .int 9, .int 511, .int 29])) : Ct G l yX11_templateFields wsX11_templateFields ({ frames := 1, cells := 0, slots := 0, locals := 21 }) 0 0 [.ref x, .int 0] Φ sz (fun v Φ1 sz1 => v = some (.int 511) ∧ ∀ b9 : Nat, x + 149 ≤ b9 → Φ1 b9 = Φ b9) := by
  refine Ct.of (cc := cX11_templateFields) (maxL := 2) (ret := (some .int)) (by decide) rfl (Nat.le_of_ble_eq_true rfl) ?_
  intro p9 e9 s9 m9 w9 t9 k9 B
  show Z p9 l e9 _ s9 m9 _ w9 t9 k9 _ G 2 0 [(0, .ref x), (1, .int 0)] [] Φ sz 0 0
  refine z_aload_n B dX11_templateFields_0 rfl 0 rfl ?_
  refine z_iload_n B dX11_templateFields_1 rfl 1 rfl ?_
  refine z_callV (As := [.int 0]) (rest := []) B (f_X11_requireTemplate_0 G l Φ sz x hc0_ hc3_) (cwV 1 B.1.2.2.2.2 gX11_templateFields_X11_requireTemplate rfl rfl rfl (by decide +kernel) ⟨Nat.le_of_ble_eq_true rfl, Nat.le_of_ble_eq_true rfl⟩) hc0_ rfl rfl rfl rfl (Nat.le_of_ble_eq_true rfl) dX11_templateFields_2 ⟨Nat.le_of_ble_eq_true rfl, Nat.le_of_ble_eq_true rfl⟩ (fun v1 Φ1 sz1 st1 hp1 hs1 => ?_)
  obtain ⟨rfl, hq1, fr1⟩ := hp1
  replace hq1 : sz1 = sz := hq1
  subst sz1
  replace hs1 : st1 = [] := hs1
  subst st1
  refine z_aload_n B dX11_templateFields_5 rfl 0 rfl ?_
  have h_1 : Φ1 x = some (o_ 13 [.ref (x + 1), .ref (x + 3), .ref (x + 24), .ref (x + 46), .ref (x + 74), .ref (x + 80), .ref (x + 132), .ref (x + 121)]) := ((fr1 x).trans hc0_)
  refine z_get (ref := "FlowExporter") (C := RX11) (T := TX11) (N := 8) (ci := 13) (v := .ref (x + 3)) B (by decide +kernel) rfl 1 (by decide) (by decide +kernel) rfl h_1 rfl dX11_templateFields_6 ?_
  refine z_iload_n B dX11_templateFields_9 rfl 1 rfl ?_
  have h_2 : Φ1 (x + 3) = some (o_ 3 [.ref (x + 4), .ref (x + 5), .ref (x + 6), .ref (x + 7), .int 1, .int 511]) := ((fr1 (x + 3)).trans hc3_)
  have h_3 : Φ1 (x + 6) = some (aq_ G 4 4 (va_up (va_up (va_up (va_up (fun _ => none) (0 : Int32).toNatClampNeg (some (x + 8))) (1 : Int32).toNatClampNeg (some (x + 12))) (2 : Int32).toNatClampNeg (some (x + 16))) (3 : Int32).toNatClampNeg (some (x + 20)))) := ((fr1 (x + 6)).trans hc6_)
  refine z_callV (As := [.int 0]) (rest := []) B (f_X1_template_0 G l Φ1 sz x h_2 h_3) (cwV 1 B.1.2.2.2.2 gX11_templateFields_X1_template rfl rfl rfl (by decide +kernel) ⟨Nat.le_of_ble_eq_true rfl, Nat.le_of_ble_eq_true rfl⟩) h_2 rfl rfl rfl rfl (Nat.le_of_ble_eq_true rfl) dX11_templateFields_10 ⟨Nat.le_of_ble_eq_true rfl, Nat.le_of_ble_eq_true rfl⟩ (fun v2 Φ2 sz2 st2 hp2 hs2 => ?_)
  obtain ⟨rfl, hq2, fr2⟩ := hp2
  replace hq2 : sz2 = sz := hq2
  subst sz2
  replace hs2 : st2 = [.ref (x + 8)] := hs2
  subst st2
  have h_4 : Φ2 (x + 8) = some (o_ 12 [.ref (x + 9), .int 9, .int 511, .int 29]) := ((fr2 (x + 8)).trans ((fr1 (x + 8)).trans hc8_))
  refine z_get (ref := "FlowExporter$Template") (C := RX10) (T := TX10) (N := 4) (ci := 12) (v := .int 511) B (by decide +kernel) rfl 2 (by decide) (by decide +kernel) rfl h_4 rfl dX11_templateFields_13 ?_
  exact z_ret_i B dX11_templateFields_16 ⟨rfl, fun b9 h9 => ((fr2 b9).trans ((fr1 b9).trans rfl))⟩

set_option maxHeartbeats 4000000 in
set_option maxRecDepth 100000 in
theorem f_X11_effectiveFields (G : EnvG) (l : Launch) (Φ : Hm) (sz : Nat) (x : Nat) (hc0_ : Φ x = some (o_ 13 [.ref (x + 1), .ref (x + 3), .ref (x + 24), .ref (x + 46), .ref (x + 74), .ref (x + 80), .ref (x + 132), .ref (x + 121)])) (hc3_ : Φ (x + 3) = some (o_ 3 [.ref (x + 4), .ref (x + 5), .ref (x + 6), .ref (x + 7), .int 1, .int 511])) (hc7_ : Φ (x + 7) = some (aq_ G 4 4 (va_up (va_up (va_up (va_up (fun _ => none) (0 : Int32).toNatClampNeg (some (x + 10))) (1 : Int32).toNatClampNeg (some (x + 14))) (2 : Int32).toNatClampNeg (some (x + 18))) (3 : Int32).toNatClampNeg (some (x + 22))))) (hc10_ : Φ (x + 10) = some (o_ 12 [.ref (x + 11), .int 9, .int 511, .int 29])) : Ct G l yX11_effectiveFields wsX11_effectiveFields ({ frames := 1, cells := 0, slots := 0, locals := 21 }) 0 0 [.ref x, .int 0] Φ sz (fun v Φ1 sz1 => v = some (.int 511) ∧ ∀ b9 : Nat, x + 149 ≤ b9 → Φ1 b9 = Φ b9) := by
  refine Ct.of (cc := cX11_effectiveFields) (maxL := 2) (ret := (some .int)) (by decide) rfl (Nat.le_of_ble_eq_true rfl) ?_
  intro p9 e9 s9 m9 w9 t9 k9 B
  show Z p9 l e9 _ s9 m9 _ w9 t9 k9 _ G 2 0 [(0, .ref x), (1, .int 0)] [] Φ sz 0 0
  refine z_aload_n B dX11_effectiveFields_0 rfl 0 rfl ?_
  refine z_iload_n B dX11_effectiveFields_1 rfl 1 rfl ?_
  refine z_callV (As := [.int 0]) (rest := []) B (f_X11_requireTemplate_0 G l Φ sz x hc0_ hc3_) (cwV 1 B.1.2.2.2.2 gX11_effectiveFields_X11_requireTemplate rfl rfl rfl (by decide +kernel) ⟨Nat.le_of_ble_eq_true rfl, Nat.le_of_ble_eq_true rfl⟩) hc0_ rfl rfl rfl rfl (Nat.le_of_ble_eq_true rfl) dX11_effectiveFields_2 ⟨Nat.le_of_ble_eq_true rfl, Nat.le_of_ble_eq_true rfl⟩ (fun v1 Φ1 sz1 st1 hp1 hs1 => ?_)
  obtain ⟨rfl, hq1, fr1⟩ := hp1
  replace hq1 : sz1 = sz := hq1
  subst sz1
  replace hs1 : st1 = [] := hs1
  subst st1
  refine z_aload_n B dX11_effectiveFields_5 rfl 0 rfl ?_
  have h_1 : Φ1 x = some (o_ 13 [.ref (x + 1), .ref (x + 3), .ref (x + 24), .ref (x + 46), .ref (x + 74), .ref (x + 80), .ref (x + 132), .ref (x + 121)]) := ((fr1 x).trans hc0_)
  refine z_get (ref := "FlowExporter") (C := RX11) (T := TX11) (N := 8) (ci := 13) (v := .ref (x + 3)) B (by decide +kernel) rfl 1 (by decide) (by decide +kernel) rfl h_1 rfl dX11_effectiveFields_6 ?_
  refine z_iload_n B dX11_effectiveFields_9 rfl 1 rfl ?_
  have h_2 : Φ1 (x + 3) = some (o_ 3 [.ref (x + 4), .ref (x + 5), .ref (x + 6), .ref (x + 7), .int 1, .int 511]) := ((fr1 (x + 3)).trans hc3_)
  have h_3 : Φ1 (x + 7) = some (aq_ G 4 4 (va_up (va_up (va_up (va_up (fun _ => none) (0 : Int32).toNatClampNeg (some (x + 10))) (1 : Int32).toNatClampNeg (some (x + 14))) (2 : Int32).toNatClampNeg (some (x + 18))) (3 : Int32).toNatClampNeg (some (x + 22)))) := ((fr1 (x + 7)).trans hc7_)
  refine z_callV (As := [.int 0]) (rest := []) B (f_X1_effective_0 G l Φ1 sz x h_2 h_3) (cwV 1 B.1.2.2.2.2 gX11_effectiveFields_X1_effective rfl rfl rfl (by decide +kernel) ⟨Nat.le_of_ble_eq_true rfl, Nat.le_of_ble_eq_true rfl⟩) h_2 rfl rfl rfl rfl (Nat.le_of_ble_eq_true rfl) dX11_effectiveFields_10 ⟨Nat.le_of_ble_eq_true rfl, Nat.le_of_ble_eq_true rfl⟩ (fun v2 Φ2 sz2 st2 hp2 hs2 => ?_)
  obtain ⟨rfl, hq2, fr2⟩ := hp2
  replace hq2 : sz2 = sz := hq2
  subst sz2
  replace hs2 : st2 = [.ref (x + 10)] := hs2
  subst st2
  have h_4 : Φ2 (x + 10) = some (o_ 12 [.ref (x + 11), .int 9, .int 511, .int 29]) := ((fr2 (x + 10)).trans ((fr1 (x + 10)).trans hc10_))
  refine z_get (ref := "FlowExporter$Template") (C := RX10) (T := TX10) (N := 4) (ci := 12) (v := .int 511) B (by decide +kernel) rfl 2 (by decide) (by decide +kernel) rfl h_4 rfl dX11_effectiveFields_13 ?_
  exact z_ret_i B dX11_effectiveFields_16 ⟨rfl, fun b9 h9 => ((fr2 b9).trans ((fr1 b9).trans rfl))⟩

set_option maxHeartbeats 4000000 in
set_option maxRecDepth 100000 in
theorem f_X11_recordLength (G : EnvG) (l : Launch) (Φ : Hm) (sz : Nat) (x : Nat) (hc0_ : Φ x = some (o_ 13 [.ref (x + 1), .ref (x + 3), .ref (x + 24), .ref (x + 46), .ref (x + 74), .ref (x + 80), .ref (x + 132), .ref (x + 121)])) (hc3_ : Φ (x + 3) = some (o_ 3 [.ref (x + 4), .ref (x + 5), .ref (x + 6), .ref (x + 7), .int 1, .int 511])) (hc7_ : Φ (x + 7) = some (aq_ G 4 4 (va_up (va_up (va_up (va_up (fun _ => none) (0 : Int32).toNatClampNeg (some (x + 10))) (1 : Int32).toNatClampNeg (some (x + 14))) (2 : Int32).toNatClampNeg (some (x + 18))) (3 : Int32).toNatClampNeg (some (x + 22))))) (hc10_ : Φ (x + 10) = some (o_ 12 [.ref (x + 11), .int 9, .int 511, .int 29])) : Ct G l yX11_recordLength wsX11_recordLength ({ frames := 1, cells := 0, slots := 0, locals := 21 }) 0 0 [.ref x, .int 0] Φ sz (fun v Φ1 sz1 => v = some (.int 29) ∧ ∀ b9 : Nat, x + 149 ≤ b9 → Φ1 b9 = Φ b9) := by
  refine Ct.of (cc := cX11_recordLength) (maxL := 2) (ret := (some .int)) (by decide) rfl (Nat.le_of_ble_eq_true rfl) ?_
  intro p9 e9 s9 m9 w9 t9 k9 B
  show Z p9 l e9 _ s9 m9 _ w9 t9 k9 _ G 2 0 [(0, .ref x), (1, .int 0)] [] Φ sz 0 0
  refine z_aload_n B dX11_recordLength_0 rfl 0 rfl ?_
  refine z_iload_n B dX11_recordLength_1 rfl 1 rfl ?_
  refine z_callV (As := [.int 0]) (rest := []) B (f_X11_requireTemplate_0 G l Φ sz x hc0_ hc3_) (cwV 1 B.1.2.2.2.2 gX11_recordLength_X11_requireTemplate rfl rfl rfl (by decide +kernel) ⟨Nat.le_of_ble_eq_true rfl, Nat.le_of_ble_eq_true rfl⟩) hc0_ rfl rfl rfl rfl (Nat.le_of_ble_eq_true rfl) dX11_recordLength_2 ⟨Nat.le_of_ble_eq_true rfl, Nat.le_of_ble_eq_true rfl⟩ (fun v1 Φ1 sz1 st1 hp1 hs1 => ?_)
  obtain ⟨rfl, hq1, fr1⟩ := hp1
  replace hq1 : sz1 = sz := hq1
  subst sz1
  replace hs1 : st1 = [] := hs1
  subst st1
  refine z_aload_n B dX11_recordLength_5 rfl 0 rfl ?_
  have h_1 : Φ1 x = some (o_ 13 [.ref (x + 1), .ref (x + 3), .ref (x + 24), .ref (x + 46), .ref (x + 74), .ref (x + 80), .ref (x + 132), .ref (x + 121)]) := ((fr1 x).trans hc0_)
  refine z_get (ref := "FlowExporter") (C := RX11) (T := TX11) (N := 8) (ci := 13) (v := .ref (x + 3)) B (by decide +kernel) rfl 1 (by decide) (by decide +kernel) rfl h_1 rfl dX11_recordLength_6 ?_
  refine z_iload_n B dX11_recordLength_9 rfl 1 rfl ?_
  have h_2 : Φ1 (x + 3) = some (o_ 3 [.ref (x + 4), .ref (x + 5), .ref (x + 6), .ref (x + 7), .int 1, .int 511]) := ((fr1 (x + 3)).trans hc3_)
  have h_3 : Φ1 (x + 7) = some (aq_ G 4 4 (va_up (va_up (va_up (va_up (fun _ => none) (0 : Int32).toNatClampNeg (some (x + 10))) (1 : Int32).toNatClampNeg (some (x + 14))) (2 : Int32).toNatClampNeg (some (x + 18))) (3 : Int32).toNatClampNeg (some (x + 22)))) := ((fr1 (x + 7)).trans hc7_)
  refine z_callV (As := [.int 0]) (rest := []) B (f_X1_effective_0 G l Φ1 sz x h_2 h_3) (cwV 1 B.1.2.2.2.2 gX11_recordLength_X1_effective rfl rfl rfl (by decide +kernel) ⟨Nat.le_of_ble_eq_true rfl, Nat.le_of_ble_eq_true rfl⟩) h_2 rfl rfl rfl rfl (Nat.le_of_ble_eq_true rfl) dX11_recordLength_10 ⟨Nat.le_of_ble_eq_true rfl, Nat.le_of_ble_eq_true rfl⟩ (fun v2 Φ2 sz2 st2 hp2 hs2 => ?_)
  obtain ⟨rfl, hq2, fr2⟩ := hp2
  replace hq2 : sz2 = sz := hq2
  subst sz2
  replace hs2 : st2 = [.ref (x + 10)] := hs2
  subst st2
  have h_4 : Φ2 (x + 10) = some (o_ 12 [.ref (x + 11), .int 9, .int 511, .int 29]) := ((fr2 (x + 10)).trans ((fr1 (x + 10)).trans hc10_))
  refine z_get (ref := "FlowExporter$Template") (C := RX10) (T := TX10) (N := 4) (ci := 12) (v := .int 29) B (by decide +kernel) rfl 3 (by decide) (by decide +kernel) rfl h_4 rfl dX11_recordLength_13 ?_
  exact z_ret_i B dX11_recordLength_16 ⟨rfl, fun b9 h9 => ((fr2 b9).trans ((fr1 b9).trans rfl))⟩

set_option maxHeartbeats 4000000 in
set_option maxRecDepth 100000 in
theorem f_X11_isDue (G : EnvG) (l : Launch) (Φ : Hm) (sz : Nat) (x : Nat) (hc0_ : Φ x = some (o_ 13 [.ref (x + 1), .ref (x + 3), .ref (x + 24), .ref (x + 46), .ref (x + 74), .ref (x + 80), .ref (x + 132), .ref (x + 121)])) (hc3_ : Φ (x + 3) = some (o_ 3 [.ref (x + 4), .ref (x + 5), .ref (x + 6), .ref (x + 7), .int 1, .int 511])) (hc7_ : Φ (x + 7) = some (aq_ G 4 4 (va_up (va_up (va_up (va_up (fun _ => none) (0 : Int32).toNatClampNeg (some (x + 10))) (1 : Int32).toNatClampNeg (some (x + 14))) (2 : Int32).toNatClampNeg (some (x + 18))) (3 : Int32).toNatClampNeg (some (x + 22))))) (hc10_ : Φ (x + 10) = some (o_ 12 [.ref (x + 11), .int 9, .int 511, .int 29])) (hc74_ : Φ (x + 74) = some (o_ 10 [.ref (x + 3), .ref (x + 46), .ref (x + 75), .ref (x + 77), .int 0, .ref (x + 78), .ref (x + 79), .int 0, .long 0, .int 0])) (hc78_ : Φ (x + 78) = some (ai_ G 4 (fun _ => 0))) (hc80_ : Φ (x + 80) = some (o_ 4 [.ref (x + 3), .ref (x + 74), .ref (x + 81), .ref (x + 95), .int 0, .int 1, .int 1, .int 0, .int 0, .int 0, .long 0, .long 0, .long 0])) : Ct G l yX11_isDue wsX11_isDue ({ frames := 2, cells := 0, slots := 0, locals := 43 }) 0 0 [.ref x, .int 0] Φ sz (fun v Φ1 sz1 => v = some (.int 1) ∧ ∀ b9 : Nat, x + 149 ≤ b9 → Φ1 b9 = Φ b9) := by
  refine Ct.of (cc := cX11_isDue) (maxL := 2) (ret := (some .boolean)) (by decide) rfl (Nat.le_of_ble_eq_true rfl) ?_
  intro p9 e9 s9 m9 w9 t9 k9 B
  show Z p9 l e9 _ s9 m9 _ w9 t9 k9 _ G 2 0 [(0, .ref x), (1, .int 0)] [] Φ sz 0 0
  refine z_aload_n B dX11_isDue_0 rfl 0 rfl ?_
  refine z_iload_n B dX11_isDue_1 rfl 1 rfl ?_
  refine z_callV (As := [.int 0]) (rest := []) B (f_X11_requireTemplate_0 G l Φ sz x hc0_ hc3_) (cwV 1 B.1.2.2.2.2 gX11_isDue_X11_requireTemplate rfl rfl rfl (by decide +kernel) ⟨Nat.le_of_ble_eq_true rfl, Nat.le_of_ble_eq_true rfl⟩) hc0_ rfl rfl rfl rfl (Nat.le_of_ble_eq_true rfl) dX11_isDue_2 ⟨Nat.le_of_ble_eq_true rfl, Nat.le_of_ble_eq_true rfl⟩ (fun v1 Φ1 sz1 st1 hp1 hs1 => ?_)
  obtain ⟨rfl, hq1, fr1⟩ := hp1
  replace hq1 : sz1 = sz := hq1
  subst sz1
  replace hs1 : st1 = [] := hs1
  subst st1
  refine z_aload_n B dX11_isDue_5 rfl 0 rfl ?_
  have h_1 : Φ1 x = some (o_ 13 [.ref (x + 1), .ref (x + 3), .ref (x + 24), .ref (x + 46), .ref (x + 74), .ref (x + 80), .ref (x + 132), .ref (x + 121)]) := ((fr1 x).trans hc0_)
  refine z_get (ref := "FlowExporter") (C := RX11) (T := TX11) (N := 8) (ci := 13) (v := .ref (x + 74)) B (by decide +kernel) rfl 4 (by decide) (by decide +kernel) rfl h_1 rfl dX11_isDue_6 ?_
  refine z_iload_n B dX11_isDue_9 rfl 1 rfl ?_
  refine z_aload_n B dX11_isDue_10 rfl 0 rfl ?_
  refine z_get (ref := "FlowExporter") (C := RX11) (T := TX11) (N := 8) (ci := 13) (v := .ref (x + 80)) B (by decide +kernel) rfl 5 (by decide) (by decide +kernel) rfl h_1 rfl dX11_isDue_11 ?_
  have h_2 : Φ1 (x + 80) = some (o_ 4 [.ref (x + 3), .ref (x + 74), .ref (x + 81), .ref (x + 95), .int 0, .int 1, .int 1, .int 0, .int 0, .int 0, .long 0, .long 0, .long 0]) := ((fr1 (x + 80)).trans hc80_)
  refine z_get (ref := "FlowExporter$Exporter") (C := RX2) (T := TX2) (N := 13) (ci := 4) (v := .int 0) B (by decide +kernel) rfl 4 (by decide) (by decide +kernel) rfl h_2 rfl dX11_isDue_14 ?_
  have h_3 : Φ1 (x + 3) = some (o_ 3 [.ref (x + 4), .ref (x + 5), .ref (x + 6), .ref (x + 7), .int 1, .int 511]) := ((fr1 (x + 3)).trans hc3_)
  have h_4 : Φ1 (x + 7) = some (aq_ G 4 4 (va_up (va_up (va_up (va_up (fun _ => none) (0 : Int32).toNatClampNeg (some (x + 10))) (1 : Int32).toNatClampNeg (some (x + 14))) (2 : Int32).toNatClampNeg (some (x + 18))) (3 : Int32).toNatClampNeg (some (x + 22)))) := ((fr1 (x + 7)).trans hc7_)
  have h_5 : Φ1 (x + 10) = some (o_ 12 [.ref (x + 11), .int 9, .int 511, .int 29]) := ((fr1 (x + 10)).trans hc10_)
  have h_6 : Φ1 (x + 74) = some (o_ 10 [.ref (x + 3), .ref (x + 46), .ref (x + 75), .ref (x + 77), .int 0, .ref (x + 78), .ref (x + 79), .int 0, .long 0, .int 0]) := ((fr1 (x + 74)).trans hc74_)
  have h_7 : Φ1 (x + 78) = some (ai_ G 4 (fun _ => 0)) := ((fr1 (x + 78)).trans hc78_)
  refine z_callV (As := [.int 0, .int 0]) (rest := []) B (f_X8_mustSend G l Φ1 sz x h_3 h_4 h_5 h_6 h_7) (cwV 2 B.1.2.2.2.2 gX11_isDue_X8_mustSend rfl rfl rfl (by decide +kernel) ⟨Nat.le_of_ble_eq_true rfl, Nat.le_of_ble_eq_true rfl⟩) h_6 rfl rfl rfl rfl (Nat.le_of_ble_eq_true rfl) dX11_isDue_17 ⟨Nat.le_of_ble_eq_true rfl, Nat.le_of_ble_eq_true rfl⟩ (fun v2 Φ2 sz2 st2 hp2 hs2 => ?_)
  obtain ⟨rfl, hq2, fr2⟩ := hp2
  replace hq2 : sz2 = sz := hq2
  subst sz2
  replace hs2 : st2 = [.int 1] := hs2
  subst st2
  exact z_ret_z B dX11_isDue_20 (by decide) ⟨rfl, fun b9 h9 => ((fr2 b9).trans ((fr1 b9).trans rfl))⟩

set_option maxHeartbeats 4000000 in
set_option maxRecDepth 100000 in
theorem f_X11_receive (G : EnvG) (l : Launch) (Φ : Hm) (sz : Nat) (x : Nat) (hc0_ : Φ x = some (o_ 13 [.ref (x + 1), .ref (x + 3), .ref (x + 24), .ref (x + 46), .ref (x + 74), .ref (x + 80), .ref (x + 132), .ref (x + 121)])) (hc1_ : Φ (x + 1) = some (o_ 7 [.ref (x + 2), .int 0])) (hc80_ : Φ (x + 80) = some (o_ 4 [.ref (x + 3), .ref (x + 74), .ref (x + 81), .ref (x + 95), .int 0, .int 1, .int 1, .int 0, .int 0, .int 0, .long 0, .long 0, .long 0])) (hc132_ : Φ (x + 132) = some (o_ 2 [.ref (x + 3), .ref (x + 121), .ref (x + 133), .ref (x + 134), .ref (x + 135), .ref (x + 137), .ref (x + 138), .ref (x + 139), .ref (x + 140), .int 0, .int 0, .int 0])) (hc139_ : Φ (x + 139) = some (al_ G 9 (fun _ => 0))) (hna : G.2.2.2 ≤ x) : Ct G l yX11_receive wsX11_receive ({ frames := 1, cells := 0, slots := 0, locals := 24 }) 0 0 [.ref x] Φ sz (fun v Φ1 sz1 => v = some (.int 0) ∧ ∀ b9 : Nat, x + 149 ≤ b9 → Φ1 b9 = Φ b9) := by
  refine Ct.of (cc := cX11_receive) (maxL := 2) (ret := (some .int)) (by decide) rfl (Nat.le_of_ble_eq_true rfl) ?_
  intro p9 e9 s9 m9 w9 t9 k9 B
  show Z p9 l e9 _ s9 m9 _ w9 t9 k9 _ G 2 0 [(0, .ref x)] [] Φ sz 0 0
  refine z_aload_n B dX11_receive_0 rfl 0 rfl ?_
  refine z_get (ref := "FlowExporter") (C := RX11) (T := TX11) (N := 8) (ci := 13) (v := .ref (x + 132)) B (by decide +kernel) rfl 6 (by decide) (by decide +kernel) rfl hc0_ rfl dX11_receive_1 ?_
  refine z_aload_n B dX11_receive_4 rfl 0 rfl ?_
  refine z_get (ref := "FlowExporter") (C := RX11) (T := TX11) (N := 8) (ci := 13) (v := .ref (x + 1)) B (by decide +kernel) rfl 0 (by decide) (by decide +kernel) rfl hc0_ rfl dX11_receive_5 ?_
  refine z_aload_n B dX11_receive_8 rfl 0 rfl ?_
  refine z_get (ref := "FlowExporter") (C := RX11) (T := TX11) (N := 8) (ci := 13) (v := .ref (x + 80)) B (by decide +kernel) rfl 5 (by decide) (by decide +kernel) rfl hc0_ rfl dX11_receive_9 ?_
  refine z_get (ref := "FlowExporter$Exporter") (C := RX2) (T := TX2) (N := 13) (ci := 4) (v := .int 0) B (by decide +kernel) rfl 4 (by decide) (by decide +kernel) rfl hc80_ rfl dX11_receive_12 ?_
  refine z_callV (As := [.ref (x + 1), .int 0]) (rest := []) B (f_X0_take G l Φ sz x hc1_ hc132_ hc139_ hna) (cwV 2 B.1.2.2.2.2 gX11_receive_X0_take rfl rfl rfl (by decide +kernel) ⟨Nat.le_of_ble_eq_true rfl, Nat.le_of_ble_eq_true rfl⟩) hc132_ rfl rfl rfl rfl (Nat.le_of_ble_eq_true rfl) dX11_receive_15 ⟨Nat.le_of_ble_eq_true rfl, Nat.le_of_ble_eq_true rfl⟩ (fun v1 Φ1 sz1 st1 hp1 hs1 => ?_)
  obtain ⟨rfl, hq1, fr1, h_1⟩ := hp1
  replace hq1 : sz1 = sz := hq1
  subst sz1
  replace hs1 : st1 = [.int 0] := hs1
  subst st1
  have h_2 : Φ1 (x + 139) = some (al_ G 9 (vp_updL (vp_updL (fun _ => 0) (8 : Int32).toNatClampNeg 1) (4 : Int32).toNatClampNeg 1)) := h_1
  refine z_istore_n (lv' := [(1, .int 0), (0, .ref x)]) B dX11_receive_18 rfl (Nat.le_of_ble_eq_true rfl) rfl ?_
  refine z_aload_n B dX11_receive_19 rfl 1 rfl ?_
  have h_3 : Φ1 x = some (o_ 13 [.ref (x + 1), .ref (x + 3), .ref (x + 24), .ref (x + 46), .ref (x + 74), .ref (x + 80), .ref (x + 132), .ref (x + 121)]) := ((fr1 x (ne_off (x := x) (i := 0) (j := 139) rfl)).trans hc0_)
  refine z_get (ref := "FlowExporter") (C := RX11) (T := TX11) (N := 8) (ci := 13) (v := .ref (x + 1)) B (by decide +kernel) rfl 0 (by decide) (by decide +kernel) rfl h_3 rfl dX11_receive_20 ?_
  refine z_iconst (v := 0) B dX11_receive_23 rfl ?_
  have h_4 : Φ1 (x + 1) = some (o_ 7 [.ref (x + 2), .int 0]) := ((fr1 (x + 1) (ne_off (x := x) (i := 1) (j := 139) rfl)).trans hc1_)
  refine z_put (ref := "FlowExporter$Message") (C := RX5) (T := TX5) (N := 2) (ci := 7) (v := .int 0) B (by decide +kernel) tyX5 tyX5_ok nmX5 rfl 1 (by decide) (by decide +kernel) rfl (Or.inl rfl) h_4 (Nat.le_trans hna (Nat.le_add_right x 1)) rfl rfl (Nat.le_of_ble_eq_true rfl) dX11_receive_24 (fun Φ2 hΦ1 => ?_)
  have h_5 : Φ2 (x + 1) = some (o_ 7 [.ref (x + 2), .int 0]) := fset_at hΦ1
  refine z_iload_n B dX11_receive_27 rfl 0 rfl ?_
  exact z_ret_i B dX11_receive_28 ⟨rfl, fun b9 h9 => ((fset_fr hΦ1 (Nat.ne_of_gt (Nat.lt_of_lt_of_le (lt_off (x := x) (i := 1) (j := 149) rfl) h9))).trans ((fr1 b9 (Nat.ne_of_gt (Nat.lt_of_lt_of_le (lt_off (x := x) (i := 139) (j := 149) rfl) h9))).trans rfl))⟩

set_option maxHeartbeats 4000000 in
set_option maxRecDepth 100000 in
theorem f_X11_knownTemplates (G : EnvG) (l : Launch) (Φ : Hm) (sz : Nat) (x : Nat) (hc0_ : Φ x = some (o_ 13 [.ref (x + 1), .ref (x + 3), .ref (x + 24), .ref (x + 46), .ref (x + 74), .ref (x + 80), .ref (x + 132), .ref (x + 121)])) (hc80_ : Φ (x + 80) = some (o_ 4 [.ref (x + 3), .ref (x + 74), .ref (x + 81), .ref (x + 95), .int 0, .int 1, .int 1, .int 0, .int 0, .int 0, .long 0, .long 0, .long 0])) (hc132_ : Φ (x + 132) = some (o_ 2 [.ref (x + 3), .ref (x + 121), .ref (x + 133), .ref (x + 134), .ref (x + 135), .ref (x + 137), .ref (x + 138), .ref (x + 139), .ref (x + 140), .int 0, .int 0, .int 0])) (hc133_ : Φ (x + 133) = some (aq_ G 4 4 (va_up (va_up (va_up (va_up (fun _ => none) (0 : Int32).toNatClampNeg (some (x + 141))) (1 : Int32).toNatClampNeg (some (x + 143))) (2 : Int32).toNatClampNeg (some (x + 145))) (3 : Int32).toNatClampNeg (some (x + 147))))) (hc141_ : Φ (x + 141) = some (o_ 12 [.ref (x + 142), .int 0, .int 0, .int 0])) (hc143_ : Φ (x + 143) = some (o_ 12 [.ref (x + 144), .int 0, .int 0, .int 0])) (hc145_ : Φ (x + 145) = some (o_ 12 [.ref (x + 146), .int 0, .int 0, .int 0])) (hc147_ : Φ (x + 147) = some (o_ 12 [.ref (x + 148), .int 0, .int 0, .int 0])) : Ct G l yX11_knownTemplates wsX11_knownTemplates ({ frames := 3, cells := 0, slots := 0, locals := 68 }) 0 0 [.ref x] Φ sz (fun v Φ1 sz1 => v = some (.int 0) ∧ ∀ b9 : Nat, x + 149 ≤ b9 → Φ1 b9 = Φ b9) := by
  refine Ct.of (cc := cX11_knownTemplates) (maxL := 1) (ret := (some .int)) (by decide) rfl (Nat.le_of_ble_eq_true rfl) ?_
  intro p9 e9 s9 m9 w9 t9 k9 B
  show Z p9 l e9 _ s9 m9 _ w9 t9 k9 _ G 1 0 [(0, .ref x)] [] Φ sz 0 0
  refine z_aload_n B dX11_knownTemplates_0 rfl 0 rfl ?_
  refine z_get (ref := "FlowExporter") (C := RX11) (T := TX11) (N := 8) (ci := 13) (v := .ref (x + 132)) B (by decide +kernel) rfl 6 (by decide) (by decide +kernel) rfl hc0_ rfl dX11_knownTemplates_1 ?_
  refine z_aload_n B dX11_knownTemplates_4 rfl 0 rfl ?_
  refine z_get (ref := "FlowExporter") (C := RX11) (T := TX11) (N := 8) (ci := 13) (v := .ref (x + 80)) B (by decide +kernel) rfl 5 (by decide) (by decide +kernel) rfl hc0_ rfl dX11_knownTemplates_5 ?_
  refine z_get (ref := "FlowExporter$Exporter") (C := RX2) (T := TX2) (N := 13) (ci := 4) (v := .int 0) B (by decide +kernel) rfl 4 (by decide) (by decide +kernel) rfl hc80_ rfl dX11_knownTemplates_8 ?_
  refine z_callV (As := [.int 0]) (rest := []) B (f_X0_usableTemplates G l Φ sz x hc132_ hc133_ hc141_ hc143_ hc145_ hc147_) (cwV 1 B.1.2.2.2.2 gX11_knownTemplates_X0_usableTemplates rfl rfl rfl (by decide +kernel) ⟨Nat.le_of_ble_eq_true rfl, Nat.le_of_ble_eq_true rfl⟩) hc132_ rfl rfl rfl rfl (Nat.le_of_ble_eq_true rfl) dX11_knownTemplates_11 ⟨Nat.le_of_ble_eq_true rfl, Nat.le_of_ble_eq_true rfl⟩ (fun v1 Φ1 sz1 st1 hp1 hs1 => ?_)
  obtain ⟨rfl, hq1, fr1⟩ := hp1
  replace hq1 : sz1 = sz := hq1
  subst sz1
  replace hs1 : st1 = [.int 0] := hs1
  subst st1
  exact z_ret_i B dX11_knownTemplates_14 ⟨rfl, fun b9 h9 => ((fr1 b9).trans rfl)⟩

set_option maxHeartbeats 4000000 in
set_option maxRecDepth 100000 in
theorem f_X11_expected (G : EnvG) (l : Launch) (Φ : Hm) (sz : Nat) (x : Nat) (hc0_ : Φ x = some (o_ 13 [.ref (x + 1), .ref (x + 3), .ref (x + 24), .ref (x + 46), .ref (x + 74), .ref (x + 80), .ref (x + 132), .ref (x + 121)])) (hc132_ : Φ (x + 132) = some (o_ 2 [.ref (x + 3), .ref (x + 121), .ref (x + 133), .ref (x + 134), .ref (x + 135), .ref (x + 137), .ref (x + 138), .ref (x + 139), .ref (x + 140), .int 0, .int 0, .int 0])) : Ct G l yX11_expected wsX11_expected ({ frames := 1, cells := 0, slots := 0, locals := 20 }) 0 0 [.ref x] Φ sz (fun v Φ1 sz1 => v = some (.long (-1)) ∧ ∀ b9 : Nat, x + 149 ≤ b9 → Φ1 b9 = Φ b9) := by
  refine Ct.of (cc := cX11_expected) (maxL := 1) (ret := (some .long)) (by decide) rfl (Nat.le_of_ble_eq_true rfl) ?_
  intro p9 e9 s9 m9 w9 t9 k9 B
  show Z p9 l e9 _ s9 m9 _ w9 t9 k9 _ G 1 0 [(0, .ref x)] [] Φ sz 0 0
  refine z_aload_n B dX11_expected_0 rfl 0 rfl ?_
  refine z_get (ref := "FlowExporter") (C := RX11) (T := TX11) (N := 8) (ci := 13) (v := .ref (x + 132)) B (by decide +kernel) rfl 6 (by decide) (by decide +kernel) rfl hc0_ rfl dX11_expected_1 ?_
  refine z_callV (As := []) (rest := []) B (f_X0_hasStarted G l Φ sz x hc132_) (cwV 0 B.1.2.2.2.2 gX11_expected_X0_hasStarted rfl rfl rfl (by decide +kernel) ⟨Nat.le_of_ble_eq_true rfl, Nat.le_of_ble_eq_true rfl⟩) hc132_ rfl rfl rfl rfl (Nat.le_of_ble_eq_true rfl) dX11_expected_4 ⟨Nat.le_of_ble_eq_true rfl, Nat.le_of_ble_eq_true rfl⟩ (fun v1 Φ1 sz1 st1 hp1 hs1 => ?_)
  obtain ⟨rfl, hq1, fr1⟩ := hp1
  replace hq1 : sz1 = sz := hq1
  subst sz1
  replace hs1 : st1 = [.int 0] := hs1
  subst st1
  refine z_if_eq (tgt := 25) B dX11_expected_7 rfl (fun c_1 => ?_) (fun h9 => absurd (by decide) h9)
  refine z_ldc2 (v := (-1)) B (by decide +kernel) dX11_expected_25 ?_
  exact z_ret_l B dX11_expected_28 ⟨rfl, fun b9 h9 => ((fr1 b9).trans rfl)⟩

set_option maxHeartbeats 4000000 in
set_option maxRecDepth 100000 in
theorem f_X11_restartCollector (G : EnvG) (l : Launch) (Φ : Hm) (sz : Nat) (x : Nat) (hc0_ : Φ x = some (o_ 13 [.ref (x + 1), .ref (x + 3), .ref (x + 24), .ref (x + 46), .ref (x + 74), .ref (x + 80), .ref (x + 132), .ref (x + 121)])) (hc132_ : Φ (x + 132) = some (o_ 2 [.ref (x + 3), .ref (x + 121), .ref (x + 133), .ref (x + 134), .ref (x + 135), .ref (x + 137), .ref (x + 138), .ref (x + 139), .ref (x + 140), .int 0, .int 0, .int 0])) (hc133_ : Φ (x + 133) = some (aq_ G 4 4 (va_up (va_up (va_up (va_up (fun _ => none) (0 : Int32).toNatClampNeg (some (x + 141))) (1 : Int32).toNatClampNeg (some (x + 143))) (2 : Int32).toNatClampNeg (some (x + 145))) (3 : Int32).toNatClampNeg (some (x + 147))))) (hc141_ : Φ (x + 141) = some (o_ 12 [.ref (x + 142), .int 0, .int 0, .int 0])) (hc143_ : Φ (x + 143) = some (o_ 12 [.ref (x + 144), .int 0, .int 0, .int 0])) (hc145_ : Φ (x + 145) = some (o_ 12 [.ref (x + 146), .int 0, .int 0, .int 0])) (hc147_ : Φ (x + 147) = some (o_ 12 [.ref (x + 148), .int 0, .int 0, .int 0])) (hna : G.2.2.2 ≤ x) : Ct G l yX11_restartCollector wsX11_restartCollector ({ frames := 2, cells := 0, slots := 0, locals := 42 }) 0 0 [.ref x] Φ sz (fun v Φ1 sz1 => v = some (.int 0) ∧ ∀ b9 : Nat, x + 149 ≤ b9 → Φ1 b9 = Φ b9) := by
  refine Ct.of (cc := cX11_restartCollector) (maxL := 1) (ret := (some .int)) (by decide) rfl (Nat.le_of_ble_eq_true rfl) ?_
  intro p9 e9 s9 m9 w9 t9 k9 B
  show Z p9 l e9 _ s9 m9 _ w9 t9 k9 _ G 1 0 [(0, .ref x)] [] Φ sz 0 0
  refine z_aload_n B dX11_restartCollector_0 rfl 0 rfl ?_
  refine z_get (ref := "FlowExporter") (C := RX11) (T := TX11) (N := 8) (ci := 13) (v := .ref (x + 132)) B (by decide +kernel) rfl 6 (by decide) (by decide +kernel) rfl hc0_ rfl dX11_restartCollector_1 ?_
  refine z_callV (As := []) (rest := []) B (c_X0_restart G l Φ sz (x + 132) (x + 3) (x + 121) 0 0 0 hc132_ hc133_ hc141_ hc143_ hc145_ hc147_ (Nat.le_trans hna (Nat.le_add_right x 132))) (cwV 0 B.1.2.2.2.2 gX11_restartCollector_X0_restart rfl rfl rfl (by decide +kernel) ⟨Nat.le_of_ble_eq_true rfl, Nat.le_of_ble_eq_true rfl⟩) hc132_ rfl rfl rfl rfl (Nat.le_of_ble_eq_true rfl) dX11_restartCollector_4 ⟨Nat.le_of_ble_eq_true rfl, Nat.le_of_ble_eq_true rfl⟩ (fun v1 Φ1 sz1 st1 hp1 hs1 => ?_)
  obtain ⟨rfl, hq1, fr1, h_1, h_2, h_3, h_4, h_5⟩ := hp1
  replace hq1 : sz1 = sz := hq1
  subst sz1
  replace hs1 : st1 = [.int 0] := hs1
  subst st1
  have h_6 : Φ1 (x + 132) = some (o_ 2 [.ref (x + 3), .ref (x + 121), .ref (x + 133), .ref (x + 134), .ref (x + 135), .ref (x + 137), .ref (x + 138), .ref (x + 139), .ref (x + 140), .int 0, .int 0, .int 0]) := h_1
  have h_7 : Φ1 (x + 143) = some (o_ 12 [.ref (x + 144), .int 0, .int 0, .int 0]) := h_2
  have h_8 : Φ1 (x + 145) = some (o_ 12 [.ref (x + 146), .int 0, .int 0, .int 0]) := h_3
  have h_9 : Φ1 (x + 147) = some (o_ 12 [.ref (x + 148), .int 0, .int 0, .int 0]) := h_4
  have h_10 : Φ1 (x + 141) = some (o_ 12 [.ref (x + 142), .int 0, .int 0, .int 0]) := h_5
  exact z_ret_i B dX11_restartCollector_7 ⟨rfl, fun b9 h9 => ((fr1 b9 (Nat.ne_of_gt (Nat.lt_of_lt_of_le (lt_off (x := x) (i := 132) (j := 149) rfl) h9)) (Nat.ne_of_gt (Nat.lt_of_lt_of_le (lt_off (x := x) (i := 143) (j := 149) rfl) h9)) (Nat.ne_of_gt (Nat.lt_of_lt_of_le (lt_off (x := x) (i := 145) (j := 149) rfl) h9)) (Nat.ne_of_gt (Nat.lt_of_lt_of_le (lt_off (x := x) (i := 147) (j := 149) rfl) h9)) (Nat.ne_of_gt (Nat.lt_of_lt_of_le (lt_off (x := x) (i := 141) (j := 149) rfl) h9))).trans rfl)⟩

set_option maxHeartbeats 4000000 in
set_option maxRecDepth 100000 in
theorem f_X11_templateAge_0 (G : EnvG) (l : Launch) (Φ : Hm) (sz : Nat) (x : Nat) (hc0_ : Φ x = some (o_ 13 [.ref (x + 1), .ref (x + 3), .ref (x + 24), .ref (x + 46), .ref (x + 74), .ref (x + 80), .ref (x + 132), .ref (x + 121)])) (hc80_ : Φ (x + 80) = some (o_ 4 [.ref (x + 3), .ref (x + 74), .ref (x + 81), .ref (x + 95), .int 0, .int 1, .int 1, .int 0, .int 0, .int 0, .long 0, .long 0, .long 0])) (hc132_ : Φ (x + 132) = some (o_ 2 [.ref (x + 3), .ref (x + 121), .ref (x + 133), .ref (x + 134), .ref (x + 135), .ref (x + 137), .ref (x + 138), .ref (x + 139), .ref (x + 140), .int 0, .int 0, .int 0])) (hc133_ : Φ (x + 133) = some (aq_ G 4 4 (va_up (va_up (va_up (va_up (fun _ => none) (0 : Int32).toNatClampNeg (some (x + 141))) (1 : Int32).toNatClampNeg (some (x + 143))) (2 : Int32).toNatClampNeg (some (x + 145))) (3 : Int32).toNatClampNeg (some (x + 147))))) (hc141_ : Φ (x + 141) = some (o_ 12 [.ref (x + 142), .int 0, .int 0, .int 0])) : Ct G l yX11_templateAge wsX11_templateAge ({ frames := 1, cells := 0, slots := 0, locals := 22 }) 0 0 [.ref x, .int 0] Φ sz (fun v Φ1 sz1 => v = some (.int (-1)) ∧ ∀ b9 : Nat, x + 149 ≤ b9 → Φ1 b9 = Φ b9) := by
  refine Ct.of (cc := cX11_templateAge) (maxL := 2) (ret := (some .int)) (by decide) rfl (Nat.le_of_ble_eq_true rfl) ?_
  intro p9 e9 s9 m9 w9 t9 k9 B
  show Z p9 l e9 _ s9 m9 _ w9 t9 k9 _ G 2 0 [(0, .ref x), (1, .int 0)] [] Φ sz 0 0
  refine z_iload_n B dX11_templateAge_0 rfl 1 rfl ?_
  refine z_if_lt (tgt := 9) B dX11_templateAge_1 rfl (fun h9 => absurd h9 (by decide)) (fun c_1 => ?_)
  refine z_iload_n B dX11_templateAge_4 rfl 1 rfl ?_
  refine z_iconst (v := 4) B dX11_templateAge_5 rfl ?_
  refine z_icmp_lt (tgt := 17) B dX11_templateAge_6 rfl (fun c_2 => ?_) (fun h9 => absurd (by decide) h9)
  refine z_aload_n B dX11_templateAge_17 rfl 0 rfl ?_
  refine z_get (ref := "FlowExporter") (C := RX11) (T := TX11) (N := 8) (ci := 13) (v := .ref (x + 132)) B (by decide +kernel) rfl 6 (by decide) (by decide +kernel) rfl hc0_ rfl dX11_templateAge_18 ?_
  refine z_iload_n B dX11_templateAge_21 rfl 1 rfl ?_
  refine z_aload_n B dX11_templateAge_22 rfl 0 rfl ?_
  refine z_get (ref := "FlowExporter") (C := RX11) (T := TX11) (N := 8) (ci := 13) (v := .ref (x + 80)) B (by decide +kernel) rfl 5 (by decide) (by decide +kernel) rfl hc0_ rfl dX11_templateAge_23 ?_
  refine z_get (ref := "FlowExporter$Exporter") (C := RX2) (T := TX2) (N := 13) (ci := 4) (v := .int 0) B (by decide +kernel) rfl 4 (by decide) (by decide +kernel) rfl hc80_ rfl dX11_templateAge_26 ?_
  refine z_callV (As := [.int 0, .int 0]) (rest := []) B (f_X0_ageOf_0 G l Φ sz x hc132_ hc133_ hc141_) (cwV 2 B.1.2.2.2.2 gX11_templateAge_X0_ageOf rfl rfl rfl (by decide +kernel) ⟨Nat.le_of_ble_eq_true rfl, Nat.le_of_ble_eq_true rfl⟩) hc132_ rfl rfl rfl rfl (Nat.le_of_ble_eq_true rfl) dX11_templateAge_29 ⟨Nat.le_of_ble_eq_true rfl, Nat.le_of_ble_eq_true rfl⟩ (fun v1 Φ1 sz1 st1 hp1 hs1 => ?_)
  obtain ⟨rfl, hq1, fr1⟩ := hp1
  replace hq1 : sz1 = sz := hq1
  subst sz1
  replace hs1 : st1 = [.int (-1)] := hs1
  subst st1
  exact z_ret_i B dX11_templateAge_32 ⟨rfl, fun b9 h9 => ((fr1 b9).trans rfl)⟩

set_option maxHeartbeats 4000000 in
set_option maxRecDepth 100000 in
theorem f_X11_templateAge_1 (G : EnvG) (l : Launch) (Φ : Hm) (sz : Nat) (x : Nat) (hc0_ : Φ x = some (o_ 13 [.ref (x + 1), .ref (x + 3), .ref (x + 24), .ref (x + 46), .ref (x + 74), .ref (x + 80), .ref (x + 132), .ref (x + 121)])) (hc80_ : Φ (x + 80) = some (o_ 4 [.ref (x + 3), .ref (x + 74), .ref (x + 81), .ref (x + 95), .int 0, .int 1, .int 1, .int 0, .int 0, .int 0, .long 0, .long 0, .long 0])) (hc132_ : Φ (x + 132) = some (o_ 2 [.ref (x + 3), .ref (x + 121), .ref (x + 133), .ref (x + 134), .ref (x + 135), .ref (x + 137), .ref (x + 138), .ref (x + 139), .ref (x + 140), .int 0, .int 0, .int 0])) (hc133_ : Φ (x + 133) = some (aq_ G 4 4 (va_up (va_up (va_up (va_up (fun _ => none) (0 : Int32).toNatClampNeg (some (x + 141))) (1 : Int32).toNatClampNeg (some (x + 143))) (2 : Int32).toNatClampNeg (some (x + 145))) (3 : Int32).toNatClampNeg (some (x + 147))))) (hc143_ : Φ (x + 143) = some (o_ 12 [.ref (x + 144), .int 0, .int 0, .int 0])) : Ct G l yX11_templateAge wsX11_templateAge ({ frames := 1, cells := 0, slots := 0, locals := 22 }) 0 0 [.ref x, .int 1] Φ sz (fun v Φ1 sz1 => v = some (.int (-1)) ∧ ∀ b9 : Nat, x + 149 ≤ b9 → Φ1 b9 = Φ b9) := by
  refine Ct.of (cc := cX11_templateAge) (maxL := 2) (ret := (some .int)) (by decide) rfl (Nat.le_of_ble_eq_true rfl) ?_
  intro p9 e9 s9 m9 w9 t9 k9 B
  show Z p9 l e9 _ s9 m9 _ w9 t9 k9 _ G 2 0 [(0, .ref x), (1, .int 1)] [] Φ sz 0 0
  refine z_iload_n B dX11_templateAge_0 rfl 1 rfl ?_
  refine z_if_lt (tgt := 9) B dX11_templateAge_1 rfl (fun h9 => absurd h9 (by decide)) (fun c_1 => ?_)
  refine z_iload_n B dX11_templateAge_4 rfl 1 rfl ?_
  refine z_iconst (v := 4) B dX11_templateAge_5 rfl ?_
  refine z_icmp_lt (tgt := 17) B dX11_templateAge_6 rfl (fun c_2 => ?_) (fun h9 => absurd (by decide) h9)
  refine z_aload_n B dX11_templateAge_17 rfl 0 rfl ?_
  refine z_get (ref := "FlowExporter") (C := RX11) (T := TX11) (N := 8) (ci := 13) (v := .ref (x + 132)) B (by decide +kernel) rfl 6 (by decide) (by decide +kernel) rfl hc0_ rfl dX11_templateAge_18 ?_
  refine z_iload_n B dX11_templateAge_21 rfl 1 rfl ?_
  refine z_aload_n B dX11_templateAge_22 rfl 0 rfl ?_
  refine z_get (ref := "FlowExporter") (C := RX11) (T := TX11) (N := 8) (ci := 13) (v := .ref (x + 80)) B (by decide +kernel) rfl 5 (by decide) (by decide +kernel) rfl hc0_ rfl dX11_templateAge_23 ?_
  refine z_get (ref := "FlowExporter$Exporter") (C := RX2) (T := TX2) (N := 13) (ci := 4) (v := .int 0) B (by decide +kernel) rfl 4 (by decide) (by decide +kernel) rfl hc80_ rfl dX11_templateAge_26 ?_
  refine z_callV (As := [.int 1, .int 0]) (rest := []) B (f_X0_ageOf_1 G l Φ sz x hc132_ hc133_ hc143_) (cwV 2 B.1.2.2.2.2 gX11_templateAge_X0_ageOf rfl rfl rfl (by decide +kernel) ⟨Nat.le_of_ble_eq_true rfl, Nat.le_of_ble_eq_true rfl⟩) hc132_ rfl rfl rfl rfl (Nat.le_of_ble_eq_true rfl) dX11_templateAge_29 ⟨Nat.le_of_ble_eq_true rfl, Nat.le_of_ble_eq_true rfl⟩ (fun v1 Φ1 sz1 st1 hp1 hs1 => ?_)
  obtain ⟨rfl, hq1, fr1⟩ := hp1
  replace hq1 : sz1 = sz := hq1
  subst sz1
  replace hs1 : st1 = [.int (-1)] := hs1
  subst st1
  exact z_ret_i B dX11_templateAge_32 ⟨rfl, fun b9 h9 => ((fr1 b9).trans rfl)⟩

set_option maxHeartbeats 4000000 in
set_option maxRecDepth 100000 in
theorem f_X11_templateAge_2 (G : EnvG) (l : Launch) (Φ : Hm) (sz : Nat) (x : Nat) (hc0_ : Φ x = some (o_ 13 [.ref (x + 1), .ref (x + 3), .ref (x + 24), .ref (x + 46), .ref (x + 74), .ref (x + 80), .ref (x + 132), .ref (x + 121)])) (hc80_ : Φ (x + 80) = some (o_ 4 [.ref (x + 3), .ref (x + 74), .ref (x + 81), .ref (x + 95), .int 0, .int 1, .int 1, .int 0, .int 0, .int 0, .long 0, .long 0, .long 0])) (hc132_ : Φ (x + 132) = some (o_ 2 [.ref (x + 3), .ref (x + 121), .ref (x + 133), .ref (x + 134), .ref (x + 135), .ref (x + 137), .ref (x + 138), .ref (x + 139), .ref (x + 140), .int 0, .int 0, .int 0])) (hc133_ : Φ (x + 133) = some (aq_ G 4 4 (va_up (va_up (va_up (va_up (fun _ => none) (0 : Int32).toNatClampNeg (some (x + 141))) (1 : Int32).toNatClampNeg (some (x + 143))) (2 : Int32).toNatClampNeg (some (x + 145))) (3 : Int32).toNatClampNeg (some (x + 147))))) (hc145_ : Φ (x + 145) = some (o_ 12 [.ref (x + 146), .int 0, .int 0, .int 0])) : Ct G l yX11_templateAge wsX11_templateAge ({ frames := 1, cells := 0, slots := 0, locals := 22 }) 0 0 [.ref x, .int 2] Φ sz (fun v Φ1 sz1 => v = some (.int (-1)) ∧ ∀ b9 : Nat, x + 149 ≤ b9 → Φ1 b9 = Φ b9) := by
  refine Ct.of (cc := cX11_templateAge) (maxL := 2) (ret := (some .int)) (by decide) rfl (Nat.le_of_ble_eq_true rfl) ?_
  intro p9 e9 s9 m9 w9 t9 k9 B
  show Z p9 l e9 _ s9 m9 _ w9 t9 k9 _ G 2 0 [(0, .ref x), (1, .int 2)] [] Φ sz 0 0
  refine z_iload_n B dX11_templateAge_0 rfl 1 rfl ?_
  refine z_if_lt (tgt := 9) B dX11_templateAge_1 rfl (fun h9 => absurd h9 (by decide)) (fun c_1 => ?_)
  refine z_iload_n B dX11_templateAge_4 rfl 1 rfl ?_
  refine z_iconst (v := 4) B dX11_templateAge_5 rfl ?_
  refine z_icmp_lt (tgt := 17) B dX11_templateAge_6 rfl (fun c_2 => ?_) (fun h9 => absurd (by decide) h9)
  refine z_aload_n B dX11_templateAge_17 rfl 0 rfl ?_
  refine z_get (ref := "FlowExporter") (C := RX11) (T := TX11) (N := 8) (ci := 13) (v := .ref (x + 132)) B (by decide +kernel) rfl 6 (by decide) (by decide +kernel) rfl hc0_ rfl dX11_templateAge_18 ?_
  refine z_iload_n B dX11_templateAge_21 rfl 1 rfl ?_
  refine z_aload_n B dX11_templateAge_22 rfl 0 rfl ?_
  refine z_get (ref := "FlowExporter") (C := RX11) (T := TX11) (N := 8) (ci := 13) (v := .ref (x + 80)) B (by decide +kernel) rfl 5 (by decide) (by decide +kernel) rfl hc0_ rfl dX11_templateAge_23 ?_
  refine z_get (ref := "FlowExporter$Exporter") (C := RX2) (T := TX2) (N := 13) (ci := 4) (v := .int 0) B (by decide +kernel) rfl 4 (by decide) (by decide +kernel) rfl hc80_ rfl dX11_templateAge_26 ?_
  refine z_callV (As := [.int 2, .int 0]) (rest := []) B (f_X0_ageOf_2 G l Φ sz x hc132_ hc133_ hc145_) (cwV 2 B.1.2.2.2.2 gX11_templateAge_X0_ageOf rfl rfl rfl (by decide +kernel) ⟨Nat.le_of_ble_eq_true rfl, Nat.le_of_ble_eq_true rfl⟩) hc132_ rfl rfl rfl rfl (Nat.le_of_ble_eq_true rfl) dX11_templateAge_29 ⟨Nat.le_of_ble_eq_true rfl, Nat.le_of_ble_eq_true rfl⟩ (fun v1 Φ1 sz1 st1 hp1 hs1 => ?_)
  obtain ⟨rfl, hq1, fr1⟩ := hp1
  replace hq1 : sz1 = sz := hq1
  subst sz1
  replace hs1 : st1 = [.int (-1)] := hs1
  subst st1
  exact z_ret_i B dX11_templateAge_32 ⟨rfl, fun b9 h9 => ((fr1 b9).trans rfl)⟩

set_option maxHeartbeats 4000000 in
set_option maxRecDepth 100000 in
theorem f_X11_templateAge_3 (G : EnvG) (l : Launch) (Φ : Hm) (sz : Nat) (x : Nat) (hc0_ : Φ x = some (o_ 13 [.ref (x + 1), .ref (x + 3), .ref (x + 24), .ref (x + 46), .ref (x + 74), .ref (x + 80), .ref (x + 132), .ref (x + 121)])) (hc80_ : Φ (x + 80) = some (o_ 4 [.ref (x + 3), .ref (x + 74), .ref (x + 81), .ref (x + 95), .int 0, .int 1, .int 1, .int 0, .int 0, .int 0, .long 0, .long 0, .long 0])) (hc132_ : Φ (x + 132) = some (o_ 2 [.ref (x + 3), .ref (x + 121), .ref (x + 133), .ref (x + 134), .ref (x + 135), .ref (x + 137), .ref (x + 138), .ref (x + 139), .ref (x + 140), .int 0, .int 0, .int 0])) (hc133_ : Φ (x + 133) = some (aq_ G 4 4 (va_up (va_up (va_up (va_up (fun _ => none) (0 : Int32).toNatClampNeg (some (x + 141))) (1 : Int32).toNatClampNeg (some (x + 143))) (2 : Int32).toNatClampNeg (some (x + 145))) (3 : Int32).toNatClampNeg (some (x + 147))))) (hc147_ : Φ (x + 147) = some (o_ 12 [.ref (x + 148), .int 0, .int 0, .int 0])) : Ct G l yX11_templateAge wsX11_templateAge ({ frames := 1, cells := 0, slots := 0, locals := 22 }) 0 0 [.ref x, .int 3] Φ sz (fun v Φ1 sz1 => v = some (.int (-1)) ∧ ∀ b9 : Nat, x + 149 ≤ b9 → Φ1 b9 = Φ b9) := by
  refine Ct.of (cc := cX11_templateAge) (maxL := 2) (ret := (some .int)) (by decide) rfl (Nat.le_of_ble_eq_true rfl) ?_
  intro p9 e9 s9 m9 w9 t9 k9 B
  show Z p9 l e9 _ s9 m9 _ w9 t9 k9 _ G 2 0 [(0, .ref x), (1, .int 3)] [] Φ sz 0 0
  refine z_iload_n B dX11_templateAge_0 rfl 1 rfl ?_
  refine z_if_lt (tgt := 9) B dX11_templateAge_1 rfl (fun h9 => absurd h9 (by decide)) (fun c_1 => ?_)
  refine z_iload_n B dX11_templateAge_4 rfl 1 rfl ?_
  refine z_iconst (v := 4) B dX11_templateAge_5 rfl ?_
  refine z_icmp_lt (tgt := 17) B dX11_templateAge_6 rfl (fun c_2 => ?_) (fun h9 => absurd (by decide) h9)
  refine z_aload_n B dX11_templateAge_17 rfl 0 rfl ?_
  refine z_get (ref := "FlowExporter") (C := RX11) (T := TX11) (N := 8) (ci := 13) (v := .ref (x + 132)) B (by decide +kernel) rfl 6 (by decide) (by decide +kernel) rfl hc0_ rfl dX11_templateAge_18 ?_
  refine z_iload_n B dX11_templateAge_21 rfl 1 rfl ?_
  refine z_aload_n B dX11_templateAge_22 rfl 0 rfl ?_
  refine z_get (ref := "FlowExporter") (C := RX11) (T := TX11) (N := 8) (ci := 13) (v := .ref (x + 80)) B (by decide +kernel) rfl 5 (by decide) (by decide +kernel) rfl hc0_ rfl dX11_templateAge_23 ?_
  refine z_get (ref := "FlowExporter$Exporter") (C := RX2) (T := TX2) (N := 13) (ci := 4) (v := .int 0) B (by decide +kernel) rfl 4 (by decide) (by decide +kernel) rfl hc80_ rfl dX11_templateAge_26 ?_
  refine z_callV (As := [.int 3, .int 0]) (rest := []) B (f_X0_ageOf_3 G l Φ sz x hc132_ hc133_ hc147_) (cwV 2 B.1.2.2.2.2 gX11_templateAge_X0_ageOf rfl rfl rfl (by decide +kernel) ⟨Nat.le_of_ble_eq_true rfl, Nat.le_of_ble_eq_true rfl⟩) hc132_ rfl rfl rfl rfl (Nat.le_of_ble_eq_true rfl) dX11_templateAge_29 ⟨Nat.le_of_ble_eq_true rfl, Nat.le_of_ble_eq_true rfl⟩ (fun v1 Φ1 sz1 st1 hp1 hs1 => ?_)
  obtain ⟨rfl, hq1, fr1⟩ := hp1
  replace hq1 : sz1 = sz := hq1
  subst sz1
  replace hs1 : st1 = [.int (-1)] := hs1
  subst st1
  exact z_ret_i B dX11_templateAge_32 ⟨rfl, fun b9 h9 => ((fr1 b9).trans rfl)⟩

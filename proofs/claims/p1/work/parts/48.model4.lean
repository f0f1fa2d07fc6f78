set_option maxHeartbeats 4000000 in
set_option maxRecDepth 100000 in
theorem m_isTemplate_0 (G : EnvG) (l : Launch) (Φ : Hm) (sz : Nat) (y : Nat) (hc0_ : Φ y = some (o_ 14 [.int 0, .ref (y + 1), .ref (y + 2), .int 0, .int 1, .int 1, .int 0, .int 0, .ref (y + 3), .ref (y + 4), .int 0, .long 0, .ref (y + 5), .int 0, .int 0, .long 0, .long 0, .long 0, .long 0, .ref (y + 6), .ref (y + 7), .int 0, .ref (y + 8), .int 0, .ref (y + 9), .ref (y + 10), .int 0, .ref (y + 11), .ref (y + 12), .ref (y + 13), .ref (y + 14), .ref (y + 15), .ref (y + 16), .int 0, .long (-1), .ref (y + 17), .ref (y + 18), .ref (y + 19), .ref (y + 20), .ref (y + 21), .ref (y + 22), .int 0, .ref (y + 23), .ref (y + 24), .int 0, .ref (y + 25), .int 0, .int 0, .int 0, .int (-1), .int 0, .int 0, .int 0, .long 0])) (hc2_ : Φ (y + 2) = some (ai_ G 307 (upd (upd (upd (upd (upd (upd (upd (upd (upd (upd (upd (upd (upd (upd (upd (upd (upd (upd (upd (upd (upd (fun _ => 0) (0 : Int32).toNatClampNeg 1) (1 : Int32).toNatClampNeg 100) (2 : Int32).toNatClampNeg 1000) (3 : Int32).toNatClampNeg 100) (4 : Int32).toNatClampNeg 20) (5 : Int32).toNatClampNeg 1000) (6 : Int32).toNatClampNeg 5000) (7 : Int32).toNatClampNeg 512) (8 : Int32).toNatClampNeg 1) (9 : Int32).toNatClampNeg 511) (10 : Int32).toNatClampNeg 1) (11 : Int32).toNatClampNeg 9) (15 : Int32).toNatClampNeg 0) (16 : Int32).toNatClampNeg 1) (17 : Int32).toNatClampNeg 2) (18 : Int32).toNatClampNeg 3) (19 : Int32).toNatClampNeg 4) (20 : Int32).toNatClampNeg 5) (21 : Int32).toNatClampNeg 6) (22 : Int32).toNatClampNeg 7) (23 : Int32).toNatClampNeg 8))) : Ct G l yX12_isTemplate wsX12_isTemplate ({ frames := 1, cells := 0, slots := 0, locals := 25 }) 0 0 [.ref y, .int 0] Φ sz (fun v Φ1 sz1 => v = some (.int 1) ∧ sz1 = sz ∧ (∀ b9 : Nat, Φ1 b9 = Φ b9)) := by
  refine Ct.of (cc := cX12_isTemplate) (maxL := 2) (ret := (some .boolean)) (by decide) rfl (Nat.le_of_ble_eq_true rfl) ?_
  intro p9 e9 s9 m9 w9 t9 k9 B
  show Z p9 l e9 _ s9 m9 _ w9 t9 k9 _ G 2 0 [(0, .ref y), (1, .int 0)] [] Φ sz 0 0
  refine z_iload_n B dX12_isTemplate_0 rfl 1 rfl ?_
  refine z_i2l (v := 0) B dX12_isTemplate_1 (by decide +kernel) ?_
  refine z_lconst (v := 0) B dX12_isTemplate_2 rfl ?_
  refine z_aload_n B dX12_isTemplate_3 rfl 0 rfl ?_
  refine z_get (ref := "FlowExporterModel") (C := RX12) (T := TX12) (N := 54) (ci := 14) (v := .ref (y + 2)) B (by decide +kernel) rfl 2 (by decide) (by decide +kernel) rfl hc0_ rfl dX12_isTemplate_4 ?_
  refine z_bipush (v := 10) B dX12_isTemplate_7 rfl ?_
  refine z_iald B hc2_ (vin rfl) dX12_isTemplate_9 ?_
  refine z_top (st1 := [.int 1, .long 0, .long 0]) (by rfl) ?_
  refine z_iconst (v := 1) B dX12_isTemplate_10 rfl ?_
  refine z_isub B dX12_isTemplate_11 ?_
  refine z_top (st1 := [.int 0, .long 0, .long 0]) (congrArg (fun w9 : Int32 => ([.int w9, .long 0, .long 0] : List Value)) (show (1 - 1 : Int32) = 0 by decide +kernel)) ?_
  refine z_i2l (v := 0) B dX12_isTemplate_12 (by decide +kernel) ?_
  refine z_callS (As := [.long 0, .long 0, .long 0]) (rest := []) B (c_X12_inRange_1 G l Φ sz 0 0 0 ⟨by decide +kernel, by decide +kernel⟩) (va_cwS 3 B.1.2.2.2.2 gX12_isTemplate_X12_inRange rfl rfl rfl (by decide +kernel) ⟨Nat.le_of_ble_eq_true rfl, Nat.le_of_ble_eq_true rfl⟩) rfl rfl (Nat.le_of_ble_eq_true rfl) dX12_isTemplate_13 ⟨Nat.le_of_ble_eq_true rfl, Nat.le_of_ble_eq_true rfl⟩ (fun v1 Φ1 sz1 st1 hp1 hs1 => ?_)
  obtain ⟨rfl, hq1, fr1⟩ := hp1
  replace hq1 : sz1 = sz := hq1
  subst sz1
  replace hs1 : st1 = [.int 1] := hs1
  subst st1
  exact z_ret_z B dX12_isTemplate_16 (by decide) ⟨rfl, rfl, (fun b9 => ((fr1 b9).trans rfl))⟩

set_option maxHeartbeats 4000000 in
set_option maxRecDepth 100000 in
theorem m_isTemplate_x (G : EnvG) (l : Launch) (Φ : Hm) (sz : Nat) (y : Nat) (a : Int32) (hc0_ : Φ y = some (o_ 14 [.int 0, .ref (y + 1), .ref (y + 2), .int 0, .int 1, .int 1, .int 0, .int 0, .ref (y + 3), .ref (y + 4), .int 0, .long 0, .ref (y + 5), .int 0, .int 0, .long 0, .long 0, .long 0, .long 0, .ref (y + 6), .ref (y + 7), .int 0, .ref (y + 8), .int 0, .ref (y + 9), .ref (y + 10), .int 0, .ref (y + 11), .ref (y + 12), .ref (y + 13), .ref (y + 14), .ref (y + 15), .ref (y + 16), .int 0, .long (-1), .ref (y + 17), .ref (y + 18), .ref (y + 19), .ref (y + 20), .ref (y + 21), .ref (y + 22), .int 0, .ref (y + 23), .ref (y + 24), .int 0, .ref (y + 25), .int 0, .int 0, .int 0, .int (-1), .int 0, .int 0, .int 0, .long 0])) (hc2_ : Φ (y + 2) = some (ai_ G 307 (upd (upd (upd (upd (upd (upd (upd (upd (upd (upd (upd (upd (upd (upd (upd (upd (upd (upd (upd (upd (upd (fun _ => 0) (0 : Int32).toNatClampNeg 1) (1 : Int32).toNatClampNeg 100) (2 : Int32).toNatClampNeg 1000) (3 : Int32).toNatClampNeg 100) (4 : Int32).toNatClampNeg 20) (5 : Int32).toNatClampNeg 1000) (6 : Int32).toNatClampNeg 5000) (7 : Int32).toNatClampNeg 512) (8 : Int32).toNatClampNeg 1) (9 : Int32).toNatClampNeg 511) (10 : Int32).toNatClampNeg 1) (11 : Int32).toNatClampNeg 9) (15 : Int32).toNatClampNeg 0) (16 : Int32).toNatClampNeg 1) (17 : Int32).toNatClampNeg 2) (18 : Int32).toNatClampNeg 3) (19 : Int32).toNatClampNeg 4) (20 : Int32).toNatClampNeg 5) (21 : Int32).toNatClampNeg 6) (22 : Int32).toNatClampNeg 7) (23 : Int32).toNatClampNeg 8))) (hp : ¬ inP a.toInt64 0 0) : Ct G l yX12_isTemplate wsX12_isTemplate ({ frames := 1, cells := 0, slots := 0, locals := 25 }) 0 0 [.ref y, .int a] Φ sz (fun v Φ1 sz1 => v = some (.int 0) ∧ sz1 = sz ∧ (∀ b9 : Nat, Φ1 b9 = Φ b9)) := by
  refine Ct.of (cc := cX12_isTemplate) (maxL := 2) (ret := (some .boolean)) (by decide) rfl (Nat.le_of_ble_eq_true rfl) ?_
  intro p9 e9 s9 m9 w9 t9 k9 B
  show Z p9 l e9 _ s9 m9 _ w9 t9 k9 _ G 2 0 [(0, .ref y), (1, .int a)] [] Φ sz 0 0
  refine z_iload_n B dX12_isTemplate_0 rfl 1 rfl ?_
  refine z_i2l (v := a.toInt64) B dX12_isTemplate_1 rfl ?_
  refine z_lconst (v := 0) B dX12_isTemplate_2 rfl ?_
  refine z_aload_n B dX12_isTemplate_3 rfl 0 rfl ?_
  refine z_get (ref := "FlowExporterModel") (C := RX12) (T := TX12) (N := 54) (ci := 14) (v := .ref (y + 2)) B (by decide +kernel) rfl 2 (by decide) (by decide +kernel) rfl hc0_ rfl dX12_isTemplate_4 ?_
  refine z_bipush (v := 10) B dX12_isTemplate_7 rfl ?_
  refine z_iald B hc2_ (vin rfl) dX12_isTemplate_9 ?_
  refine z_top (st1 := [.int 1, .long 0, .long a.toInt64]) (by rfl) ?_
  refine z_iconst (v := 1) B dX12_isTemplate_10 rfl ?_
  refine z_isub B dX12_isTemplate_11 ?_
  refine z_top (st1 := [.int 0, .long 0, .long a.toInt64]) (congrArg (fun w9 : Int32 => ([.int w9, .long 0, .long a.toInt64] : List Value)) (show (1 - 1 : Int32) = 0 by decide +kernel)) ?_
  refine z_i2l (v := 0) B dX12_isTemplate_12 (by decide +kernel) ?_
  refine z_callS (As := [.long a.toInt64, .long 0, .long 0]) (rest := []) B (c_X12_inRange_0 G l Φ sz a.toInt64 0 0 hp) (va_cwS 3 B.1.2.2.2.2 gX12_isTemplate_X12_inRange rfl rfl rfl (by decide +kernel) ⟨Nat.le_of_ble_eq_true rfl, Nat.le_of_ble_eq_true rfl⟩) rfl rfl (Nat.le_of_ble_eq_true rfl) dX12_isTemplate_13 ⟨Nat.le_of_ble_eq_true rfl, Nat.le_of_ble_eq_true rfl⟩ (fun v1 Φ1 sz1 st1 hp1 hs1 => ?_)
  obtain ⟨rfl, hq1, fr1⟩ := hp1
  replace hq1 : sz1 = sz := hq1
  subst sz1
  replace hs1 : st1 = [.int 0] := hs1
  subst st1
  exact z_ret_z B dX12_isTemplate_16 (by decide) ⟨rfl, rfl, (fun b9 => ((fr1 b9).trans rfl))⟩

set_option maxHeartbeats 4000000 in
set_option maxRecDepth 100000 in
theorem m_isMessage_x (G : EnvG) (l : Launch) (Φ : Hm) (sz : Nat) (y : Nat) (a : Int32) (hc0_ : Φ y = some (o_ 14 [.int 0, .ref (y + 1), .ref (y + 2), .int 0, .int 1, .int 1, .int 0, .int 0, .ref (y + 3), .ref (y + 4), .int 0, .long 0, .ref (y + 5), .int 0, .int 0, .long 0, .long 0, .long 0, .long 0, .ref (y + 6), .ref (y + 7), .int 0, .ref (y + 8), .int 0, .ref (y + 9), .ref (y + 10), .int 0, .ref (y + 11), .ref (y + 12), .ref (y + 13), .ref (y + 14), .ref (y + 15), .ref (y + 16), .int 0, .long (-1), .ref (y + 17), .ref (y + 18), .ref (y + 19), .ref (y + 20), .ref (y + 21), .ref (y + 22), .int 0, .ref (y + 23), .ref (y + 24), .int 0, .ref (y + 25), .int 0, .int 0, .int 0, .int (-1), .int 0, .int 0, .int 0, .long 0])) (hp : ¬ inP a.toInt64 0 (-1)) : Ct G l yX12_isMessage wsX12_isMessage ({ frames := 1, cells := 0, slots := 0, locals := 25 }) 0 0 [.ref y, .int a] Φ sz (fun v Φ1 sz1 => v = some (.int 0) ∧ sz1 = sz ∧ (∀ b9 : Nat, Φ1 b9 = Φ b9)) := by
  refine Ct.of (cc := cX12_isMessage) (maxL := 2) (ret := (some .boolean)) (by decide) rfl (Nat.le_of_ble_eq_true rfl) ?_
  intro p9 e9 s9 m9 w9 t9 k9 B
  show Z p9 l e9 _ s9 m9 _ w9 t9 k9 _ G 2 0 [(0, .ref y), (1, .int a)] [] Φ sz 0 0
  refine z_iload_n B dX12_isMessage_0 rfl 1 rfl ?_
  refine z_i2l (v := a.toInt64) B dX12_isMessage_1 rfl ?_
  refine z_lconst (v := 0) B dX12_isMessage_2 rfl ?_
  refine z_aload_n B dX12_isMessage_3 rfl 0 rfl ?_
  refine z_get (ref := "FlowExporterModel") (C := RX12) (T := TX12) (N := 54) (ci := 14) (v := .int 0) B (by decide +kernel) rfl 26 (by decide) (by decide +kernel) rfl hc0_ rfl dX12_isMessage_4 ?_
  refine z_iconst (v := 1) B dX12_isMessage_7 rfl ?_
  refine z_isub B dX12_isMessage_8 ?_
  refine z_top (st1 := [.int (-1), .long 0, .long a.toInt64]) (congrArg (fun w9 : Int32 => ([.int w9, .long 0, .long a.toInt64] : List Value)) (show (0 - 1 : Int32) = (-1) by decide +kernel)) ?_
  refine z_i2l (v := (-1)) B dX12_isMessage_9 (by decide +kernel) ?_
  refine z_callS (As := [.long a.toInt64, .long 0, .long (-1)]) (rest := []) B (c_X12_inRange_0 G l Φ sz a.toInt64 0 (-1) hp) (va_cwS 3 B.1.2.2.2.2 gX12_isMessage_X12_inRange rfl rfl rfl (by decide +kernel) ⟨Nat.le_of_ble_eq_true rfl, Nat.le_of_ble_eq_true rfl⟩) rfl rfl (Nat.le_of_ble_eq_true rfl) dX12_isMessage_10 ⟨Nat.le_of_ble_eq_true rfl, Nat.le_of_ble_eq_true rfl⟩ (fun v1 Φ1 sz1 st1 hp1 hs1 => ?_)
  obtain ⟨rfl, hq1, fr1⟩ := hp1
  replace hq1 : sz1 = sz := hq1
  subst sz1
  replace hs1 : st1 = [.int 0] := hs1
  subst st1
  exact z_ret_z B dX12_isMessage_13 (by decide) ⟨rfl, rfl, (fun b9 => ((fr1 b9).trans rfl))⟩

set_option maxHeartbeats 4000000 in
set_option maxRecDepth 100000 in
theorem m_isKey_x (G : EnvG) (l : Launch) (Φ : Hm) (sz : Nat) (y : Nat) (a : Int32) (hc0_ : Φ y = some (o_ 14 [.int 0, .ref (y + 1), .ref (y + 2), .int 0, .int 1, .int 1, .int 0, .int 0, .ref (y + 3), .ref (y + 4), .int 0, .long 0, .ref (y + 5), .int 0, .int 0, .long 0, .long 0, .long 0, .long 0, .ref (y + 6), .ref (y + 7), .int 0, .ref (y + 8), .int 0, .ref (y + 9), .ref (y + 10), .int 0, .ref (y + 11), .ref (y + 12), .ref (y + 13), .ref (y + 14), .ref (y + 15), .ref (y + 16), .int 0, .long (-1), .ref (y + 17), .ref (y + 18), .ref (y + 19), .ref (y + 20), .ref (y + 21), .ref (y + 22), .int 0, .ref (y + 23), .ref (y + 24), .int 0, .ref (y + 25), .int 0, .int 0, .int 0, .int (-1), .int 0, .int 0, .int 0, .long 0])) (hp : ¬ inP a.toInt64 0 (-1)) : Ct G l yX12_isKey wsX12_isKey ({ frames := 1, cells := 0, slots := 0, locals := 25 }) 0 0 [.ref y, .int a] Φ sz (fun v Φ1 sz1 => v = some (.int 0) ∧ sz1 = sz ∧ (∀ b9 : Nat, Φ1 b9 = Φ b9)) := by
  refine Ct.of (cc := cX12_isKey) (maxL := 2) (ret := (some .boolean)) (by decide) rfl (Nat.le_of_ble_eq_true rfl) ?_
  intro p9 e9 s9 m9 w9 t9 k9 B
  show Z p9 l e9 _ s9 m9 _ w9 t9 k9 _ G 2 0 [(0, .ref y), (1, .int a)] [] Φ sz 0 0
  refine z_iload_n B dX12_isKey_0 rfl 1 rfl ?_
  refine z_i2l (v := a.toInt64) B dX12_isKey_1 rfl ?_
  refine z_lconst (v := 0) B dX12_isKey_2 rfl ?_
  refine z_aload_n B dX12_isKey_3 rfl 0 rfl ?_
  refine z_get (ref := "FlowExporterModel") (C := RX12) (T := TX12) (N := 54) (ci := 14) (v := .int 0) B (by decide +kernel) rfl 41 (by decide) (by decide +kernel) rfl hc0_ rfl dX12_isKey_4 ?_
  refine z_iconst (v := 1) B dX12_isKey_7 rfl ?_
  refine z_isub B dX12_isKey_8 ?_
  refine z_top (st1 := [.int (-1), .long 0, .long a.toInt64]) (congrArg (fun w9 : Int32 => ([.int w9, .long 0, .long a.toInt64] : List Value)) (show (0 - 1 : Int32) = (-1) by decide +kernel)) ?_
  refine z_i2l (v := (-1)) B dX12_isKey_9 (by decide +kernel) ?_
  refine z_callS (As := [.long a.toInt64, .long 0, .long (-1)]) (rest := []) B (c_X12_inRange_0 G l Φ sz a.toInt64 0 (-1) hp) (va_cwS 3 B.1.2.2.2.2 gX12_isKey_X12_inRange rfl rfl rfl (by decide +kernel) ⟨Nat.le_of_ble_eq_true rfl, Nat.le_of_ble_eq_true rfl⟩) rfl rfl (Nat.le_of_ble_eq_true rfl) dX12_isKey_10 ⟨Nat.le_of_ble_eq_true rfl, Nat.le_of_ble_eq_true rfl⟩ (fun v1 Φ1 sz1 st1 hp1 hs1 => ?_)
  obtain ⟨rfl, hq1, fr1⟩ := hp1
  replace hq1 : sz1 = sz := hq1
  subst sz1
  replace hs1 : st1 = [.int 0] := hs1
  subst st1
  exact z_ret_z B dX12_isKey_13 (by decide) ⟨rfl, rfl, (fun b9 => ((fr1 b9).trans rfl))⟩

set_option maxHeartbeats 4000000 in
set_option maxRecDepth 100000 in
theorem m_isWhat_0 (G : EnvG) (l : Launch) (Φ : Hm) (sz : Nat) (y : Nat)  : Ct G l yX12_isWhat wsX12_isWhat ({ frames := 1, cells := 0, slots := 0, locals := 25 }) 0 0 [.int 0] Φ sz (fun v Φ1 sz1 => v = some (.int 1) ∧ sz1 = sz ∧ (∀ b9 : Nat, Φ1 b9 = Φ b9)) := by
  refine Ct.of (cc := cX12_isWhat) (maxL := 1) (ret := (some .boolean)) (by decide) rfl (Nat.le_of_ble_eq_true rfl) ?_
  intro p9 e9 s9 m9 w9 t9 k9 B
  show Z p9 l e9 _ s9 m9 _ w9 t9 k9 _ G 1 0 [(0, .int 0)] [] Φ sz 0 0
  refine z_iload_n B dX12_isWhat_0 rfl 0 rfl ?_
  refine z_i2l (v := 0) B dX12_isWhat_1 (by decide +kernel) ?_
  refine z_lconst (v := 0) B dX12_isWhat_2 rfl ?_
  refine z_lconst (v := 1) B dX12_isWhat_3 rfl ?_
  refine z_callS (As := [.long 0, .long 0, .long 1]) (rest := []) B (c_X12_inRange_1 G l Φ sz 0 0 1 ⟨by decide +kernel, by decide +kernel⟩) (va_cwS 3 B.1.2.2.2.2 gX12_isWhat_X12_inRange rfl rfl rfl (by decide +kernel) ⟨Nat.le_of_ble_eq_true rfl, Nat.le_of_ble_eq_true rfl⟩) rfl rfl (Nat.le_of_ble_eq_true rfl) dX12_isWhat_4 ⟨Nat.le_of_ble_eq_true rfl, Nat.le_of_ble_eq_true rfl⟩ (fun v1 Φ1 sz1 st1 hp1 hs1 => ?_)
  obtain ⟨rfl, hq1, fr1⟩ := hp1
  replace hq1 : sz1 = sz := hq1
  subst sz1
  replace hs1 : st1 = [.int 1] := hs1
  subst st1
  exact z_ret_z B dX12_isWhat_7 (by decide) ⟨rfl, rfl, (fun b9 => ((fr1 b9).trans rfl))⟩

set_option maxHeartbeats 4000000 in
set_option maxRecDepth 100000 in
theorem m_isWhat_1 (G : EnvG) (l : Launch) (Φ : Hm) (sz : Nat) (y : Nat)  : Ct G l yX12_isWhat wsX12_isWhat ({ frames := 1, cells := 0, slots := 0, locals := 25 }) 0 0 [.int 1] Φ sz (fun v Φ1 sz1 => v = some (.int 1) ∧ sz1 = sz ∧ (∀ b9 : Nat, Φ1 b9 = Φ b9)) := by
  refine Ct.of (cc := cX12_isWhat) (maxL := 1) (ret := (some .boolean)) (by decide) rfl (Nat.le_of_ble_eq_true rfl) ?_
  intro p9 e9 s9 m9 w9 t9 k9 B
  show Z p9 l e9 _ s9 m9 _ w9 t9 k9 _ G 1 0 [(0, .int 1)] [] Φ sz 0 0
  refine z_iload_n B dX12_isWhat_0 rfl 0 rfl ?_
  refine z_i2l (v := 1) B dX12_isWhat_1 (by decide +kernel) ?_
  refine z_lconst (v := 0) B dX12_isWhat_2 rfl ?_
  refine z_lconst (v := 1) B dX12_isWhat_3 rfl ?_
  refine z_callS (As := [.long 1, .long 0, .long 1]) (rest := []) B (c_X12_inRange_1 G l Φ sz 1 0 1 ⟨by decide +kernel, by decide +kernel⟩) (va_cwS 3 B.1.2.2.2.2 gX12_isWhat_X12_inRange rfl rfl rfl (by decide +kernel) ⟨Nat.le_of_ble_eq_true rfl, Nat.le_of_ble_eq_true rfl⟩) rfl rfl (Nat.le_of_ble_eq_true rfl) dX12_isWhat_4 ⟨Nat.le_of_ble_eq_true rfl, Nat.le_of_ble_eq_true rfl⟩ (fun v1 Φ1 sz1 st1 hp1 hs1 => ?_)
  obtain ⟨rfl, hq1, fr1⟩ := hp1
  replace hq1 : sz1 = sz := hq1
  subst sz1
  replace hs1 : st1 = [.int 1] := hs1
  subst st1
  exact z_ret_z B dX12_isWhat_7 (by decide) ⟨rfl, rfl, (fun b9 => ((fr1 b9).trans rfl))⟩

set_option maxHeartbeats 4000000 in
set_option maxRecDepth 100000 in
theorem m_isWhat_x (G : EnvG) (l : Launch) (Φ : Hm) (sz : Nat) (y : Nat) (w : Int32) (hp : ¬ inP w.toInt64 0 1) : Ct G l yX12_isWhat wsX12_isWhat ({ frames := 1, cells := 0, slots := 0, locals := 25 }) 0 0 [.int w] Φ sz (fun v Φ1 sz1 => v = some (.int 0) ∧ sz1 = sz ∧ (∀ b9 : Nat, Φ1 b9 = Φ b9)) := by
  refine Ct.of (cc := cX12_isWhat) (maxL := 1) (ret := (some .boolean)) (by decide) rfl (Nat.le_of_ble_eq_true rfl) ?_
  intro p9 e9 s9 m9 w9 t9 k9 B
  show Z p9 l e9 _ s9 m9 _ w9 t9 k9 _ G 1 0 [(0, .int w)] [] Φ sz 0 0
  refine z_iload_n B dX12_isWhat_0 rfl 0 rfl ?_
  refine z_i2l (v := w.toInt64) B dX12_isWhat_1 rfl ?_
  refine z_lconst (v := 0) B dX12_isWhat_2 rfl ?_
  refine z_lconst (v := 1) B dX12_isWhat_3 rfl ?_
  refine z_callS (As := [.long w.toInt64, .long 0, .long 1]) (rest := []) B (c_X12_inRange_0 G l Φ sz w.toInt64 0 1 hp) (va_cwS 3 B.1.2.2.2.2 gX12_isWhat_X12_inRange rfl rfl rfl (by decide +kernel) ⟨Nat.le_of_ble_eq_true rfl, Nat.le_of_ble_eq_true rfl⟩) rfl rfl (Nat.le_of_ble_eq_true rfl) dX12_isWhat_4 ⟨Nat.le_of_ble_eq_true rfl, Nat.le_of_ble_eq_true rfl⟩ (fun v1 Φ1 sz1 st1 hp1 hs1 => ?_)
  obtain ⟨rfl, hq1, fr1⟩ := hp1
  replace hq1 : sz1 = sz := hq1
  subst sz1
  replace hs1 : st1 = [.int 0] := hs1
  subst st1
  exact z_ret_z B dX12_isWhat_7 (by decide) ⟨rfl, rfl, (fun b9 => ((fr1 b9).trans rfl))⟩

set_option maxHeartbeats 4000000 in
set_option maxRecDepth 100000 in
theorem m_X12_templateFields_x (G : EnvG) (l : Launch) (Φ : Hm) (sz : Nat) (y : Nat) (a : Int32) (hc0_ : Φ y = some (o_ 14 [.int 0, .ref (y + 1), .ref (y + 2), .int 0, .int 1, .int 1, .int 0, .int 0, .ref (y + 3), .ref (y + 4), .int 0, .long 0, .ref (y + 5), .int 0, .int 0, .long 0, .long 0, .long 0, .long 0, .ref (y + 6), .ref (y + 7), .int 0, .ref (y + 8), .int 0, .ref (y + 9), .ref (y + 10), .int 0, .ref (y + 11), .ref (y + 12), .ref (y + 13), .ref (y + 14), .ref (y + 15), .ref (y + 16), .int 0, .long (-1), .ref (y + 17), .ref (y + 18), .ref (y + 19), .ref (y + 20), .ref (y + 21), .ref (y + 22), .int 0, .ref (y + 23), .ref (y + 24), .int 0, .ref (y + 25), .int 0, .int 0, .int 0, .int (-1), .int 0, .int 0, .int 0, .long 0])) (hc2_ : Φ (y + 2) = some (ai_ G 307 (upd (upd (upd (upd (upd (upd (upd (upd (upd (upd (upd (upd (upd (upd (upd (upd (upd (upd (upd (upd (upd (fun _ => 0) (0 : Int32).toNatClampNeg 1) (1 : Int32).toNatClampNeg 100) (2 : Int32).toNatClampNeg 1000) (3 : Int32).toNatClampNeg 100) (4 : Int32).toNatClampNeg 20) (5 : Int32).toNatClampNeg 1000) (6 : Int32).toNatClampNeg 5000) (7 : Int32).toNatClampNeg 512) (8 : Int32).toNatClampNeg 1) (9 : Int32).toNatClampNeg 511) (10 : Int32).toNatClampNeg 1) (11 : Int32).toNatClampNeg 9) (15 : Int32).toNatClampNeg 0) (16 : Int32).toNatClampNeg 1) (17 : Int32).toNatClampNeg 2) (18 : Int32).toNatClampNeg 3) (19 : Int32).toNatClampNeg 4) (20 : Int32).toNatClampNeg 5) (21 : Int32).toNatClampNeg 6) (22 : Int32).toNatClampNeg 7) (23 : Int32).toNatClampNeg 8))) (hna : G.2.2.2 ≤ y) (hp : ¬ inP a.toInt64 0 0) : Ct G l yX12_templateFields wsX12_templateFields ({ frames := 2, cells := 0, slots := 0, locals := 46 }) 0 0 [.ref y, .int a] Φ sz (fun v Φ1 sz1 => v = some (.int 0) ∧ (∃ fs : List Value, Φ1 y = some (o_ 14 fs) ∧ fs[0]? = some (.int 1)) ∧ ∀ b9 : Nat, y + 26 ≤ b9 → Φ1 b9 = Φ b9) := by
  refine Ct.of (cc := cX12_templateFields) (maxL := 2) (ret := (some .int)) (by decide) rfl (Nat.le_of_ble_eq_true rfl) ?_
  intro p9 e9 s9 m9 w9 t9 k9 B
  show Z p9 l e9 _ s9 m9 _ w9 t9 k9 _ G 2 0 [(0, .ref y), (1, .int a)] [] Φ sz 0 0
  refine z_aload_n B dX12_templateFields_0 rfl 0 rfl ?_
  refine z_iconst (v := 0) B dX12_templateFields_1 rfl ?_
  refine z_put (ref := "FlowExporterModel") (C := RX12) (T := TX12) (N := 54) (ci := 14) (v := .int 0) B (by decide +kernel) tyX12 tyX12_ok nmX12 rfl 0 (by decide) (by decide +kernel) rfl (Or.inl rfl) hc0_ hna rfl rfl (Nat.le_of_ble_eq_true rfl) dX12_templateFields_2 (fun Φ1 hΦ1 => ?_)
  have h_1 : Φ1 y = some (o_ 14 [.int 0, .ref (y + 1), .ref (y + 2), .int 0, .int 1, .int 1, .int 0, .int 0, .ref (y + 3), .ref (y + 4), .int 0, .long 0, .ref (y + 5), .int 0, .int 0, .long 0, .long 0, .long 0, .long 0, .ref (y + 6), .ref (y + 7), .int 0, .ref (y + 8), .int 0, .ref (y + 9), .ref (y + 10), .int 0, .ref (y + 11), .ref (y + 12), .ref (y + 13), .ref (y + 14), .ref (y + 15), .ref (y + 16), .int 0, .long (-1), .ref (y + 17), .ref (y + 18), .ref (y + 19), .ref (y + 20), .ref (y + 21), .ref (y + 22), .int 0, .ref (y + 23), .ref (y + 24), .int 0, .ref (y + 25), .int 0, .int 0, .int 0, .int (-1), .int 0, .int 0, .int 0, .long 0]) := fset_at hΦ1
  refine z_aload_n B dX12_templateFields_5 rfl 0 rfl ?_
  refine z_aload_n B dX12_templateFields_6 rfl 0 rfl ?_
  refine z_iload_n B dX12_templateFields_7 rfl 1 rfl ?_
  have h_2 : Φ1 (y + 2) = some (ai_ G 307 (upd (upd (upd (upd (upd (upd (upd (upd (upd (upd (upd (upd (upd (upd (upd (upd (upd (upd (upd (upd (upd (fun _ => 0) (0 : Int32).toNatClampNeg 1) (1 : Int32).toNatClampNeg 100) (2 : Int32).toNatClampNeg 1000) (3 : Int32).toNatClampNeg 100) (4 : Int32).toNatClampNeg 20) (5 : Int32).toNatClampNeg 1000) (6 : Int32).toNatClampNeg 5000) (7 : Int32).toNatClampNeg 512) (8 : Int32).toNatClampNeg 1) (9 : Int32).toNatClampNeg 511) (10 : Int32).toNatClampNeg 1) (11 : Int32).toNatClampNeg 9) (15 : Int32).toNatClampNeg 0) (16 : Int32).toNatClampNeg 1) (17 : Int32).toNatClampNeg 2) (18 : Int32).toNatClampNeg 3) (19 : Int32).toNatClampNeg 4) (20 : Int32).toNatClampNeg 5) (21 : Int32).toNatClampNeg 6) (22 : Int32).toNatClampNeg 7) (23 : Int32).toNatClampNeg 8)) := ((fset_fr hΦ1 (ne_off (x := y) (i := 2) (j := 0) rfl)).trans hc2_)
  refine z_callV (As := [.int a]) (rest := [.ref y]) B (m_isTemplate_x G l Φ1 sz y a h_1 h_2 hp) (cwV 1 B.1.2.2.2.2 gX12_templateFields_X12_isTemplate rfl rfl rfl (by decide +kernel) ⟨Nat.le_of_ble_eq_true rfl, Nat.le_of_ble_eq_true rfl⟩) h_1 rfl rfl rfl rfl (Nat.le_of_ble_eq_true rfl) dX12_templateFields_8 ⟨Nat.le_of_ble_eq_true rfl, Nat.le_of_ble_eq_true rfl⟩ (fun v1 Φ2 sz1 st1 hp1 hs1 => ?_)
  obtain ⟨rfl, hq1, fr1⟩ := hp1
  replace hq1 : sz1 = sz := hq1
  subst sz1
  replace hs1 : st1 = [.int 0, .ref y] := hs1
  subst st1
  refine z_if_ne (tgt := 18) B dX12_templateFields_11 rfl (fun h9 => absurd (by decide) h9) (fun c_1 => ?_)
  refine z_iconst (v := 1) B dX12_templateFields_14 rfl ?_
  refine z_goto (tgt := 19) B dX12_templateFields_15 rfl ?_
  refine z_iconst (v := 1) B dX12_templateFields_19 rfl ?_
  have h_3 : Φ2 y = some (o_ 14 [.int 0, .ref (y + 1), .ref (y + 2), .int 0, .int 1, .int 1, .int 0, .int 0, .ref (y + 3), .ref (y + 4), .int 0, .long 0, .ref (y + 5), .int 0, .int 0, .long 0, .long 0, .long 0, .long 0, .ref (y + 6), .ref (y + 7), .int 0, .ref (y + 8), .int 0, .ref (y + 9), .ref (y + 10), .int 0, .ref (y + 11), .ref (y + 12), .ref (y + 13), .ref (y + 14), .ref (y + 15), .ref (y + 16), .int 0, .long (-1), .ref (y + 17), .ref (y + 18), .ref (y + 19), .ref (y + 20), .ref (y + 21), .ref (y + 22), .int 0, .ref (y + 23), .ref (y + 24), .int 0, .ref (y + 25), .int 0, .int 0, .int 0, .int (-1), .int 0, .int 0, .int 0, .long 0]) := ((fr1 y).trans h_1)
  refine z_callV (As := [.int 1, .int 1]) (rest := []) B (c_X12_throwsIf_1 G l Φ2 sz y 0 0 1 1 0 0 0 0 0 0 0 0 0 0 0 0 0 0 (-1) 0 0 0 0 0 (-1) 0 0 0 0 1 h_3 hna) (cwV 2 B.1.2.2.2.2 gX12_templateFields_X12_throwsIf rfl rfl rfl (by decide +kernel) ⟨Nat.le_of_ble_eq_true rfl, Nat.le_of_ble_eq_true rfl⟩) h_3 rfl rfl rfl rfl (Nat.le_of_ble_eq_true rfl) dX12_templateFields_20 ⟨Nat.le_of_ble_eq_true rfl, Nat.le_of_ble_eq_true rfl⟩ (fun v2 Φ3 sz2 st2 hp2 hs2 => ?_)
  obtain ⟨rfl, hq2, fr2, h_4⟩ := hp2
  replace hq2 : sz2 = sz := hq2
  subst sz2
  replace hs2 : st2 = [.int 1] := hs2
  subst st2
  have h_5 : Φ3 y = some (o_ 14 [.int 1, .ref (y + 1), .ref (y + 2), .int 0, .int 1, .int 1, .int 0, .int 0, .ref (y + 3), .ref (y + 4), .int 0, .long 0, .ref (y + 5), .int 0, .int 0, .long 0, .long 0, .long 0, .long 0, .ref (y + 6), .ref (y + 7), .int 0, .ref (y + 8), .int 0, .ref (y + 9), .ref (y + 10), .int 0, .ref (y + 11), .ref (y + 12), .ref (y + 13), .ref (y + 14), .ref (y + 15), .ref (y + 16), .int 0, .long (-1), .ref (y + 17), .ref (y + 18), .ref (y + 19), .ref (y + 20), .ref (y + 21), .ref (y + 22), .int 0, .ref (y + 23), .ref (y + 24), .int 0, .ref (y + 25), .int 0, .int 0, .int 0, .int (-1), .int 0, .int 0, .int 0, .long 0]) := h_4
  refine z_if_eq (tgt := 30) B dX12_templateFields_23 rfl (fun h9 => absurd h9 (by decide)) (fun c_2 => ?_)
  refine z_iconst (v := 0) B dX12_templateFields_26 rfl ?_
  refine z_goto (tgt := 35) B dX12_templateFields_27 rfl ?_
  exact z_ret_i B dX12_templateFields_35 ⟨rfl, ⟨_, h_5, rfl⟩, fun b9 h9 => ((fr2 b9 (Nat.ne_of_gt (Nat.lt_of_lt_of_le (lt_off (x := y) (i := 0) (j := 26) rfl) h9))).trans ((fr1 b9).trans ((fset_fr hΦ1 (Nat.ne_of_gt (Nat.lt_of_lt_of_le (lt_off (x := y) (i := 0) (j := 26) rfl) h9))).trans rfl)))⟩

set_option maxHeartbeats 4000000 in
set_option maxRecDepth 100000 in
theorem m_X12_effectiveFields_x (G : EnvG) (l : Launch) (Φ : Hm) (sz : Nat) (y : Nat) (a : Int32) (hc0_ : Φ y = some (o_ 14 [.int 0, .ref (y + 1), .ref (y + 2), .int 0, .int 1, .int 1, .int 0, .int 0, .ref (y + 3), .ref (y + 4), .int 0, .long 0, .ref (y + 5), .int 0, .int 0, .long 0, .long 0, .long 0, .long 0, .ref (y + 6), .ref (y + 7), .int 0, .ref (y + 8), .int 0, .ref (y + 9), .ref (y + 10), .int 0, .ref (y + 11), .ref (y + 12), .ref (y + 13), .ref (y + 14), .ref (y + 15), .ref (y + 16), .int 0, .long (-1), .ref (y + 17), .ref (y + 18), .ref (y + 19), .ref (y + 20), .ref (y + 21), .ref (y + 22), .int 0, .ref (y + 23), .ref (y + 24), .int 0, .ref (y + 25), .int 0, .int 0, .int 0, .int (-1), .int 0, .int 0, .int 0, .long 0])) (hc2_ : Φ (y + 2) = some (ai_ G 307 (upd (upd (upd (upd (upd (upd (upd (upd (upd (upd (upd (upd (upd (upd (upd (upd (upd (upd (upd (upd (upd (fun _ => 0) (0 : Int32).toNatClampNeg 1) (1 : Int32).toNatClampNeg 100) (2 : Int32).toNatClampNeg 1000) (3 : Int32).toNatClampNeg 100) (4 : Int32).toNatClampNeg 20) (5 : Int32).toNatClampNeg 1000) (6 : Int32).toNatClampNeg 5000) (7 : Int32).toNatClampNeg 512) (8 : Int32).toNatClampNeg 1) (9 : Int32).toNatClampNeg 511) (10 : Int32).toNatClampNeg 1) (11 : Int32).toNatClampNeg 9) (15 : Int32).toNatClampNeg 0) (16 : Int32).toNatClampNeg 1) (17 : Int32).toNatClampNeg 2) (18 : Int32).toNatClampNeg 3) (19 : Int32).toNatClampNeg 4) (20 : Int32).toNatClampNeg 5) (21 : Int32).toNatClampNeg 6) (22 : Int32).toNatClampNeg 7) (23 : Int32).toNatClampNeg 8))) (hna : G.2.2.2 ≤ y) (hp : ¬ inP a.toInt64 0 0) : Ct G l yX12_effectiveFields wsX12_effectiveFields ({ frames := 2, cells := 0, slots := 0, locals := 46 }) 0 0 [.ref y, .int a] Φ sz (fun v Φ1 sz1 => v = some (.int 0) ∧ (∃ fs : List Value, Φ1 y = some (o_ 14 fs) ∧ fs[0]? = some (.int 1)) ∧ ∀ b9 : Nat, y + 26 ≤ b9 → Φ1 b9 = Φ b9) := by
  refine Ct.of (cc := cX12_effectiveFields) (maxL := 2) (ret := (some .int)) (by decide) rfl (Nat.le_of_ble_eq_true rfl) ?_
  intro p9 e9 s9 m9 w9 t9 k9 B
  show Z p9 l e9 _ s9 m9 _ w9 t9 k9 _ G 2 0 [(0, .ref y), (1, .int a)] [] Φ sz 0 0
  refine z_aload_n B dX12_effectiveFields_0 rfl 0 rfl ?_
  refine z_iconst (v := 0) B dX12_effectiveFields_1 rfl ?_
  refine z_put (ref := "FlowExporterModel") (C := RX12) (T := TX12) (N := 54) (ci := 14) (v := .int 0) B (by decide +kernel) tyX12 tyX12_ok nmX12 rfl 0 (by decide) (by decide +kernel) rfl (Or.inl rfl) hc0_ hna rfl rfl (Nat.le_of_ble_eq_true rfl) dX12_effectiveFields_2 (fun Φ1 hΦ1 => ?_)
  have h_1 : Φ1 y = some (o_ 14 [.int 0, .ref (y + 1), .ref (y + 2), .int 0, .int 1, .int 1, .int 0, .int 0, .ref (y + 3), .ref (y + 4), .int 0, .long 0, .ref (y + 5), .int 0, .int 0, .long 0, .long 0, .long 0, .long 0, .ref (y + 6), .ref (y + 7), .int 0, .ref (y + 8), .int 0, .ref (y + 9), .ref (y + 10), .int 0, .ref (y + 11), .ref (y + 12), .ref (y + 13), .ref (y + 14), .ref (y + 15), .ref (y + 16), .int 0, .long (-1), .ref (y + 17), .ref (y + 18), .ref (y + 19), .ref (y + 20), .ref (y + 21), .ref (y + 22), .int 0, .ref (y + 23), .ref (y + 24), .int 0, .ref (y + 25), .int 0, .int 0, .int 0, .int (-1), .int 0, .int 0, .int 0, .long 0]) := fset_at hΦ1
  refine z_aload_n B dX12_effectiveFields_5 rfl 0 rfl ?_
  refine z_aload_n B dX12_effectiveFields_6 rfl 0 rfl ?_
  refine z_iload_n B dX12_effectiveFields_7 rfl 1 rfl ?_
  have h_2 : Φ1 (y + 2) = some (ai_ G 307 (upd (upd (upd (upd (upd (upd (upd (upd (upd (upd (upd (upd (upd (upd (upd (upd (upd (upd (upd (upd (upd (fun _ => 0) (0 : Int32).toNatClampNeg 1) (1 : Int32).toNatClampNeg 100) (2 : Int32).toNatClampNeg 1000) (3 : Int32).toNatClampNeg 100) (4 : Int32).toNatClampNeg 20) (5 : Int32).toNatClampNeg 1000) (6 : Int32).toNatClampNeg 5000) (7 : Int32).toNatClampNeg 512) (8 : Int32).toNatClampNeg 1) (9 : Int32).toNatClampNeg 511) (10 : Int32).toNatClampNeg 1) (11 : Int32).toNatClampNeg 9) (15 : Int32).toNatClampNeg 0) (16 : Int32).toNatClampNeg 1) (17 : Int32).toNatClampNeg 2) (18 : Int32).toNatClampNeg 3) (19 : Int32).toNatClampNeg 4) (20 : Int32).toNatClampNeg 5) (21 : Int32).toNatClampNeg 6) (22 : Int32).toNatClampNeg 7) (23 : Int32).toNatClampNeg 8)) := ((fset_fr hΦ1 (ne_off (x := y) (i := 2) (j := 0) rfl)).trans hc2_)
  refine z_callV (As := [.int a]) (rest := [.ref y]) B (m_isTemplate_x G l Φ1 sz y a h_1 h_2 hp) (cwV 1 B.1.2.2.2.2 gX12_effectiveFields_X12_isTemplate rfl rfl rfl (by decide +kernel) ⟨Nat.le_of_ble_eq_true rfl, Nat.le_of_ble_eq_true rfl⟩) h_1 rfl rfl rfl rfl (Nat.le_of_ble_eq_true rfl) dX12_effectiveFields_8 ⟨Nat.le_of_ble_eq_true rfl, Nat.le_of_ble_eq_true rfl⟩ (fun v1 Φ2 sz1 st1 hp1 hs1 => ?_)
  obtain ⟨rfl, hq1, fr1⟩ := hp1
  replace hq1 : sz1 = sz := hq1
  subst sz1
  replace hs1 : st1 = [.int 0, .ref y] := hs1
  subst st1
  refine z_if_ne (tgt := 18) B dX12_effectiveFields_11 rfl (fun h9 => absurd (by decide) h9) (fun c_1 => ?_)
  refine z_iconst (v := 1) B dX12_effectiveFields_14 rfl ?_
  refine z_goto (tgt := 19) B dX12_effectiveFields_15 rfl ?_
  refine z_iconst (v := 1) B dX12_effectiveFields_19 rfl ?_
  have h_3 : Φ2 y = some (o_ 14 [.int 0, .ref (y + 1), .ref (y + 2), .int 0, .int 1, .int 1, .int 0, .int 0, .ref (y + 3), .ref (y + 4), .int 0, .long 0, .ref (y + 5), .int 0, .int 0, .long 0, .long 0, .long 0, .long 0, .ref (y + 6), .ref (y + 7), .int 0, .ref (y + 8), .int 0, .ref (y + 9), .ref (y + 10), .int 0, .ref (y + 11), .ref (y + 12), .ref (y + 13), .ref (y + 14), .ref (y + 15), .ref (y + 16), .int 0, .long (-1), .ref (y + 17), .ref (y + 18), .ref (y + 19), .ref (y + 20), .ref (y + 21), .ref (y + 22), .int 0, .ref (y + 23), .ref (y + 24), .int 0, .ref (y + 25), .int 0, .int 0, .int 0, .int (-1), .int 0, .int 0, .int 0, .long 0]) := ((fr1 y).trans h_1)
  refine z_callV (As := [.int 1, .int 1]) (rest := []) B (c_X12_throwsIf_1 G l Φ2 sz y 0 0 1 1 0 0 0 0 0 0 0 0 0 0 0 0 0 0 (-1) 0 0 0 0 0 (-1) 0 0 0 0 1 h_3 hna) (cwV 2 B.1.2.2.2.2 gX12_effectiveFields_X12_throwsIf rfl rfl rfl (by decide +kernel) ⟨Nat.le_of_ble_eq_true rfl, Nat.le_of_ble_eq_true rfl⟩) h_3 rfl rfl rfl rfl (Nat.le_of_ble_eq_true rfl) dX12_effectiveFields_20 ⟨Nat.le_of_ble_eq_true rfl, Nat.le_of_ble_eq_true rfl⟩ (fun v2 Φ3 sz2 st2 hp2 hs2 => ?_)
  obtain ⟨rfl, hq2, fr2, h_4⟩ := hp2
  replace hq2 : sz2 = sz := hq2
  subst sz2
  replace hs2 : st2 = [.int 1] := hs2
  subst st2
  have h_5 : Φ3 y = some (o_ 14 [.int 1, .ref (y + 1), .ref (y + 2), .int 0, .int 1, .int 1, .int 0, .int 0, .ref (y + 3), .ref (y + 4), .int 0, .long 0, .ref (y + 5), .int 0, .int 0, .long 0, .long 0, .long 0, .long 0, .ref (y + 6), .ref (y + 7), .int 0, .ref (y + 8), .int 0, .ref (y + 9), .ref (y + 10), .int 0, .ref (y + 11), .ref (y + 12), .ref (y + 13), .ref (y + 14), .ref (y + 15), .ref (y + 16), .int 0, .long (-1), .ref (y + 17), .ref (y + 18), .ref (y + 19), .ref (y + 20), .ref (y + 21), .ref (y + 22), .int 0, .ref (y + 23), .ref (y + 24), .int 0, .ref (y + 25), .int 0, .int 0, .int 0, .int (-1), .int 0, .int 0, .int 0, .long 0]) := h_4
  refine z_if_eq (tgt := 30) B dX12_effectiveFields_23 rfl (fun h9 => absurd h9 (by decide)) (fun c_2 => ?_)
  refine z_iconst (v := 0) B dX12_effectiveFields_26 rfl ?_
  refine z_goto (tgt := 35) B dX12_effectiveFields_27 rfl ?_
  exact z_ret_i B dX12_effectiveFields_35 ⟨rfl, ⟨_, h_5, rfl⟩, fun b9 h9 => ((fr2 b9 (Nat.ne_of_gt (Nat.lt_of_lt_of_le (lt_off (x := y) (i := 0) (j := 26) rfl) h9))).trans ((fr1 b9).trans ((fset_fr hΦ1 (Nat.ne_of_gt (Nat.lt_of_lt_of_le (lt_off (x := y) (i := 0) (j := 26) rfl) h9))).trans rfl)))⟩

set_option maxHeartbeats 4000000 in
set_option maxRecDepth 100000 in
theorem m_X12_recordLength_x (G : EnvG) (l : Launch) (Φ : Hm) (sz : Nat) (y : Nat) (a : Int32) (hc0_ : Φ y = some (o_ 14 [.int 0, .ref (y + 1), .ref (y + 2), .int 0, .int 1, .int 1, .int 0, .int 0, .ref (y + 3), .ref (y + 4), .int 0, .long 0, .ref (y + 5), .int 0, .int 0, .long 0, .long 0, .long 0, .long 0, .ref (y + 6), .ref (y + 7), .int 0, .ref (y + 8), .int 0, .ref (y + 9), .ref (y + 10), .int 0, .ref (y + 11), .ref (y + 12), .ref (y + 13), .ref (y + 14), .ref (y + 15), .ref (y + 16), .int 0, .long (-1), .ref (y + 17), .ref (y + 18), .ref (y + 19), .ref (y + 20), .ref (y + 21), .ref (y + 22), .int 0, .ref (y + 23), .ref (y + 24), .int 0, .ref (y + 25), .int 0, .int 0, .int 0, .int (-1), .int 0, .int 0, .int 0, .long 0])) (hc2_ : Φ (y + 2) = some (ai_ G 307 (upd (upd (upd (upd (upd (upd (upd (upd (upd (upd (upd (upd (upd (upd (upd (upd (upd (upd (upd (upd (upd (fun _ => 0) (0 : Int32).toNatClampNeg 1) (1 : Int32).toNatClampNeg 100) (2 : Int32).toNatClampNeg 1000) (3 : Int32).toNatClampNeg 100) (4 : Int32).toNatClampNeg 20) (5 : Int32).toNatClampNeg 1000) (6 : Int32).toNatClampNeg 5000) (7 : Int32).toNatClampNeg 512) (8 : Int32).toNatClampNeg 1) (9 : Int32).toNatClampNeg 511) (10 : Int32).toNatClampNeg 1) (11 : Int32).toNatClampNeg 9) (15 : Int32).toNatClampNeg 0) (16 : Int32).toNatClampNeg 1) (17 : Int32).toNatClampNeg 2) (18 : Int32).toNatClampNeg 3) (19 : Int32).toNatClampNeg 4) (20 : Int32).toNatClampNeg 5) (21 : Int32).toNatClampNeg 6) (22 : Int32).toNatClampNeg 7) (23 : Int32).toNatClampNeg 8))) (hna : G.2.2.2 ≤ y) (hp : ¬ inP a.toInt64 0 0) : Ct G l yX12_recordLength wsX12_recordLength ({ frames := 2, cells := 0, slots := 0, locals := 46 }) 0 0 [.ref y, .int a] Φ sz (fun v Φ1 sz1 => v = some (.int 0) ∧ (∃ fs : List Value, Φ1 y = some (o_ 14 fs) ∧ fs[0]? = some (.int 1)) ∧ ∀ b9 : Nat, y + 26 ≤ b9 → Φ1 b9 = Φ b9) := by
  refine Ct.of (cc := cX12_recordLength) (maxL := 2) (ret := (some .int)) (by decide) rfl (Nat.le_of_ble_eq_true rfl) ?_
  intro p9 e9 s9 m9 w9 t9 k9 B
  show Z p9 l e9 _ s9 m9 _ w9 t9 k9 _ G 2 0 [(0, .ref y), (1, .int a)] [] Φ sz 0 0
  refine z_aload_n B dX12_recordLength_0 rfl 0 rfl ?_
  refine z_iconst (v := 0) B dX12_recordLength_1 rfl ?_
  refine z_put (ref := "FlowExporterModel") (C := RX12) (T := TX12) (N := 54) (ci := 14) (v := .int 0) B (by decide +kernel) tyX12 tyX12_ok nmX12 rfl 0 (by decide) (by decide +kernel) rfl (Or.inl rfl) hc0_ hna rfl rfl (Nat.le_of_ble_eq_true rfl) dX12_recordLength_2 (fun Φ1 hΦ1 => ?_)
  have h_1 : Φ1 y = some (o_ 14 [.int 0, .ref (y + 1), .ref (y + 2), .int 0, .int 1, .int 1, .int 0, .int 0, .ref (y + 3), .ref (y + 4), .int 0, .long 0, .ref (y + 5), .int 0, .int 0, .long 0, .long 0, .long 0, .long 0, .ref (y + 6), .ref (y + 7), .int 0, .ref (y + 8), .int 0, .ref (y + 9), .ref (y + 10), .int 0, .ref (y + 11), .ref (y + 12), .ref (y + 13), .ref (y + 14), .ref (y + 15), .ref (y + 16), .int 0, .long (-1), .ref (y + 17), .ref (y + 18), .ref (y + 19), .ref (y + 20), .ref (y + 21), .ref (y + 22), .int 0, .ref (y + 23), .ref (y + 24), .int 0, .ref (y + 25), .int 0, .int 0, .int 0, .int (-1), .int 0, .int 0, .int 0, .long 0]) := fset_at hΦ1
  refine z_aload_n B dX12_recordLength_5 rfl 0 rfl ?_
  refine z_aload_n B dX12_recordLength_6 rfl 0 rfl ?_
  refine z_iload_n B dX12_recordLength_7 rfl 1 rfl ?_
  have h_2 : Φ1 (y + 2) = some (ai_ G 307 (upd (upd (upd (upd (upd (upd (upd (upd (upd (upd (upd (upd (upd (upd (upd (upd (upd (upd (upd (upd (upd (fun _ => 0) (0 : Int32).toNatClampNeg 1) (1 : Int32).toNatClampNeg 100) (2 : Int32).toNatClampNeg 1000) (3 : Int32).toNatClampNeg 100) (4 : Int32).toNatClampNeg 20) (5 : Int32).toNatClampNeg 1000) (6 : Int32).toNatClampNeg 5000) (7 : Int32).toNatClampNeg 512) (8 : Int32).toNatClampNeg 1) (9 : Int32).toNatClampNeg 511) (10 : Int32).toNatClampNeg 1) (11 : Int32).toNatClampNeg 9) (15 : Int32).toNatClampNeg 0) (16 : Int32).toNatClampNeg 1) (17 : Int32).toNatClampNeg 2) (18 : Int32).toNatClampNeg 3) (19 : Int32).toNatClampNeg 4) (20 : Int32).toNatClampNeg 5) (21 : Int32).toNatClampNeg 6) (22 : Int32).toNatClampNeg 7) (23 : Int32).toNatClampNeg 8)) := ((fset_fr hΦ1 (ne_off (x := y) (i := 2) (j := 0) rfl)).trans hc2_)
  refine z_callV (As := [.int a]) (rest := [.ref y]) B (m_isTemplate_x G l Φ1 sz y a h_1 h_2 hp) (cwV 1 B.1.2.2.2.2 gX12_recordLength_X12_isTemplate rfl rfl rfl (by decide +kernel) ⟨Nat.le_of_ble_eq_true rfl, Nat.le_of_ble_eq_true rfl⟩) h_1 rfl rfl rfl rfl (Nat.le_of_ble_eq_true rfl) dX12_recordLength_8 ⟨Nat.le_of_ble_eq_true rfl, Nat.le_of_ble_eq_true rfl⟩ (fun v1 Φ2 sz1 st1 hp1 hs1 => ?_)
  obtain ⟨rfl, hq1, fr1⟩ := hp1
  replace hq1 : sz1 = sz := hq1
  subst sz1
  replace hs1 : st1 = [.int 0, .ref y] := hs1
  subst st1
  refine z_if_ne (tgt := 18) B dX12_recordLength_11 rfl (fun h9 => absurd (by decide) h9) (fun c_1 => ?_)
  refine z_iconst (v := 1) B dX12_recordLength_14 rfl ?_
  refine z_goto (tgt := 19) B dX12_recordLength_15 rfl ?_
  refine z_iconst (v := 1) B dX12_recordLength_19 rfl ?_
  have h_3 : Φ2 y = some (o_ 14 [.int 0, .ref (y + 1), .ref (y + 2), .int 0, .int 1, .int 1, .int 0, .int 0, .ref (y + 3), .ref (y + 4), .int 0, .long 0, .ref (y + 5), .int 0, .int 0, .long 0, .long 0, .long 0, .long 0, .ref (y + 6), .ref (y + 7), .int 0, .ref (y + 8), .int 0, .ref (y + 9), .ref (y + 10), .int 0, .ref (y + 11), .ref (y + 12), .ref (y + 13), .ref (y + 14), .ref (y + 15), .ref (y + 16), .int 0, .long (-1), .ref (y + 17), .ref (y + 18), .ref (y + 19), .ref (y + 20), .ref (y + 21), .ref (y + 22), .int 0, .ref (y + 23), .ref (y + 24), .int 0, .ref (y + 25), .int 0, .int 0, .int 0, .int (-1), .int 0, .int 0, .int 0, .long 0]) := ((fr1 y).trans h_1)
  refine z_callV (As := [.int 1, .int 1]) (rest := []) B (c_X12_throwsIf_1 G l Φ2 sz y 0 0 1 1 0 0 0 0 0 0 0 0 0 0 0 0 0 0 (-1) 0 0 0 0 0 (-1) 0 0 0 0 1 h_3 hna) (cwV 2 B.1.2.2.2.2 gX12_recordLength_X12_throwsIf rfl rfl rfl (by decide +kernel) ⟨Nat.le_of_ble_eq_true rfl, Nat.le_of_ble_eq_true rfl⟩) h_3 rfl rfl rfl rfl (Nat.le_of_ble_eq_true rfl) dX12_recordLength_20 ⟨Nat.le_of_ble_eq_true rfl, Nat.le_of_ble_eq_true rfl⟩ (fun v2 Φ3 sz2 st2 hp2 hs2 => ?_)
  obtain ⟨rfl, hq2, fr2, h_4⟩ := hp2
  replace hq2 : sz2 = sz := hq2
  subst sz2
  replace hs2 : st2 = [.int 1] := hs2
  subst st2
  have h_5 : Φ3 y = some (o_ 14 [.int 1, .ref (y + 1), .ref (y + 2), .int 0, .int 1, .int 1, .int 0, .int 0, .ref (y + 3), .ref (y + 4), .int 0, .long 0, .ref (y + 5), .int 0, .int 0, .long 0, .long 0, .long 0, .long 0, .ref (y + 6), .ref (y + 7), .int 0, .ref (y + 8), .int 0, .ref (y + 9), .ref (y + 10), .int 0, .ref (y + 11), .ref (y + 12), .ref (y + 13), .ref (y + 14), .ref (y + 15), .ref (y + 16), .int 0, .long (-1), .ref (y + 17), .ref (y + 18), .ref (y + 19), .ref (y + 20), .ref (y + 21), .ref (y + 22), .int 0, .ref (y + 23), .ref (y + 24), .int 0, .ref (y + 25), .int 0, .int 0, .int 0, .int (-1), .int 0, .int 0, .int 0, .long 0]) := h_4
  refine z_if_eq (tgt := 30) B dX12_recordLength_23 rfl (fun h9 => absurd h9 (by decide)) (fun c_2 => ?_)
  refine z_iconst (v := 0) B dX12_recordLength_26 rfl ?_
  refine z_goto (tgt := 35) B dX12_recordLength_27 rfl ?_
  exact z_ret_i B dX12_recordLength_35 ⟨rfl, ⟨_, h_5, rfl⟩, fun b9 h9 => ((fr2 b9 (Nat.ne_of_gt (Nat.lt_of_lt_of_le (lt_off (x := y) (i := 0) (j := 26) rfl) h9))).trans ((fr1 b9).trans ((fset_fr hΦ1 (Nat.ne_of_gt (Nat.lt_of_lt_of_le (lt_off (x := y) (i := 0) (j := 26) rfl) h9))).trans rfl)))⟩

set_option maxHeartbeats 4000000 in
set_option maxRecDepth 100000 in
theorem m_X12_fieldAt_x (G : EnvG) (l : Launch) (Φ : Hm) (sz : Nat) (y : Nat) (a : Int32) (b : Int32) (hc0_ : Φ y = some (o_ 14 [.int 0, .ref (y + 1), .ref (y + 2), .int 0, .int 1, .int 1, .int 0, .int 0, .ref (y + 3), .ref (y + 4), .int 0, .long 0, .ref (y + 5), .int 0, .int 0, .long 0, .long 0, .long 0, .long 0, .ref (y + 6), .ref (y + 7), .int 0, .ref (y + 8), .int 0, .ref (y + 9), .ref (y + 10), .int 0, .ref (y + 11), .ref (y + 12), .ref (y + 13), .ref (y + 14), .ref (y + 15), .ref (y + 16), .int 0, .long (-1), .ref (y + 17), .ref (y + 18), .ref (y + 19), .ref (y + 20), .ref (y + 21), .ref (y + 22), .int 0, .ref (y + 23), .ref (y + 24), .int 0, .ref (y + 25), .int 0, .int 0, .int 0, .int (-1), .int 0, .int 0, .int 0, .long 0])) (hc2_ : Φ (y + 2) = some (ai_ G 307 (upd (upd (upd (upd (upd (upd (upd (upd (upd (upd (upd (upd (upd (upd (upd (upd (upd (upd (upd (upd (upd (fun _ => 0) (0 : Int32).toNatClampNeg 1) (1 : Int32).toNatClampNeg 100) (2 : Int32).toNatClampNeg 1000) (3 : Int32).toNatClampNeg 100) (4 : Int32).toNatClampNeg 20) (5 : Int32).toNatClampNeg 1000) (6 : Int32).toNatClampNeg 5000) (7 : Int32).toNatClampNeg 512) (8 : Int32).toNatClampNeg 1) (9 : Int32).toNatClampNeg 511) (10 : Int32).toNatClampNeg 1) (11 : Int32).toNatClampNeg 9) (15 : Int32).toNatClampNeg 0) (16 : Int32).toNatClampNeg 1) (17 : Int32).toNatClampNeg 2) (18 : Int32).toNatClampNeg 3) (19 : Int32).toNatClampNeg 4) (20 : Int32).toNatClampNeg 5) (21 : Int32).toNatClampNeg 6) (22 : Int32).toNatClampNeg 7) (23 : Int32).toNatClampNeg 8))) (hna : G.2.2.2 ≤ y) (hp : ¬ inP a.toInt64 0 0) : Ct G l yX12_fieldAt wsX12_fieldAt ({ frames := 2, cells := 0, slots := 0, locals := 46 }) 0 0 [.ref y, .int a, .int b] Φ sz (fun v Φ1 sz1 => v = some (.int 0) ∧ (∃ fs : List Value, Φ1 y = some (o_ 14 fs) ∧ fs[0]? = some (.int 1)) ∧ ∀ b9 : Nat, y + 26 ≤ b9 → Φ1 b9 = Φ b9) := by
  refine Ct.of (cc := cX12_fieldAt) (maxL := 3) (ret := (some .int)) (by decide) rfl (Nat.le_of_ble_eq_true rfl) ?_
  intro p9 e9 s9 m9 w9 t9 k9 B
  show Z p9 l e9 _ s9 m9 _ w9 t9 k9 _ G 3 0 [(0, .ref y), (1, .int a), (2, .int b)] [] Φ sz 0 0
  refine z_aload_n B dX12_fieldAt_0 rfl 0 rfl ?_
  refine z_iconst (v := 0) B dX12_fieldAt_1 rfl ?_
  refine z_put (ref := "FlowExporterModel") (C := RX12) (T := TX12) (N := 54) (ci := 14) (v := .int 0) B (by decide +kernel) tyX12 tyX12_ok nmX12 rfl 0 (by decide) (by decide +kernel) rfl (Or.inl rfl) hc0_ hna rfl rfl (Nat.le_of_ble_eq_true rfl) dX12_fieldAt_2 (fun Φ1 hΦ1 => ?_)
  have h_1 : Φ1 y = some (o_ 14 [.int 0, .ref (y + 1), .ref (y + 2), .int 0, .int 1, .int 1, .int 0, .int 0, .ref (y + 3), .ref (y + 4), .int 0, .long 0, .ref (y + 5), .int 0, .int 0, .long 0, .long 0, .long 0, .long 0, .ref (y + 6), .ref (y + 7), .int 0, .ref (y + 8), .int 0, .ref (y + 9), .ref (y + 10), .int 0, .ref (y + 11), .ref (y + 12), .ref (y + 13), .ref (y + 14), .ref (y + 15), .ref (y + 16), .int 0, .long (-1), .ref (y + 17), .ref (y + 18), .ref (y + 19), .ref (y + 20), .ref (y + 21), .ref (y + 22), .int 0, .ref (y + 23), .ref (y + 24), .int 0, .ref (y + 25), .int 0, .int 0, .int 0, .int (-1), .int 0, .int 0, .int 0, .long 0]) := fset_at hΦ1
  refine z_aload_n B dX12_fieldAt_5 rfl 0 rfl ?_
  refine z_aload_n B dX12_fieldAt_6 rfl 0 rfl ?_
  refine z_iload_n B dX12_fieldAt_7 rfl 1 rfl ?_
  have h_2 : Φ1 (y + 2) = some (ai_ G 307 (upd (upd (upd (upd (upd (upd (upd (upd (upd (upd (upd (upd (upd (upd (upd (upd (upd (upd (upd (upd (upd (fun _ => 0) (0 : Int32).toNatClampNeg 1) (1 : Int32).toNatClampNeg 100) (2 : Int32).toNatClampNeg 1000) (3 : Int32).toNatClampNeg 100) (4 : Int32).toNatClampNeg 20) (5 : Int32).toNatClampNeg 1000) (6 : Int32).toNatClampNeg 5000) (7 : Int32).toNatClampNeg 512) (8 : Int32).toNatClampNeg 1) (9 : Int32).toNatClampNeg 511) (10 : Int32).toNatClampNeg 1) (11 : Int32).toNatClampNeg 9) (15 : Int32).toNatClampNeg 0) (16 : Int32).toNatClampNeg 1) (17 : Int32).toNatClampNeg 2) (18 : Int32).toNatClampNeg 3) (19 : Int32).toNatClampNeg 4) (20 : Int32).toNatClampNeg 5) (21 : Int32).toNatClampNeg 6) (22 : Int32).toNatClampNeg 7) (23 : Int32).toNatClampNeg 8)) := ((fset_fr hΦ1 (ne_off (x := y) (i := 2) (j := 0) rfl)).trans hc2_)
  refine z_callV (As := [.int a]) (rest := [.ref y]) B (m_isTemplate_x G l Φ1 sz y a h_1 h_2 hp) (cwV 1 B.1.2.2.2.2 gX12_fieldAt_X12_isTemplate rfl rfl rfl (by decide +kernel) ⟨Nat.le_of_ble_eq_true rfl, Nat.le_of_ble_eq_true rfl⟩) h_1 rfl rfl rfl rfl (Nat.le_of_ble_eq_true rfl) dX12_fieldAt_8 ⟨Nat.le_of_ble_eq_true rfl, Nat.le_of_ble_eq_true rfl⟩ (fun v1 Φ2 sz1 st1 hp1 hs1 => ?_)
  obtain ⟨rfl, hq1, fr1⟩ := hp1
  replace hq1 : sz1 = sz := hq1
  subst sz1
  replace hs1 : st1 = [.int 0, .ref y] := hs1
  subst st1
  refine z_if_ne (tgt := 18) B dX12_fieldAt_11 rfl (fun h9 => absurd (by decide) h9) (fun c_1 => ?_)
  refine z_iconst (v := 1) B dX12_fieldAt_14 rfl ?_
  refine z_goto (tgt := 19) B dX12_fieldAt_15 rfl ?_
  refine z_iconst (v := 1) B dX12_fieldAt_19 rfl ?_
  have h_3 : Φ2 y = some (o_ 14 [.int 0, .ref (y + 1), .ref (y + 2), .int 0, .int 1, .int 1, .int 0, .int 0, .ref (y + 3), .ref (y + 4), .int 0, .long 0, .ref (y + 5), .int 0, .int 0, .long 0, .long 0, .long 0, .long 0, .ref (y + 6), .ref (y + 7), .int 0, .ref (y + 8), .int 0, .ref (y + 9), .ref (y + 10), .int 0, .ref (y + 11), .ref (y + 12), .ref (y + 13), .ref (y + 14), .ref (y + 15), .ref (y + 16), .int 0, .long (-1), .ref (y + 17), .ref (y + 18), .ref (y + 19), .ref (y + 20), .ref (y + 21), .ref (y + 22), .int 0, .ref (y + 23), .ref (y + 24), .int 0, .ref (y + 25), .int 0, .int 0, .int 0, .int (-1), .int 0, .int 0, .int 0, .long 0]) := ((fr1 y).trans h_1)
  refine z_callV (As := [.int 1, .int 1]) (rest := []) B (c_X12_throwsIf_1 G l Φ2 sz y 0 0 1 1 0 0 0 0 0 0 0 0 0 0 0 0 0 0 (-1) 0 0 0 0 0 (-1) 0 0 0 0 1 h_3 hna) (cwV 2 B.1.2.2.2.2 gX12_fieldAt_X12_throwsIf rfl rfl rfl (by decide +kernel) ⟨Nat.le_of_ble_eq_true rfl, Nat.le_of_ble_eq_true rfl⟩) h_3 rfl rfl rfl rfl (Nat.le_of_ble_eq_true rfl) dX12_fieldAt_20 ⟨Nat.le_of_ble_eq_true rfl, Nat.le_of_ble_eq_true rfl⟩ (fun v2 Φ3 sz2 st2 hp2 hs2 => ?_)
  obtain ⟨rfl, hq2, fr2, h_4⟩ := hp2
  replace hq2 : sz2 = sz := hq2
  subst sz2
  replace hs2 : st2 = [.int 1] := hs2
  subst st2
  have h_5 : Φ3 y = some (o_ 14 [.int 1, .ref (y + 1), .ref (y + 2), .int 0, .int 1, .int 1, .int 0, .int 0, .ref (y + 3), .ref (y + 4), .int 0, .long 0, .ref (y + 5), .int 0, .int 0, .long 0, .long 0, .long 0, .long 0, .ref (y + 6), .ref (y + 7), .int 0, .ref (y + 8), .int 0, .ref (y + 9), .ref (y + 10), .int 0, .ref (y + 11), .ref (y + 12), .ref (y + 13), .ref (y + 14), .ref (y + 15), .ref (y + 16), .int 0, .long (-1), .ref (y + 17), .ref (y + 18), .ref (y + 19), .ref (y + 20), .ref (y + 21), .ref (y + 22), .int 0, .ref (y + 23), .ref (y + 24), .int 0, .ref (y + 25), .int 0, .int 0, .int 0, .int (-1), .int 0, .int 0, .int 0, .long 0]) := h_4
  refine z_if_eq (tgt := 30) B dX12_fieldAt_23 rfl (fun h9 => absurd h9 (by decide)) (fun c_2 => ?_)
  refine z_iconst (v := 0) B dX12_fieldAt_26 rfl ?_
  refine z_goto (tgt := 57) B dX12_fieldAt_27 rfl ?_
  exact z_ret_i B dX12_fieldAt_57 ⟨rfl, ⟨_, h_5, rfl⟩, fun b9 h9 => ((fr2 b9 (Nat.ne_of_gt (Nat.lt_of_lt_of_le (lt_off (x := y) (i := 0) (j := 26) rfl) h9))).trans ((fr1 b9).trans ((fset_fr hΦ1 (Nat.ne_of_gt (Nat.lt_of_lt_of_le (lt_off (x := y) (i := 0) (j := 26) rfl) h9))).trans rfl)))⟩

set_option maxHeartbeats 4000000 in
set_option maxRecDepth 100000 in
theorem m_X12_isDue_x (G : EnvG) (l : Launch) (Φ : Hm) (sz : Nat) (y : Nat) (a : Int32) (hc0_ : Φ y = some (o_ 14 [.int 0, .ref (y + 1), .ref (y + 2), .int 0, .int 1, .int 1, .int 0, .int 0, .ref (y + 3), .ref (y + 4), .int 0, .long 0, .ref (y + 5), .int 0, .int 0, .long 0, .long 0, .long 0, .long 0, .ref (y + 6), .ref (y + 7), .int 0, .ref (y + 8), .int 0, .ref (y + 9), .ref (y + 10), .int 0, .ref (y + 11), .ref (y + 12), .ref (y + 13), .ref (y + 14), .ref (y + 15), .ref (y + 16), .int 0, .long (-1), .ref (y + 17), .ref (y + 18), .ref (y + 19), .ref (y + 20), .ref (y + 21), .ref (y + 22), .int 0, .ref (y + 23), .ref (y + 24), .int 0, .ref (y + 25), .int 0, .int 0, .int 0, .int (-1), .int 0, .int 0, .int 0, .long 0])) (hc2_ : Φ (y + 2) = some (ai_ G 307 (upd (upd (upd (upd (upd (upd (upd (upd (upd (upd (upd (upd (upd (upd (upd (upd (upd (upd (upd (upd (upd (fun _ => 0) (0 : Int32).toNatClampNeg 1) (1 : Int32).toNatClampNeg 100) (2 : Int32).toNatClampNeg 1000) (3 : Int32).toNatClampNeg 100) (4 : Int32).toNatClampNeg 20) (5 : Int32).toNatClampNeg 1000) (6 : Int32).toNatClampNeg 5000) (7 : Int32).toNatClampNeg 512) (8 : Int32).toNatClampNeg 1) (9 : Int32).toNatClampNeg 511) (10 : Int32).toNatClampNeg 1) (11 : Int32).toNatClampNeg 9) (15 : Int32).toNatClampNeg 0) (16 : Int32).toNatClampNeg 1) (17 : Int32).toNatClampNeg 2) (18 : Int32).toNatClampNeg 3) (19 : Int32).toNatClampNeg 4) (20 : Int32).toNatClampNeg 5) (21 : Int32).toNatClampNeg 6) (22 : Int32).toNatClampNeg 7) (23 : Int32).toNatClampNeg 8))) (hna : G.2.2.2 ≤ y) (hp : ¬ inP a.toInt64 0 0) : Ct G l yX12_isDue wsX12_isDue ({ frames := 2, cells := 0, slots := 0, locals := 46 }) 0 0 [.ref y, .int a] Φ sz (fun v Φ1 sz1 => v = some (.int 0) ∧ (∃ fs : List Value, Φ1 y = some (o_ 14 fs) ∧ fs[0]? = some (.int 1)) ∧ ∀ b9 : Nat, y + 26 ≤ b9 → Φ1 b9 = Φ b9) := by
  refine Ct.of (cc := cX12_isDue) (maxL := 2) (ret := (some .boolean)) (by decide) rfl (Nat.le_of_ble_eq_true rfl) ?_
  intro p9 e9 s9 m9 w9 t9 k9 B
  show Z p9 l e9 _ s9 m9 _ w9 t9 k9 _ G 2 0 [(0, .ref y), (1, .int a)] [] Φ sz 0 0
  refine z_aload_n B dX12_isDue_0 rfl 0 rfl ?_
  refine z_iconst (v := 0) B dX12_isDue_1 rfl ?_
  refine z_put (ref := "FlowExporterModel") (C := RX12) (T := TX12) (N := 54) (ci := 14) (v := .int 0) B (by decide +kernel) tyX12 tyX12_ok nmX12 rfl 0 (by decide) (by decide +kernel) rfl (Or.inl rfl) hc0_ hna rfl rfl (Nat.le_of_ble_eq_true rfl) dX12_isDue_2 (fun Φ1 hΦ1 => ?_)
  have h_1 : Φ1 y = some (o_ 14 [.int 0, .ref (y + 1), .ref (y + 2), .int 0, .int 1, .int 1, .int 0, .int 0, .ref (y + 3), .ref (y + 4), .int 0, .long 0, .ref (y + 5), .int 0, .int 0, .long 0, .long 0, .long 0, .long 0, .ref (y + 6), .ref (y + 7), .int 0, .ref (y + 8), .int 0, .ref (y + 9), .ref (y + 10), .int 0, .ref (y + 11), .ref (y + 12), .ref (y + 13), .ref (y + 14), .ref (y + 15), .ref (y + 16), .int 0, .long (-1), .ref (y + 17), .ref (y + 18), .ref (y + 19), .ref (y + 20), .ref (y + 21), .ref (y + 22), .int 0, .ref (y + 23), .ref (y + 24), .int 0, .ref (y + 25), .int 0, .int 0, .int 0, .int (-1), .int 0, .int 0, .int 0, .long 0]) := fset_at hΦ1
  refine z_aload_n B dX12_isDue_5 rfl 0 rfl ?_
  refine z_aload_n B dX12_isDue_6 rfl 0 rfl ?_
  refine z_iload_n B dX12_isDue_7 rfl 1 rfl ?_
  have h_2 : Φ1 (y + 2) = some (ai_ G 307 (upd (upd (upd (upd (upd (upd (upd (upd (upd (upd (upd (upd (upd (upd (upd (upd (upd (upd (upd (upd (upd (fun _ => 0) (0 : Int32).toNatClampNeg 1) (1 : Int32).toNatClampNeg 100) (2 : Int32).toNatClampNeg 1000) (3 : Int32).toNatClampNeg 100) (4 : Int32).toNatClampNeg 20) (5 : Int32).toNatClampNeg 1000) (6 : Int32).toNatClampNeg 5000) (7 : Int32).toNatClampNeg 512) (8 : Int32).toNatClampNeg 1) (9 : Int32).toNatClampNeg 511) (10 : Int32).toNatClampNeg 1) (11 : Int32).toNatClampNeg 9) (15 : Int32).toNatClampNeg 0) (16 : Int32).toNatClampNeg 1) (17 : Int32).toNatClampNeg 2) (18 : Int32).toNatClampNeg 3) (19 : Int32).toNatClampNeg 4) (20 : Int32).toNatClampNeg 5) (21 : Int32).toNatClampNeg 6) (22 : Int32).toNatClampNeg 7) (23 : Int32).toNatClampNeg 8)) := ((fset_fr hΦ1 (ne_off (x := y) (i := 2) (j := 0) rfl)).trans hc2_)
  refine z_callV (As := [.int a]) (rest := [.ref y]) B (m_isTemplate_x G l Φ1 sz y a h_1 h_2 hp) (cwV 1 B.1.2.2.2.2 gX12_isDue_X12_isTemplate rfl rfl rfl (by decide +kernel) ⟨Nat.le_of_ble_eq_true rfl, Nat.le_of_ble_eq_true rfl⟩) h_1 rfl rfl rfl rfl (Nat.le_of_ble_eq_true rfl) dX12_isDue_8 ⟨Nat.le_of_ble_eq_true rfl, Nat.le_of_ble_eq_true rfl⟩ (fun v1 Φ2 sz1 st1 hp1 hs1 => ?_)
  obtain ⟨rfl, hq1, fr1⟩ := hp1
  replace hq1 : sz1 = sz := hq1
  subst sz1
  replace hs1 : st1 = [.int 0, .ref y] := hs1
  subst st1
  refine z_if_ne (tgt := 18) B dX12_isDue_11 rfl (fun h9 => absurd (by decide) h9) (fun c_1 => ?_)
  refine z_iconst (v := 1) B dX12_isDue_14 rfl ?_
  refine z_goto (tgt := 19) B dX12_isDue_15 rfl ?_
  refine z_iconst (v := 1) B dX12_isDue_19 rfl ?_
  have h_3 : Φ2 y = some (o_ 14 [.int 0, .ref (y + 1), .ref (y + 2), .int 0, .int 1, .int 1, .int 0, .int 0, .ref (y + 3), .ref (y + 4), .int 0, .long 0, .ref (y + 5), .int 0, .int 0, .long 0, .long 0, .long 0, .long 0, .ref (y + 6), .ref (y + 7), .int 0, .ref (y + 8), .int 0, .ref (y + 9), .ref (y + 10), .int 0, .ref (y + 11), .ref (y + 12), .ref (y + 13), .ref (y + 14), .ref (y + 15), .ref (y + 16), .int 0, .long (-1), .ref (y + 17), .ref (y + 18), .ref (y + 19), .ref (y + 20), .ref (y + 21), .ref (y + 22), .int 0, .ref (y + 23), .ref (y + 24), .int 0, .ref (y + 25), .int 0, .int 0, .int 0, .int (-1), .int 0, .int 0, .int 0, .long 0]) := ((fr1 y).trans h_1)
  refine z_callV (As := [.int 1, .int 1]) (rest := []) B (c_X12_throwsIf_1 G l Φ2 sz y 0 0 1 1 0 0 0 0 0 0 0 0 0 0 0 0 0 0 (-1) 0 0 0 0 0 (-1) 0 0 0 0 1 h_3 hna) (cwV 2 B.1.2.2.2.2 gX12_isDue_X12_throwsIf rfl rfl rfl (by decide +kernel) ⟨Nat.le_of_ble_eq_true rfl, Nat.le_of_ble_eq_true rfl⟩) h_3 rfl rfl rfl rfl (Nat.le_of_ble_eq_true rfl) dX12_isDue_20 ⟨Nat.le_of_ble_eq_true rfl, Nat.le_of_ble_eq_true rfl⟩ (fun v2 Φ3 sz2 st2 hp2 hs2 => ?_)
  obtain ⟨rfl, hq2, fr2, h_4⟩ := hp2
  replace hq2 : sz2 = sz := hq2
  subst sz2
  replace hs2 : st2 = [.int 1] := hs2
  subst st2
  have h_5 : Φ3 y = some (o_ 14 [.int 1, .ref (y + 1), .ref (y + 2), .int 0, .int 1, .int 1, .int 0, .int 0, .ref (y + 3), .ref (y + 4), .int 0, .long 0, .ref (y + 5), .int 0, .int 0, .long 0, .long 0, .long 0, .long 0, .ref (y + 6), .ref (y + 7), .int 0, .ref (y + 8), .int 0, .ref (y + 9), .ref (y + 10), .int 0, .ref (y + 11), .ref (y + 12), .ref (y + 13), .ref (y + 14), .ref (y + 15), .ref (y + 16), .int 0, .long (-1), .ref (y + 17), .ref (y + 18), .ref (y + 19), .ref (y + 20), .ref (y + 21), .ref (y + 22), .int 0, .ref (y + 23), .ref (y + 24), .int 0, .ref (y + 25), .int 0, .int 0, .int 0, .int (-1), .int 0, .int 0, .int 0, .long 0]) := h_4
  refine z_if_ne (tgt := 38) B dX12_isDue_23 rfl (fun c_2 => ?_) (fun h9 => absurd h9 (by decide))
  refine z_iconst (v := 0) B dX12_isDue_38 rfl ?_
  exact z_ret_z B dX12_isDue_39 (by decide) ⟨rfl, ⟨_, h_5, rfl⟩, fun b9 h9 => ((fr2 b9 (Nat.ne_of_gt (Nat.lt_of_lt_of_le (lt_off (x := y) (i := 0) (j := 26) rfl) h9))).trans ((fr1 b9).trans ((fset_fr hΦ1 (Nat.ne_of_gt (Nat.lt_of_lt_of_le (lt_off (x := y) (i := 0) (j := 26) rfl) h9))).trans rfl)))⟩

set_option maxHeartbeats 4000000 in
set_option maxRecDepth 100000 in
theorem m_X12_messageLength_x (G : EnvG) (l : Launch) (Φ : Hm) (sz : Nat) (y : Nat) (a : Int32) (hc0_ : Φ y = some (o_ 14 [.int 0, .ref (y + 1), .ref (y + 2), .int 0, .int 1, .int 1, .int 0, .int 0, .ref (y + 3), .ref (y + 4), .int 0, .long 0, .ref (y + 5), .int 0, .int 0, .long 0, .long 0, .long 0, .long 0, .ref (y + 6), .ref (y + 7), .int 0, .ref (y + 8), .int 0, .ref (y + 9), .ref (y + 10), .int 0, .ref (y + 11), .ref (y + 12), .ref (y + 13), .ref (y + 14), .ref (y + 15), .ref (y + 16), .int 0, .long (-1), .ref (y + 17), .ref (y + 18), .ref (y + 19), .ref (y + 20), .ref (y + 21), .ref (y + 22), .int 0, .ref (y + 23), .ref (y + 24), .int 0, .ref (y + 25), .int 0, .int 0, .int 0, .int (-1), .int 0, .int 0, .int 0, .long 0])) (hna : G.2.2.2 ≤ y) (hp : ¬ inP a.toInt64 0 (-1)) : Ct G l yX12_messageLength wsX12_messageLength ({ frames := 2, cells := 0, slots := 0, locals := 46 }) 0 0 [.ref y, .int a] Φ sz (fun v Φ1 sz1 => v = some (.int 0) ∧ (∃ fs : List Value, Φ1 y = some (o_ 14 fs) ∧ fs[0]? = some (.int 1)) ∧ ∀ b9 : Nat, y + 26 ≤ b9 → Φ1 b9 = Φ b9) := by
  refine Ct.of (cc := cX12_messageLength) (maxL := 2) (ret := (some .int)) (by decide) rfl (Nat.le_of_ble_eq_true rfl) ?_
  intro p9 e9 s9 m9 w9 t9 k9 B
  show Z p9 l e9 _ s9 m9 _ w9 t9 k9 _ G 2 0 [(0, .ref y), (1, .int a)] [] Φ sz 0 0
  refine z_aload_n B dX12_messageLength_0 rfl 0 rfl ?_
  refine z_iconst (v := 0) B dX12_messageLength_1 rfl ?_
  refine z_put (ref := "FlowExporterModel") (C := RX12) (T := TX12) (N := 54) (ci := 14) (v := .int 0) B (by decide +kernel) tyX12 tyX12_ok nmX12 rfl 0 (by decide) (by decide +kernel) rfl (Or.inl rfl) hc0_ hna rfl rfl (Nat.le_of_ble_eq_true rfl) dX12_messageLength_2 (fun Φ1 hΦ1 => ?_)
  have h_1 : Φ1 y = some (o_ 14 [.int 0, .ref (y + 1), .ref (y + 2), .int 0, .int 1, .int 1, .int 0, .int 0, .ref (y + 3), .ref (y + 4), .int 0, .long 0, .ref (y + 5), .int 0, .int 0, .long 0, .long 0, .long 0, .long 0, .ref (y + 6), .ref (y + 7), .int 0, .ref (y + 8), .int 0, .ref (y + 9), .ref (y + 10), .int 0, .ref (y + 11), .ref (y + 12), .ref (y + 13), .ref (y + 14), .ref (y + 15), .ref (y + 16), .int 0, .long (-1), .ref (y + 17), .ref (y + 18), .ref (y + 19), .ref (y + 20), .ref (y + 21), .ref (y + 22), .int 0, .ref (y + 23), .ref (y + 24), .int 0, .ref (y + 25), .int 0, .int 0, .int 0, .int (-1), .int 0, .int 0, .int 0, .long 0]) := fset_at hΦ1
  refine z_aload_n B dX12_messageLength_5 rfl 0 rfl ?_
  refine z_aload_n B dX12_messageLength_6 rfl 0 rfl ?_
  refine z_iload_n B dX12_messageLength_7 rfl 1 rfl ?_
  refine z_callV (As := [.int a]) (rest := [.ref y]) B (m_isMessage_x G l Φ1 sz y a h_1 hp) (cwV 1 B.1.2.2.2.2 gX12_messageLength_X12_isMessage rfl rfl rfl (by decide +kernel) ⟨Nat.le_of_ble_eq_true rfl, Nat.le_of_ble_eq_true rfl⟩) h_1 rfl rfl rfl rfl (Nat.le_of_ble_eq_true rfl) dX12_messageLength_8 ⟨Nat.le_of_ble_eq_true rfl, Nat.le_of_ble_eq_true rfl⟩ (fun v1 Φ2 sz1 st1 hp1 hs1 => ?_)
  obtain ⟨rfl, hq1, fr1⟩ := hp1
  replace hq1 : sz1 = sz := hq1
  subst sz1
  replace hs1 : st1 = [.int 0, .ref y] := hs1
  subst st1
  refine z_if_ne (tgt := 18) B dX12_messageLength_11 rfl (fun h9 => absurd (by decide) h9) (fun c_1 => ?_)
  refine z_iconst (v := 1) B dX12_messageLength_14 rfl ?_
  refine z_goto (tgt := 19) B dX12_messageLength_15 rfl ?_
  refine z_iconst (v := 1) B dX12_messageLength_19 rfl ?_
  have h_2 : Φ2 y = some (o_ 14 [.int 0, .ref (y + 1), .ref (y + 2), .int 0, .int 1, .int 1, .int 0, .int 0, .ref (y + 3), .ref (y + 4), .int 0, .long 0, .ref (y + 5), .int 0, .int 0, .long 0, .long 0, .long 0, .long 0, .ref (y + 6), .ref (y + 7), .int 0, .ref (y + 8), .int 0, .ref (y + 9), .ref (y + 10), .int 0, .ref (y + 11), .ref (y + 12), .ref (y + 13), .ref (y + 14), .ref (y + 15), .ref (y + 16), .int 0, .long (-1), .ref (y + 17), .ref (y + 18), .ref (y + 19), .ref (y + 20), .ref (y + 21), .ref (y + 22), .int 0, .ref (y + 23), .ref (y + 24), .int 0, .ref (y + 25), .int 0, .int 0, .int 0, .int (-1), .int 0, .int 0, .int 0, .long 0]) := ((fr1 y).trans h_1)
  refine z_callV (As := [.int 1, .int 1]) (rest := []) B (c_X12_throwsIf_1 G l Φ2 sz y 0 0 1 1 0 0 0 0 0 0 0 0 0 0 0 0 0 0 (-1) 0 0 0 0 0 (-1) 0 0 0 0 1 h_2 hna) (cwV 2 B.1.2.2.2.2 gX12_messageLength_X12_throwsIf rfl rfl rfl (by decide +kernel) ⟨Nat.le_of_ble_eq_true rfl, Nat.le_of_ble_eq_true rfl⟩) h_2 rfl rfl rfl rfl (Nat.le_of_ble_eq_true rfl) dX12_messageLength_20 ⟨Nat.le_of_ble_eq_true rfl, Nat.le_of_ble_eq_true rfl⟩ (fun v2 Φ3 sz2 st2 hp2 hs2 => ?_)
  obtain ⟨rfl, hq2, fr2, h_3⟩ := hp2
  replace hq2 : sz2 = sz := hq2
  subst sz2
  replace hs2 : st2 = [.int 1] := hs2
  subst st2
  have h_4 : Φ3 y = some (o_ 14 [.int 1, .ref (y + 1), .ref (y + 2), .int 0, .int 1, .int 1, .int 0, .int 0, .ref (y + 3), .ref (y + 4), .int 0, .long 0, .ref (y + 5), .int 0, .int 0, .long 0, .long 0, .long 0, .long 0, .ref (y + 6), .ref (y + 7), .int 0, .ref (y + 8), .int 0, .ref (y + 9), .ref (y + 10), .int 0, .ref (y + 11), .ref (y + 12), .ref (y + 13), .ref (y + 14), .ref (y + 15), .ref (y + 16), .int 0, .long (-1), .ref (y + 17), .ref (y + 18), .ref (y + 19), .ref (y + 20), .ref (y + 21), .ref (y + 22), .int 0, .ref (y + 23), .ref (y + 24), .int 0, .ref (y + 25), .int 0, .int 0, .int 0, .int (-1), .int 0, .int 0, .int 0, .long 0]) := h_3
  refine z_if_eq (tgt := 30) B dX12_messageLength_23 rfl (fun h9 => absurd h9 (by decide)) (fun c_2 => ?_)
  refine z_iconst (v := 0) B dX12_messageLength_26 rfl ?_
  refine z_goto (tgt := 36) B dX12_messageLength_27 rfl ?_
  exact z_ret_i B dX12_messageLength_36 ⟨rfl, ⟨_, h_4, rfl⟩, fun b9 h9 => ((fr2 b9 (Nat.ne_of_gt (Nat.lt_of_lt_of_le (lt_off (x := y) (i := 0) (j := 26) rfl) h9))).trans ((fr1 b9).trans ((fset_fr hΦ1 (Nat.ne_of_gt (Nat.lt_of_lt_of_le (lt_off (x := y) (i := 0) (j := 26) rfl) h9))).trans rfl)))⟩

set_option maxHeartbeats 4000000 in
set_option maxRecDepth 100000 in
theorem m_X12_messageByte_x (G : EnvG) (l : Launch) (Φ : Hm) (sz : Nat) (y : Nat) (a : Int32) (b : Int32) (hc0_ : Φ y = some (o_ 14 [.int 0, .ref (y + 1), .ref (y + 2), .int 0, .int 1, .int 1, .int 0, .int 0, .ref (y + 3), .ref (y + 4), .int 0, .long 0, .ref (y + 5), .int 0, .int 0, .long 0, .long 0, .long 0, .long 0, .ref (y + 6), .ref (y + 7), .int 0, .ref (y + 8), .int 0, .ref (y + 9), .ref (y + 10), .int 0, .ref (y + 11), .ref (y + 12), .ref (y + 13), .ref (y + 14), .ref (y + 15), .ref (y + 16), .int 0, .long (-1), .ref (y + 17), .ref (y + 18), .ref (y + 19), .ref (y + 20), .ref (y + 21), .ref (y + 22), .int 0, .ref (y + 23), .ref (y + 24), .int 0, .ref (y + 25), .int 0, .int 0, .int 0, .int (-1), .int 0, .int 0, .int 0, .long 0])) (hna : G.2.2.2 ≤ y) (hp : ¬ inP a.toInt64 0 (-1)) : Ct G l yX12_messageByte wsX12_messageByte ({ frames := 2, cells := 0, slots := 0, locals := 46 }) 0 0 [.ref y, .int a, .int b] Φ sz (fun v Φ1 sz1 => v = some (.int 0) ∧ (∃ fs : List Value, Φ1 y = some (o_ 14 fs) ∧ fs[0]? = some (.int 1)) ∧ ∀ b9 : Nat, y + 26 ≤ b9 → Φ1 b9 = Φ b9) := by
  refine Ct.of (cc := cX12_messageByte) (maxL := 3) (ret := (some .int)) (by decide) rfl (Nat.le_of_ble_eq_true rfl) ?_
  intro p9 e9 s9 m9 w9 t9 k9 B
  show Z p9 l e9 _ s9 m9 _ w9 t9 k9 _ G 3 0 [(0, .ref y), (1, .int a), (2, .int b)] [] Φ sz 0 0
  refine z_aload_n B dX12_messageByte_0 rfl 0 rfl ?_
  refine z_iconst (v := 0) B dX12_messageByte_1 rfl ?_
  refine z_put (ref := "FlowExporterModel") (C := RX12) (T := TX12) (N := 54) (ci := 14) (v := .int 0) B (by decide +kernel) tyX12 tyX12_ok nmX12 rfl 0 (by decide) (by decide +kernel) rfl (Or.inl rfl) hc0_ hna rfl rfl (Nat.le_of_ble_eq_true rfl) dX12_messageByte_2 (fun Φ1 hΦ1 => ?_)
  have h_1 : Φ1 y = some (o_ 14 [.int 0, .ref (y + 1), .ref (y + 2), .int 0, .int 1, .int 1, .int 0, .int 0, .ref (y + 3), .ref (y + 4), .int 0, .long 0, .ref (y + 5), .int 0, .int 0, .long 0, .long 0, .long 0, .long 0, .ref (y + 6), .ref (y + 7), .int 0, .ref (y + 8), .int 0, .ref (y + 9), .ref (y + 10), .int 0, .ref (y + 11), .ref (y + 12), .ref (y + 13), .ref (y + 14), .ref (y + 15), .ref (y + 16), .int 0, .long (-1), .ref (y + 17), .ref (y + 18), .ref (y + 19), .ref (y + 20), .ref (y + 21), .ref (y + 22), .int 0, .ref (y + 23), .ref (y + 24), .int 0, .ref (y + 25), .int 0, .int 0, .int 0, .int (-1), .int 0, .int 0, .int 0, .long 0]) := fset_at hΦ1
  refine z_aload_n B dX12_messageByte_5 rfl 0 rfl ?_
  refine z_aload_n B dX12_messageByte_6 rfl 0 rfl ?_
  refine z_iload_n B dX12_messageByte_7 rfl 1 rfl ?_
  refine z_callV (As := [.int a]) (rest := [.ref y]) B (m_isMessage_x G l Φ1 sz y a h_1 hp) (cwV 1 B.1.2.2.2.2 gX12_messageByte_X12_isMessage rfl rfl rfl (by decide +kernel) ⟨Nat.le_of_ble_eq_true rfl, Nat.le_of_ble_eq_true rfl⟩) h_1 rfl rfl rfl rfl (Nat.le_of_ble_eq_true rfl) dX12_messageByte_8 ⟨Nat.le_of_ble_eq_true rfl, Nat.le_of_ble_eq_true rfl⟩ (fun v1 Φ2 sz1 st1 hp1 hs1 => ?_)
  obtain ⟨rfl, hq1, fr1⟩ := hp1
  replace hq1 : sz1 = sz := hq1
  subst sz1
  replace hs1 : st1 = [.int 0, .ref y] := hs1
  subst st1
  refine z_if_ne (tgt := 18) B dX12_messageByte_11 rfl (fun h9 => absurd (by decide) h9) (fun c_1 => ?_)
  refine z_iconst (v := 1) B dX12_messageByte_14 rfl ?_
  refine z_goto (tgt := 19) B dX12_messageByte_15 rfl ?_
  refine z_iconst (v := 1) B dX12_messageByte_19 rfl ?_
  have h_2 : Φ2 y = some (o_ 14 [.int 0, .ref (y + 1), .ref (y + 2), .int 0, .int 1, .int 1, .int 0, .int 0, .ref (y + 3), .ref (y + 4), .int 0, .long 0, .ref (y + 5), .int 0, .int 0, .long 0, .long 0, .long 0, .long 0, .ref (y + 6), .ref (y + 7), .int 0, .ref (y + 8), .int 0, .ref (y + 9), .ref (y + 10), .int 0, .ref (y + 11), .ref (y + 12), .ref (y + 13), .ref (y + 14), .ref (y + 15), .ref (y + 16), .int 0, .long (-1), .ref (y + 17), .ref (y + 18), .ref (y + 19), .ref (y + 20), .ref (y + 21), .ref (y + 22), .int 0, .ref (y + 23), .ref (y + 24), .int 0, .ref (y + 25), .int 0, .int 0, .int 0, .int (-1), .int 0, .int 0, .int 0, .long 0]) := ((fr1 y).trans h_1)
  refine z_callV (As := [.int 1, .int 1]) (rest := []) B (c_X12_throwsIf_1 G l Φ2 sz y 0 0 1 1 0 0 0 0 0 0 0 0 0 0 0 0 0 0 (-1) 0 0 0 0 0 (-1) 0 0 0 0 1 h_2 hna) (cwV 2 B.1.2.2.2.2 gX12_messageByte_X12_throwsIf rfl rfl rfl (by decide +kernel) ⟨Nat.le_of_ble_eq_true rfl, Nat.le_of_ble_eq_true rfl⟩) h_2 rfl rfl rfl rfl (Nat.le_of_ble_eq_true rfl) dX12_messageByte_20 ⟨Nat.le_of_ble_eq_true rfl, Nat.le_of_ble_eq_true rfl⟩ (fun v2 Φ3 sz2 st2 hp2 hs2 => ?_)
  obtain ⟨rfl, hq2, fr2, h_3⟩ := hp2
  replace hq2 : sz2 = sz := hq2
  subst sz2
  replace hs2 : st2 = [.int 1] := hs2
  subst st2
  have h_4 : Φ3 y = some (o_ 14 [.int 1, .ref (y + 1), .ref (y + 2), .int 0, .int 1, .int 1, .int 0, .int 0, .ref (y + 3), .ref (y + 4), .int 0, .long 0, .ref (y + 5), .int 0, .int 0, .long 0, .long 0, .long 0, .long 0, .ref (y + 6), .ref (y + 7), .int 0, .ref (y + 8), .int 0, .ref (y + 9), .ref (y + 10), .int 0, .ref (y + 11), .ref (y + 12), .ref (y + 13), .ref (y + 14), .ref (y + 15), .ref (y + 16), .int 0, .long (-1), .ref (y + 17), .ref (y + 18), .ref (y + 19), .ref (y + 20), .ref (y + 21), .ref (y + 22), .int 0, .ref (y + 23), .ref (y + 24), .int 0, .ref (y + 25), .int 0, .int 0, .int 0, .int (-1), .int 0, .int 0, .int 0, .long 0]) := h_3
  refine z_if_eq (tgt := 30) B dX12_messageByte_23 rfl (fun h9 => absurd h9 (by decide)) (fun c_2 => ?_)
  refine z_iconst (v := 0) B dX12_messageByte_26 rfl ?_
  refine z_goto (tgt := 64) B dX12_messageByte_27 rfl ?_
  exact z_ret_i B dX12_messageByte_64 ⟨rfl, ⟨_, h_4, rfl⟩, fun b9 h9 => ((fr2 b9 (Nat.ne_of_gt (Nat.lt_of_lt_of_le (lt_off (x := y) (i := 0) (j := 26) rfl) h9))).trans ((fr1 b9).trans ((fset_fr hΦ1 (Nat.ne_of_gt (Nat.lt_of_lt_of_le (lt_off (x := y) (i := 0) (j := 26) rfl) h9))).trans rfl)))⟩

set_option maxHeartbeats 4000000 in
set_option maxRecDepth 100000 in
theorem m_X12_deliver_x (G : EnvG) (l : Launch) (Φ : Hm) (sz : Nat) (y : Nat) (a : Int32) (hc0_ : Φ y = some (o_ 14 [.int 0, .ref (y + 1), .ref (y + 2), .int 0, .int 1, .int 1, .int 0, .int 0, .ref (y + 3), .ref (y + 4), .int 0, .long 0, .ref (y + 5), .int 0, .int 0, .long 0, .long 0, .long 0, .long 0, .ref (y + 6), .ref (y + 7), .int 0, .ref (y + 8), .int 0, .ref (y + 9), .ref (y + 10), .int 0, .ref (y + 11), .ref (y + 12), .ref (y + 13), .ref (y + 14), .ref (y + 15), .ref (y + 16), .int 0, .long (-1), .ref (y + 17), .ref (y + 18), .ref (y + 19), .ref (y + 20), .ref (y + 21), .ref (y + 22), .int 0, .ref (y + 23), .ref (y + 24), .int 0, .ref (y + 25), .int 0, .int 0, .int 0, .int (-1), .int 0, .int 0, .int 0, .long 0])) (hna : G.2.2.2 ≤ y) (hp : ¬ inP a.toInt64 0 (-1)) : Ct G l yX12_deliver wsX12_deliver ({ frames := 2, cells := 0, slots := 0, locals := 46 }) 0 0 [.ref y, .int a] Φ sz (fun v Φ1 sz1 => v = some (.int 0) ∧ (∃ fs : List Value, Φ1 y = some (o_ 14 fs) ∧ fs[0]? = some (.int 1)) ∧ ∀ b9 : Nat, y + 26 ≤ b9 → Φ1 b9 = Φ b9) := by
  refine Ct.of (cc := cX12_deliver) (maxL := 3) (ret := (some .int)) (by decide) rfl (Nat.le_of_ble_eq_true rfl) ?_
  intro p9 e9 s9 m9 w9 t9 k9 B
  show Z p9 l e9 _ s9 m9 _ w9 t9 k9 _ G 3 0 [(0, .ref y), (1, .int a)] [] Φ sz 0 0
  refine z_aload_n B dX12_deliver_0 rfl 0 rfl ?_
  refine z_iconst (v := 0) B dX12_deliver_1 rfl ?_
  refine z_put (ref := "FlowExporterModel") (C := RX12) (T := TX12) (N := 54) (ci := 14) (v := .int 0) B (by decide +kernel) tyX12 tyX12_ok nmX12 rfl 0 (by decide) (by decide +kernel) rfl (Or.inl rfl) hc0_ hna rfl rfl (Nat.le_of_ble_eq_true rfl) dX12_deliver_2 (fun Φ1 hΦ1 => ?_)
  have h_1 : Φ1 y = some (o_ 14 [.int 0, .ref (y + 1), .ref (y + 2), .int 0, .int 1, .int 1, .int 0, .int 0, .ref (y + 3), .ref (y + 4), .int 0, .long 0, .ref (y + 5), .int 0, .int 0, .long 0, .long 0, .long 0, .long 0, .ref (y + 6), .ref (y + 7), .int 0, .ref (y + 8), .int 0, .ref (y + 9), .ref (y + 10), .int 0, .ref (y + 11), .ref (y + 12), .ref (y + 13), .ref (y + 14), .ref (y + 15), .ref (y + 16), .int 0, .long (-1), .ref (y + 17), .ref (y + 18), .ref (y + 19), .ref (y + 20), .ref (y + 21), .ref (y + 22), .int 0, .ref (y + 23), .ref (y + 24), .int 0, .ref (y + 25), .int 0, .int 0, .int 0, .int (-1), .int 0, .int 0, .int 0, .long 0]) := fset_at hΦ1
  refine z_aload_n B dX12_deliver_5 rfl 0 rfl ?_
  refine z_aload_n B dX12_deliver_6 rfl 0 rfl ?_
  refine z_iload_n B dX12_deliver_7 rfl 1 rfl ?_
  refine z_callV (As := [.int a]) (rest := [.ref y]) B (m_isMessage_x G l Φ1 sz y a h_1 hp) (cwV 1 B.1.2.2.2.2 gX12_deliver_X12_isMessage rfl rfl rfl (by decide +kernel) ⟨Nat.le_of_ble_eq_true rfl, Nat.le_of_ble_eq_true rfl⟩) h_1 rfl rfl rfl rfl (Nat.le_of_ble_eq_true rfl) dX12_deliver_8 ⟨Nat.le_of_ble_eq_true rfl, Nat.le_of_ble_eq_true rfl⟩ (fun v1 Φ2 sz1 st1 hp1 hs1 => ?_)
  obtain ⟨rfl, hq1, fr1⟩ := hp1
  replace hq1 : sz1 = sz := hq1
  subst sz1
  replace hs1 : st1 = [.int 0, .ref y] := hs1
  subst st1
  refine z_if_ne (tgt := 18) B dX12_deliver_11 rfl (fun h9 => absurd (by decide) h9) (fun c_1 => ?_)
  refine z_iconst (v := 1) B dX12_deliver_14 rfl ?_
  refine z_goto (tgt := 19) B dX12_deliver_15 rfl ?_
  refine z_iconst (v := 1) B dX12_deliver_19 rfl ?_
  have h_2 : Φ2 y = some (o_ 14 [.int 0, .ref (y + 1), .ref (y + 2), .int 0, .int 1, .int 1, .int 0, .int 0, .ref (y + 3), .ref (y + 4), .int 0, .long 0, .ref (y + 5), .int 0, .int 0, .long 0, .long 0, .long 0, .long 0, .ref (y + 6), .ref (y + 7), .int 0, .ref (y + 8), .int 0, .ref (y + 9), .ref (y + 10), .int 0, .ref (y + 11), .ref (y + 12), .ref (y + 13), .ref (y + 14), .ref (y + 15), .ref (y + 16), .int 0, .long (-1), .ref (y + 17), .ref (y + 18), .ref (y + 19), .ref (y + 20), .ref (y + 21), .ref (y + 22), .int 0, .ref (y + 23), .ref (y + 24), .int 0, .ref (y + 25), .int 0, .int 0, .int 0, .int (-1), .int 0, .int 0, .int 0, .long 0]) := ((fr1 y).trans h_1)
  refine z_callV (As := [.int 1, .int 1]) (rest := []) B (c_X12_throwsIf_1 G l Φ2 sz y 0 0 1 1 0 0 0 0 0 0 0 0 0 0 0 0 0 0 (-1) 0 0 0 0 0 (-1) 0 0 0 0 1 h_2 hna) (cwV 2 B.1.2.2.2.2 gX12_deliver_X12_throwsIf rfl rfl rfl (by decide +kernel) ⟨Nat.le_of_ble_eq_true rfl, Nat.le_of_ble_eq_true rfl⟩) h_2 rfl rfl rfl rfl (Nat.le_of_ble_eq_true rfl) dX12_deliver_20 ⟨Nat.le_of_ble_eq_true rfl, Nat.le_of_ble_eq_true rfl⟩ (fun v2 Φ3 sz2 st2 hp2 hs2 => ?_)
  obtain ⟨rfl, hq2, fr2, h_3⟩ := hp2
  replace hq2 : sz2 = sz := hq2
  subst sz2
  replace hs2 : st2 = [.int 1] := hs2
  subst st2
  have h_4 : Φ3 y = some (o_ 14 [.int 1, .ref (y + 1), .ref (y + 2), .int 0, .int 1, .int 1, .int 0, .int 0, .ref (y + 3), .ref (y + 4), .int 0, .long 0, .ref (y + 5), .int 0, .int 0, .long 0, .long 0, .long 0, .long 0, .ref (y + 6), .ref (y + 7), .int 0, .ref (y + 8), .int 0, .ref (y + 9), .ref (y + 10), .int 0, .ref (y + 11), .ref (y + 12), .ref (y + 13), .ref (y + 14), .ref (y + 15), .ref (y + 16), .int 0, .long (-1), .ref (y + 17), .ref (y + 18), .ref (y + 19), .ref (y + 20), .ref (y + 21), .ref (y + 22), .int 0, .ref (y + 23), .ref (y + 24), .int 0, .ref (y + 25), .int 0, .int 0, .int 0, .int (-1), .int 0, .int 0, .int 0, .long 0]) := h_3
  refine z_if_eq (tgt := 28) B dX12_deliver_23 rfl (fun h9 => absurd h9 (by decide)) (fun c_2 => ?_)
  refine z_iconst (v := 0) B dX12_deliver_26 rfl ?_
  exact z_ret_i B dX12_deliver_27 ⟨rfl, ⟨_, h_4, rfl⟩, fun b9 h9 => ((fr2 b9 (Nat.ne_of_gt (Nat.lt_of_lt_of_le (lt_off (x := y) (i := 0) (j := 26) rfl) h9))).trans ((fr1 b9).trans ((fset_fr hΦ1 (Nat.ne_of_gt (Nat.lt_of_lt_of_le (lt_off (x := y) (i := 0) (j := 26) rfl) h9))).trans rfl)))⟩

set_option maxHeartbeats 4000000 in
set_option maxRecDepth 100000 in
theorem m_X12_lose_x (G : EnvG) (l : Launch) (Φ : Hm) (sz : Nat) (y : Nat) (a : Int32) (hc0_ : Φ y = some (o_ 14 [.int 0, .ref (y + 1), .ref (y + 2), .int 0, .int 1, .int 1, .int 0, .int 0, .ref (y + 3), .ref (y + 4), .int 0, .long 0, .ref (y + 5), .int 0, .int 0, .long 0, .long 0, .long 0, .long 0, .ref (y + 6), .ref (y + 7), .int 0, .ref (y + 8), .int 0, .ref (y + 9), .ref (y + 10), .int 0, .ref (y + 11), .ref (y + 12), .ref (y + 13), .ref (y + 14), .ref (y + 15), .ref (y + 16), .int 0, .long (-1), .ref (y + 17), .ref (y + 18), .ref (y + 19), .ref (y + 20), .ref (y + 21), .ref (y + 22), .int 0, .ref (y + 23), .ref (y + 24), .int 0, .ref (y + 25), .int 0, .int 0, .int 0, .int (-1), .int 0, .int 0, .int 0, .long 0])) (hna : G.2.2.2 ≤ y) (hp : ¬ inP a.toInt64 0 (-1)) : Ct G l yX12_lose wsX12_lose ({ frames := 2, cells := 0, slots := 0, locals := 46 }) 0 0 [.ref y, .int a] Φ sz (fun v Φ1 sz1 => v = some (.int 0) ∧ (∃ fs : List Value, Φ1 y = some (o_ 14 fs) ∧ fs[0]? = some (.int 1)) ∧ ∀ b9 : Nat, y + 26 ≤ b9 → Φ1 b9 = Φ b9) := by
  refine Ct.of (cc := cX12_lose) (maxL := 3) (ret := (some .int)) (by decide) rfl (Nat.le_of_ble_eq_true rfl) ?_
  intro p9 e9 s9 m9 w9 t9 k9 B
  show Z p9 l e9 _ s9 m9 _ w9 t9 k9 _ G 3 0 [(0, .ref y), (1, .int a)] [] Φ sz 0 0
  refine z_aload_n B dX12_lose_0 rfl 0 rfl ?_
  refine z_iconst (v := 0) B dX12_lose_1 rfl ?_
  refine z_put (ref := "FlowExporterModel") (C := RX12) (T := TX12) (N := 54) (ci := 14) (v := .int 0) B (by decide +kernel) tyX12 tyX12_ok nmX12 rfl 0 (by decide) (by decide +kernel) rfl (Or.inl rfl) hc0_ hna rfl rfl (Nat.le_of_ble_eq_true rfl) dX12_lose_2 (fun Φ1 hΦ1 => ?_)
  have h_1 : Φ1 y = some (o_ 14 [.int 0, .ref (y + 1), .ref (y + 2), .int 0, .int 1, .int 1, .int 0, .int 0, .ref (y + 3), .ref (y + 4), .int 0, .long 0, .ref (y + 5), .int 0, .int 0, .long 0, .long 0, .long 0, .long 0, .ref (y + 6), .ref (y + 7), .int 0, .ref (y + 8), .int 0, .ref (y + 9), .ref (y + 10), .int 0, .ref (y + 11), .ref (y + 12), .ref (y + 13), .ref (y + 14), .ref (y + 15), .ref (y + 16), .int 0, .long (-1), .ref (y + 17), .ref (y + 18), .ref (y + 19), .ref (y + 20), .ref (y + 21), .ref (y + 22), .int 0, .ref (y + 23), .ref (y + 24), .int 0, .ref (y + 25), .int 0, .int 0, .int 0, .int (-1), .int 0, .int 0, .int 0, .long 0]) := fset_at hΦ1
  refine z_aload_n B dX12_lose_5 rfl 0 rfl ?_
  refine z_aload_n B dX12_lose_6 rfl 0 rfl ?_
  refine z_iload_n B dX12_lose_7 rfl 1 rfl ?_
  refine z_callV (As := [.int a]) (rest := [.ref y]) B (m_isMessage_x G l Φ1 sz y a h_1 hp) (cwV 1 B.1.2.2.2.2 gX12_lose_X12_isMessage rfl rfl rfl (by decide +kernel) ⟨Nat.le_of_ble_eq_true rfl, Nat.le_of_ble_eq_true rfl⟩) h_1 rfl rfl rfl rfl (Nat.le_of_ble_eq_true rfl) dX12_lose_8 ⟨Nat.le_of_ble_eq_true rfl, Nat.le_of_ble_eq_true rfl⟩ (fun v1 Φ2 sz1 st1 hp1 hs1 => ?_)
  obtain ⟨rfl, hq1, fr1⟩ := hp1
  replace hq1 : sz1 = sz := hq1
  subst sz1
  replace hs1 : st1 = [.int 0, .ref y] := hs1
  subst st1
  refine z_if_ne (tgt := 18) B dX12_lose_11 rfl (fun h9 => absurd (by decide) h9) (fun c_1 => ?_)
  refine z_iconst (v := 1) B dX12_lose_14 rfl ?_
  refine z_goto (tgt := 19) B dX12_lose_15 rfl ?_
  refine z_iconst (v := 1) B dX12_lose_19 rfl ?_
  have h_2 : Φ2 y = some (o_ 14 [.int 0, .ref (y + 1), .ref (y + 2), .int 0, .int 1, .int 1, .int 0, .int 0, .ref (y + 3), .ref (y + 4), .int 0, .long 0, .ref (y + 5), .int 0, .int 0, .long 0, .long 0, .long 0, .long 0, .ref (y + 6), .ref (y + 7), .int 0, .ref (y + 8), .int 0, .ref (y + 9), .ref (y + 10), .int 0, .ref (y + 11), .ref (y + 12), .ref (y + 13), .ref (y + 14), .ref (y + 15), .ref (y + 16), .int 0, .long (-1), .ref (y + 17), .ref (y + 18), .ref (y + 19), .ref (y + 20), .ref (y + 21), .ref (y + 22), .int 0, .ref (y + 23), .ref (y + 24), .int 0, .ref (y + 25), .int 0, .int 0, .int 0, .int (-1), .int 0, .int 0, .int 0, .long 0]) := ((fr1 y).trans h_1)
  refine z_callV (As := [.int 1, .int 1]) (rest := []) B (c_X12_throwsIf_1 G l Φ2 sz y 0 0 1 1 0 0 0 0 0 0 0 0 0 0 0 0 0 0 (-1) 0 0 0 0 0 (-1) 0 0 0 0 1 h_2 hna) (cwV 2 B.1.2.2.2.2 gX12_lose_X12_throwsIf rfl rfl rfl (by decide +kernel) ⟨Nat.le_of_ble_eq_true rfl, Nat.le_of_ble_eq_true rfl⟩) h_2 rfl rfl rfl rfl (Nat.le_of_ble_eq_true rfl) dX12_lose_20 ⟨Nat.le_of_ble_eq_true rfl, Nat.le_of_ble_eq_true rfl⟩ (fun v2 Φ3 sz2 st2 hp2 hs2 => ?_)
  obtain ⟨rfl, hq2, fr2, h_3⟩ := hp2
  replace hq2 : sz2 = sz := hq2
  subst sz2
  replace hs2 : st2 = [.int 1] := hs2
  subst st2
  have h_4 : Φ3 y = some (o_ 14 [.int 1, .ref (y + 1), .ref (y + 2), .int 0, .int 1, .int 1, .int 0, .int 0, .ref (y + 3), .ref (y + 4), .int 0, .long 0, .ref (y + 5), .int 0, .int 0, .long 0, .long 0, .long 0, .long 0, .ref (y + 6), .ref (y + 7), .int 0, .ref (y + 8), .int 0, .ref (y + 9), .ref (y + 10), .int 0, .ref (y + 11), .ref (y + 12), .ref (y + 13), .ref (y + 14), .ref (y + 15), .ref (y + 16), .int 0, .long (-1), .ref (y + 17), .ref (y + 18), .ref (y + 19), .ref (y + 20), .ref (y + 21), .ref (y + 22), .int 0, .ref (y + 23), .ref (y + 24), .int 0, .ref (y + 25), .int 0, .int 0, .int 0, .int (-1), .int 0, .int 0, .int 0, .long 0]) := h_3
  refine z_if_eq (tgt := 28) B dX12_lose_23 rfl (fun h9 => absurd h9 (by decide)) (fun c_2 => ?_)
  refine z_iconst (v := 0) B dX12_lose_26 rfl ?_
  exact z_ret_i B dX12_lose_27 ⟨rfl, ⟨_, h_4, rfl⟩, fun b9 h9 => ((fr2 b9 (Nat.ne_of_gt (Nat.lt_of_lt_of_le (lt_off (x := y) (i := 0) (j := 26) rfl) h9))).trans ((fr1 b9).trans ((fset_fr hΦ1 (Nat.ne_of_gt (Nat.lt_of_lt_of_le (lt_off (x := y) (i := 0) (j := 26) rfl) h9))).trans rfl)))⟩

set_option maxHeartbeats 4000000 in
set_option maxRecDepth 100000 in
theorem m_X12_duplicate_x (G : EnvG) (l : Launch) (Φ : Hm) (sz : Nat) (y : Nat) (a : Int32) (hc0_ : Φ y = some (o_ 14 [.int 0, .ref (y + 1), .ref (y + 2), .int 0, .int 1, .int 1, .int 0, .int 0, .ref (y + 3), .ref (y + 4), .int 0, .long 0, .ref (y + 5), .int 0, .int 0, .long 0, .long 0, .long 0, .long 0, .ref (y + 6), .ref (y + 7), .int 0, .ref (y + 8), .int 0, .ref (y + 9), .ref (y + 10), .int 0, .ref (y + 11), .ref (y + 12), .ref (y + 13), .ref (y + 14), .ref (y + 15), .ref (y + 16), .int 0, .long (-1), .ref (y + 17), .ref (y + 18), .ref (y + 19), .ref (y + 20), .ref (y + 21), .ref (y + 22), .int 0, .ref (y + 23), .ref (y + 24), .int 0, .ref (y + 25), .int 0, .int 0, .int 0, .int (-1), .int 0, .int 0, .int 0, .long 0])) (hna : G.2.2.2 ≤ y) (hp : ¬ inP a.toInt64 0 (-1)) : Ct G l yX12_duplicate wsX12_duplicate ({ frames := 2, cells := 0, slots := 0, locals := 46 }) 0 0 [.ref y, .int a] Φ sz (fun v Φ1 sz1 => v = some (.int 0) ∧ (∃ fs : List Value, Φ1 y = some (o_ 14 fs) ∧ fs[0]? = some (.int 1)) ∧ ∀ b9 : Nat, y + 26 ≤ b9 → Φ1 b9 = Φ b9) := by
  refine Ct.of (cc := cX12_duplicate) (maxL := 2) (ret := (some .boolean)) (by decide) rfl (Nat.le_of_ble_eq_true rfl) ?_
  intro p9 e9 s9 m9 w9 t9 k9 B
  show Z p9 l e9 _ s9 m9 _ w9 t9 k9 _ G 2 0 [(0, .ref y), (1, .int a)] [] Φ sz 0 0
  refine z_aload_n B dX12_duplicate_0 rfl 0 rfl ?_
  refine z_iconst (v := 0) B dX12_duplicate_1 rfl ?_
  refine z_put (ref := "FlowExporterModel") (C := RX12) (T := TX12) (N := 54) (ci := 14) (v := .int 0) B (by decide +kernel) tyX12 tyX12_ok nmX12 rfl 0 (by decide) (by decide +kernel) rfl (Or.inl rfl) hc0_ hna rfl rfl (Nat.le_of_ble_eq_true rfl) dX12_duplicate_2 (fun Φ1 hΦ1 => ?_)
  have h_1 : Φ1 y = some (o_ 14 [.int 0, .ref (y + 1), .ref (y + 2), .int 0, .int 1, .int 1, .int 0, .int 0, .ref (y + 3), .ref (y + 4), .int 0, .long 0, .ref (y + 5), .int 0, .int 0, .long 0, .long 0, .long 0, .long 0, .ref (y + 6), .ref (y + 7), .int 0, .ref (y + 8), .int 0, .ref (y + 9), .ref (y + 10), .int 0, .ref (y + 11), .ref (y + 12), .ref (y + 13), .ref (y + 14), .ref (y + 15), .ref (y + 16), .int 0, .long (-1), .ref (y + 17), .ref (y + 18), .ref (y + 19), .ref (y + 20), .ref (y + 21), .ref (y + 22), .int 0, .ref (y + 23), .ref (y + 24), .int 0, .ref (y + 25), .int 0, .int 0, .int 0, .int (-1), .int 0, .int 0, .int 0, .long 0]) := fset_at hΦ1
  refine z_aload_n B dX12_duplicate_5 rfl 0 rfl ?_
  refine z_aload_n B dX12_duplicate_6 rfl 0 rfl ?_
  refine z_iload_n B dX12_duplicate_7 rfl 1 rfl ?_
  refine z_callV (As := [.int a]) (rest := [.ref y]) B (m_isMessage_x G l Φ1 sz y a h_1 hp) (cwV 1 B.1.2.2.2.2 gX12_duplicate_X12_isMessage rfl rfl rfl (by decide +kernel) ⟨Nat.le_of_ble_eq_true rfl, Nat.le_of_ble_eq_true rfl⟩) h_1 rfl rfl rfl rfl (Nat.le_of_ble_eq_true rfl) dX12_duplicate_8 ⟨Nat.le_of_ble_eq_true rfl, Nat.le_of_ble_eq_true rfl⟩ (fun v1 Φ2 sz1 st1 hp1 hs1 => ?_)
  obtain ⟨rfl, hq1, fr1⟩ := hp1
  replace hq1 : sz1 = sz := hq1
  subst sz1
  replace hs1 : st1 = [.int 0, .ref y] := hs1
  subst st1
  refine z_if_ne (tgt := 18) B dX12_duplicate_11 rfl (fun h9 => absurd (by decide) h9) (fun c_1 => ?_)
  refine z_iconst (v := 1) B dX12_duplicate_14 rfl ?_
  refine z_goto (tgt := 19) B dX12_duplicate_15 rfl ?_
  refine z_iconst (v := 1) B dX12_duplicate_19 rfl ?_
  have h_2 : Φ2 y = some (o_ 14 [.int 0, .ref (y + 1), .ref (y + 2), .int 0, .int 1, .int 1, .int 0, .int 0, .ref (y + 3), .ref (y + 4), .int 0, .long 0, .ref (y + 5), .int 0, .int 0, .long 0, .long 0, .long 0, .long 0, .ref (y + 6), .ref (y + 7), .int 0, .ref (y + 8), .int 0, .ref (y + 9), .ref (y + 10), .int 0, .ref (y + 11), .ref (y + 12), .ref (y + 13), .ref (y + 14), .ref (y + 15), .ref (y + 16), .int 0, .long (-1), .ref (y + 17), .ref (y + 18), .ref (y + 19), .ref (y + 20), .ref (y + 21), .ref (y + 22), .int 0, .ref (y + 23), .ref (y + 24), .int 0, .ref (y + 25), .int 0, .int 0, .int 0, .int (-1), .int 0, .int 0, .int 0, .long 0]) := ((fr1 y).trans h_1)
  refine z_callV (As := [.int 1, .int 1]) (rest := []) B (c_X12_throwsIf_1 G l Φ2 sz y 0 0 1 1 0 0 0 0 0 0 0 0 0 0 0 0 0 0 (-1) 0 0 0 0 0 (-1) 0 0 0 0 1 h_2 hna) (cwV 2 B.1.2.2.2.2 gX12_duplicate_X12_throwsIf rfl rfl rfl (by decide +kernel) ⟨Nat.le_of_ble_eq_true rfl, Nat.le_of_ble_eq_true rfl⟩) h_2 rfl rfl rfl rfl (Nat.le_of_ble_eq_true rfl) dX12_duplicate_20 ⟨Nat.le_of_ble_eq_true rfl, Nat.le_of_ble_eq_true rfl⟩ (fun v2 Φ3 sz2 st2 hp2 hs2 => ?_)
  obtain ⟨rfl, hq2, fr2, h_3⟩ := hp2
  replace hq2 : sz2 = sz := hq2
  subst sz2
  replace hs2 : st2 = [.int 1] := hs2
  subst st2
  have h_4 : Φ3 y = some (o_ 14 [.int 1, .ref (y + 1), .ref (y + 2), .int 0, .int 1, .int 1, .int 0, .int 0, .ref (y + 3), .ref (y + 4), .int 0, .long 0, .ref (y + 5), .int 0, .int 0, .long 0, .long 0, .long 0, .long 0, .ref (y + 6), .ref (y + 7), .int 0, .ref (y + 8), .int 0, .ref (y + 9), .ref (y + 10), .int 0, .ref (y + 11), .ref (y + 12), .ref (y + 13), .ref (y + 14), .ref (y + 15), .ref (y + 16), .int 0, .long (-1), .ref (y + 17), .ref (y + 18), .ref (y + 19), .ref (y + 20), .ref (y + 21), .ref (y + 22), .int 0, .ref (y + 23), .ref (y + 24), .int 0, .ref (y + 25), .int 0, .int 0, .int 0, .int (-1), .int 0, .int 0, .int 0, .long 0]) := h_3
  refine z_if_ne (tgt := 35) B dX12_duplicate_23 rfl (fun c_2 => ?_) (fun h9 => absurd h9 (by decide))
  refine z_iconst (v := 0) B dX12_duplicate_35 rfl ?_
  exact z_ret_z B dX12_duplicate_36 (by decide) ⟨rfl, ⟨_, h_4, rfl⟩, fun b9 h9 => ((fr2 b9 (Nat.ne_of_gt (Nat.lt_of_lt_of_le (lt_off (x := y) (i := 0) (j := 26) rfl) h9))).trans ((fr1 b9).trans ((fset_fr hΦ1 (Nat.ne_of_gt (Nat.lt_of_lt_of_le (lt_off (x := y) (i := 0) (j := 26) rfl) h9))).trans rfl)))⟩

set_option maxHeartbeats 4000000 in
set_option maxRecDepth 100000 in
theorem m_X12_exchange_x (G : EnvG) (l : Launch) (Φ : Hm) (sz : Nat) (y : Nat) (a : Int32) (b : Int32) (hc0_ : Φ y = some (o_ 14 [.int 0, .ref (y + 1), .ref (y + 2), .int 0, .int 1, .int 1, .int 0, .int 0, .ref (y + 3), .ref (y + 4), .int 0, .long 0, .ref (y + 5), .int 0, .int 0, .long 0, .long 0, .long 0, .long 0, .ref (y + 6), .ref (y + 7), .int 0, .ref (y + 8), .int 0, .ref (y + 9), .ref (y + 10), .int 0, .ref (y + 11), .ref (y + 12), .ref (y + 13), .ref (y + 14), .ref (y + 15), .ref (y + 16), .int 0, .long (-1), .ref (y + 17), .ref (y + 18), .ref (y + 19), .ref (y + 20), .ref (y + 21), .ref (y + 22), .int 0, .ref (y + 23), .ref (y + 24), .int 0, .ref (y + 25), .int 0, .int 0, .int 0, .int (-1), .int 0, .int 0, .int 0, .long 0])) (hna : G.2.2.2 ≤ y) (hp : ¬ inP a.toInt64 0 (-1)) : Ct G l yX12_exchange wsX12_exchange ({ frames := 2, cells := 0, slots := 0, locals := 46 }) 0 0 [.ref y, .int a, .int b] Φ sz (fun v Φ1 sz1 => v = some (.int 0) ∧ (∃ fs : List Value, Φ1 y = some (o_ 14 fs) ∧ fs[0]? = some (.int 1)) ∧ ∀ b9 : Nat, y + 26 ≤ b9 → Φ1 b9 = Φ b9) := by
  refine Ct.of (cc := cX12_exchange) (maxL := 5) (ret := (some .boolean)) (by decide) rfl (Nat.le_of_ble_eq_true rfl) ?_
  intro p9 e9 s9 m9 w9 t9 k9 B
  show Z p9 l e9 _ s9 m9 _ w9 t9 k9 _ G 5 0 [(0, .ref y), (1, .int a), (2, .int b)] [] Φ sz 0 0
  refine z_aload_n B dX12_exchange_0 rfl 0 rfl ?_
  refine z_iconst (v := 0) B dX12_exchange_1 rfl ?_
  refine z_put (ref := "FlowExporterModel") (C := RX12) (T := TX12) (N := 54) (ci := 14) (v := .int 0) B (by decide +kernel) tyX12 tyX12_ok nmX12 rfl 0 (by decide) (by decide +kernel) rfl (Or.inl rfl) hc0_ hna rfl rfl (Nat.le_of_ble_eq_true rfl) dX12_exchange_2 (fun Φ1 hΦ1 => ?_)
  have h_1 : Φ1 y = some (o_ 14 [.int 0, .ref (y + 1), .ref (y + 2), .int 0, .int 1, .int 1, .int 0, .int 0, .ref (y + 3), .ref (y + 4), .int 0, .long 0, .ref (y + 5), .int 0, .int 0, .long 0, .long 0, .long 0, .long 0, .ref (y + 6), .ref (y + 7), .int 0, .ref (y + 8), .int 0, .ref (y + 9), .ref (y + 10), .int 0, .ref (y + 11), .ref (y + 12), .ref (y + 13), .ref (y + 14), .ref (y + 15), .ref (y + 16), .int 0, .long (-1), .ref (y + 17), .ref (y + 18), .ref (y + 19), .ref (y + 20), .ref (y + 21), .ref (y + 22), .int 0, .ref (y + 23), .ref (y + 24), .int 0, .ref (y + 25), .int 0, .int 0, .int 0, .int (-1), .int 0, .int 0, .int 0, .long 0]) := fset_at hΦ1
  refine z_aload_n B dX12_exchange_5 rfl 0 rfl ?_
  refine z_aload_n B dX12_exchange_6 rfl 0 rfl ?_
  refine z_iload_n B dX12_exchange_7 rfl 1 rfl ?_
  refine z_callV (As := [.int a]) (rest := [.ref y]) B (m_isMessage_x G l Φ1 sz y a h_1 hp) (cwV 1 B.1.2.2.2.2 gX12_exchange_X12_isMessage rfl rfl rfl (by decide +kernel) ⟨Nat.le_of_ble_eq_true rfl, Nat.le_of_ble_eq_true rfl⟩) h_1 rfl rfl rfl rfl (Nat.le_of_ble_eq_true rfl) dX12_exchange_8 ⟨Nat.le_of_ble_eq_true rfl, Nat.le_of_ble_eq_true rfl⟩ (fun v1 Φ2 sz1 st1 hp1 hs1 => ?_)
  obtain ⟨rfl, hq1, fr1⟩ := hp1
  replace hq1 : sz1 = sz := hq1
  subst sz1
  replace hs1 : st1 = [.int 0, .ref y] := hs1
  subst st1
  refine z_if_eq (tgt := 22) B dX12_exchange_11 rfl (fun c_1 => ?_) (fun h9 => absurd (by decide) h9)
  refine z_iconst (v := 1) B dX12_exchange_22 rfl ?_
  refine z_goto (tgt := 27) B dX12_exchange_23 rfl ?_
  refine z_iconst (v := 1) B dX12_exchange_27 rfl ?_
  have h_2 : Φ2 y = some (o_ 14 [.int 0, .ref (y + 1), .ref (y + 2), .int 0, .int 1, .int 1, .int 0, .int 0, .ref (y + 3), .ref (y + 4), .int 0, .long 0, .ref (y + 5), .int 0, .int 0, .long 0, .long 0, .long 0, .long 0, .ref (y + 6), .ref (y + 7), .int 0, .ref (y + 8), .int 0, .ref (y + 9), .ref (y + 10), .int 0, .ref (y + 11), .ref (y + 12), .ref (y + 13), .ref (y + 14), .ref (y + 15), .ref (y + 16), .int 0, .long (-1), .ref (y + 17), .ref (y + 18), .ref (y + 19), .ref (y + 20), .ref (y + 21), .ref (y + 22), .int 0, .ref (y + 23), .ref (y + 24), .int 0, .ref (y + 25), .int 0, .int 0, .int 0, .int (-1), .int 0, .int 0, .int 0, .long 0]) := ((fr1 y).trans h_1)
  refine z_callV (As := [.int 1, .int 1]) (rest := []) B (c_X12_throwsIf_1 G l Φ2 sz y 0 0 1 1 0 0 0 0 0 0 0 0 0 0 0 0 0 0 (-1) 0 0 0 0 0 (-1) 0 0 0 0 1 h_2 hna) (cwV 2 B.1.2.2.2.2 gX12_exchange_X12_throwsIf rfl rfl rfl (by decide +kernel) ⟨Nat.le_of_ble_eq_true rfl, Nat.le_of_ble_eq_true rfl⟩) h_2 rfl rfl rfl rfl (Nat.le_of_ble_eq_true rfl) dX12_exchange_28 ⟨Nat.le_of_ble_eq_true rfl, Nat.le_of_ble_eq_true rfl⟩ (fun v2 Φ3 sz2 st2 hp2 hs2 => ?_)
  obtain ⟨rfl, hq2, fr2, h_3⟩ := hp2
  replace hq2 : sz2 = sz := hq2
  subst sz2
  replace hs2 : st2 = [.int 1] := hs2
  subst st2
  have h_4 : Φ3 y = some (o_ 14 [.int 1, .ref (y + 1), .ref (y + 2), .int 0, .int 1, .int 1, .int 0, .int 0, .ref (y + 3), .ref (y + 4), .int 0, .long 0, .ref (y + 5), .int 0, .int 0, .long 0, .long 0, .long 0, .long 0, .ref (y + 6), .ref (y + 7), .int 0, .ref (y + 8), .int 0, .ref (y + 9), .ref (y + 10), .int 0, .ref (y + 11), .ref (y + 12), .ref (y + 13), .ref (y + 14), .ref (y + 15), .ref (y + 16), .int 0, .long (-1), .ref (y + 17), .ref (y + 18), .ref (y + 19), .ref (y + 20), .ref (y + 21), .ref (y + 22), .int 0, .ref (y + 23), .ref (y + 24), .int 0, .ref (y + 25), .int 0, .int 0, .int 0, .int (-1), .int 0, .int 0, .int 0, .long 0]) := h_3
  refine z_if_ne (tgt := 39) B dX12_exchange_31 rfl (fun c_2 => ?_) (fun h9 => absurd h9 (by decide))
  refine z_iconst (v := 0) B dX12_exchange_39 rfl ?_
  exact z_ret_z B dX12_exchange_40 (by decide) ⟨rfl, ⟨_, h_4, rfl⟩, fun b9 h9 => ((fr2 b9 (Nat.ne_of_gt (Nat.lt_of_lt_of_le (lt_off (x := y) (i := 0) (j := 26) rfl) h9))).trans ((fr1 b9).trans ((fset_fr hΦ1 (Nat.ne_of_gt (Nat.lt_of_lt_of_le (lt_off (x := y) (i := 0) (j := 26) rfl) h9))).trans rfl)))⟩

set_option maxHeartbeats 4000000 in
set_option maxRecDepth 100000 in
theorem m_X12_key_x (G : EnvG) (l : Launch) (Φ : Hm) (sz : Nat) (y : Nat) (a : Int32) (b : Int32) (hc0_ : Φ y = some (o_ 14 [.int 0, .ref (y + 1), .ref (y + 2), .int 0, .int 1, .int 1, .int 0, .int 0, .ref (y + 3), .ref (y + 4), .int 0, .long 0, .ref (y + 5), .int 0, .int 0, .long 0, .long 0, .long 0, .long 0, .ref (y + 6), .ref (y + 7), .int 0, .ref (y + 8), .int 0, .ref (y + 9), .ref (y + 10), .int 0, .ref (y + 11), .ref (y + 12), .ref (y + 13), .ref (y + 14), .ref (y + 15), .ref (y + 16), .int 0, .long (-1), .ref (y + 17), .ref (y + 18), .ref (y + 19), .ref (y + 20), .ref (y + 21), .ref (y + 22), .int 0, .ref (y + 23), .ref (y + 24), .int 0, .ref (y + 25), .int 0, .int 0, .int 0, .int (-1), .int 0, .int 0, .int 0, .long 0])) (hna : G.2.2.2 ≤ y) (hp : ¬ inP a.toInt64 0 (-1)) : Ct G l yX12_key wsX12_key ({ frames := 2, cells := 0, slots := 0, locals := 46 }) 0 0 [.ref y, .int a, .int b] Φ sz (fun v Φ1 sz1 => v = some (.int 0) ∧ (∃ fs : List Value, Φ1 y = some (o_ 14 fs) ∧ fs[0]? = some (.int 1)) ∧ ∀ b9 : Nat, y + 26 ≤ b9 → Φ1 b9 = Φ b9) := by
  refine Ct.of (cc := cX12_key) (maxL := 3) (ret := (some .int)) (by decide) rfl (Nat.le_of_ble_eq_true rfl) ?_
  intro p9 e9 s9 m9 w9 t9 k9 B
  show Z p9 l e9 _ s9 m9 _ w9 t9 k9 _ G 3 0 [(0, .ref y), (1, .int a), (2, .int b)] [] Φ sz 0 0
  refine z_aload_n B dX12_key_0 rfl 0 rfl ?_
  refine z_iconst (v := 0) B dX12_key_1 rfl ?_
  refine z_put (ref := "FlowExporterModel") (C := RX12) (T := TX12) (N := 54) (ci := 14) (v := .int 0) B (by decide +kernel) tyX12 tyX12_ok nmX12 rfl 0 (by decide) (by decide +kernel) rfl (Or.inl rfl) hc0_ hna rfl rfl (Nat.le_of_ble_eq_true rfl) dX12_key_2 (fun Φ1 hΦ1 => ?_)
  have h_1 : Φ1 y = some (o_ 14 [.int 0, .ref (y + 1), .ref (y + 2), .int 0, .int 1, .int 1, .int 0, .int 0, .ref (y + 3), .ref (y + 4), .int 0, .long 0, .ref (y + 5), .int 0, .int 0, .long 0, .long 0, .long 0, .long 0, .ref (y + 6), .ref (y + 7), .int 0, .ref (y + 8), .int 0, .ref (y + 9), .ref (y + 10), .int 0, .ref (y + 11), .ref (y + 12), .ref (y + 13), .ref (y + 14), .ref (y + 15), .ref (y + 16), .int 0, .long (-1), .ref (y + 17), .ref (y + 18), .ref (y + 19), .ref (y + 20), .ref (y + 21), .ref (y + 22), .int 0, .ref (y + 23), .ref (y + 24), .int 0, .ref (y + 25), .int 0, .int 0, .int 0, .int (-1), .int 0, .int 0, .int 0, .long 0]) := fset_at hΦ1
  refine z_aload_n B dX12_key_5 rfl 0 rfl ?_
  refine z_aload_n B dX12_key_6 rfl 0 rfl ?_
  refine z_iload_n B dX12_key_7 rfl 1 rfl ?_
  refine z_callV (As := [.int a]) (rest := [.ref y]) B (m_isKey_x G l Φ1 sz y a h_1 hp) (cwV 1 B.1.2.2.2.2 gX12_key_X12_isKey rfl rfl rfl (by decide +kernel) ⟨Nat.le_of_ble_eq_true rfl, Nat.le_of_ble_eq_true rfl⟩) h_1 rfl rfl rfl rfl (Nat.le_of_ble_eq_true rfl) dX12_key_8 ⟨Nat.le_of_ble_eq_true rfl, Nat.le_of_ble_eq_true rfl⟩ (fun v1 Φ2 sz1 st1 hp1 hs1 => ?_)
  obtain ⟨rfl, hq1, fr1⟩ := hp1
  replace hq1 : sz1 = sz := hq1
  subst sz1
  replace hs1 : st1 = [.int 0, .ref y] := hs1
  subst st1
  refine z_if_ne (tgt := 18) B dX12_key_11 rfl (fun h9 => absurd (by decide) h9) (fun c_1 => ?_)
  refine z_iconst (v := 1) B dX12_key_14 rfl ?_
  refine z_goto (tgt := 19) B dX12_key_15 rfl ?_
  refine z_iconst (v := 1) B dX12_key_19 rfl ?_
  have h_2 : Φ2 y = some (o_ 14 [.int 0, .ref (y + 1), .ref (y + 2), .int 0, .int 1, .int 1, .int 0, .int 0, .ref (y + 3), .ref (y + 4), .int 0, .long 0, .ref (y + 5), .int 0, .int 0, .long 0, .long 0, .long 0, .long 0, .ref (y + 6), .ref (y + 7), .int 0, .ref (y + 8), .int 0, .ref (y + 9), .ref (y + 10), .int 0, .ref (y + 11), .ref (y + 12), .ref (y + 13), .ref (y + 14), .ref (y + 15), .ref (y + 16), .int 0, .long (-1), .ref (y + 17), .ref (y + 18), .ref (y + 19), .ref (y + 20), .ref (y + 21), .ref (y + 22), .int 0, .ref (y + 23), .ref (y + 24), .int 0, .ref (y + 25), .int 0, .int 0, .int 0, .int (-1), .int 0, .int 0, .int 0, .long 0]) := ((fr1 y).trans h_1)
  refine z_callV (As := [.int 1, .int 1]) (rest := []) B (c_X12_throwsIf_1 G l Φ2 sz y 0 0 1 1 0 0 0 0 0 0 0 0 0 0 0 0 0 0 (-1) 0 0 0 0 0 (-1) 0 0 0 0 1 h_2 hna) (cwV 2 B.1.2.2.2.2 gX12_key_X12_throwsIf rfl rfl rfl (by decide +kernel) ⟨Nat.le_of_ble_eq_true rfl, Nat.le_of_ble_eq_true rfl⟩) h_2 rfl rfl rfl rfl (Nat.le_of_ble_eq_true rfl) dX12_key_20 ⟨Nat.le_of_ble_eq_true rfl, Nat.le_of_ble_eq_true rfl⟩ (fun v2 Φ3 sz2 st2 hp2 hs2 => ?_)
  obtain ⟨rfl, hq2, fr2, h_3⟩ := hp2
  replace hq2 : sz2 = sz := hq2
  subst sz2
  replace hs2 : st2 = [.int 1] := hs2
  subst st2
  have h_4 : Φ3 y = some (o_ 14 [.int 1, .ref (y + 1), .ref (y + 2), .int 0, .int 1, .int 1, .int 0, .int 0, .ref (y + 3), .ref (y + 4), .int 0, .long 0, .ref (y + 5), .int 0, .int 0, .long 0, .long 0, .long 0, .long 0, .ref (y + 6), .ref (y + 7), .int 0, .ref (y + 8), .int 0, .ref (y + 9), .ref (y + 10), .int 0, .ref (y + 11), .ref (y + 12), .ref (y + 13), .ref (y + 14), .ref (y + 15), .ref (y + 16), .int 0, .long (-1), .ref (y + 17), .ref (y + 18), .ref (y + 19), .ref (y + 20), .ref (y + 21), .ref (y + 22), .int 0, .ref (y + 23), .ref (y + 24), .int 0, .ref (y + 25), .int 0, .int 0, .int 0, .int (-1), .int 0, .int 0, .int 0, .long 0]) := h_3
  refine z_if_ne (tgt := 51) B dX12_key_23 rfl (fun c_2 => ?_) (fun h9 => absurd h9 (by decide))
  refine z_iconst (v := 0) B dX12_key_51 rfl ?_
  refine z_goto (tgt := 65) B dX12_key_52 rfl ?_
  exact z_ret_i B dX12_key_65 ⟨rfl, ⟨_, h_4, rfl⟩, fun b9 h9 => ((fr2 b9 (Nat.ne_of_gt (Nat.lt_of_lt_of_le (lt_off (x := y) (i := 0) (j := 26) rfl) h9))).trans ((fr1 b9).trans ((fset_fr hΦ1 (Nat.ne_of_gt (Nat.lt_of_lt_of_le (lt_off (x := y) (i := 0) (j := 26) rfl) h9))).trans rfl)))⟩

set_option maxHeartbeats 4000000 in
set_option maxRecDepth 100000 in
theorem m_X12_raw_x (G : EnvG) (l : Launch) (Φ : Hm) (sz : Nat) (y : Nat) (a : Int32) (b : Int32) (hc0_ : Φ y = some (o_ 14 [.int 0, .ref (y + 1), .ref (y + 2), .int 0, .int 1, .int 1, .int 0, .int 0, .ref (y + 3), .ref (y + 4), .int 0, .long 0, .ref (y + 5), .int 0, .int 0, .long 0, .long 0, .long 0, .long 0, .ref (y + 6), .ref (y + 7), .int 0, .ref (y + 8), .int 0, .ref (y + 9), .ref (y + 10), .int 0, .ref (y + 11), .ref (y + 12), .ref (y + 13), .ref (y + 14), .ref (y + 15), .ref (y + 16), .int 0, .long (-1), .ref (y + 17), .ref (y + 18), .ref (y + 19), .ref (y + 20), .ref (y + 21), .ref (y + 22), .int 0, .ref (y + 23), .ref (y + 24), .int 0, .ref (y + 25), .int 0, .int 0, .int 0, .int (-1), .int 0, .int 0, .int 0, .long 0])) (hna : G.2.2.2 ≤ y) (hp : ¬ inP a.toInt64 0 (-1)) : Ct G l yX12_raw wsX12_raw ({ frames := 2, cells := 0, slots := 0, locals := 46 }) 0 0 [.ref y, .int a, .int b] Φ sz (fun v Φ1 sz1 => v = some (.long 0) ∧ (∃ fs : List Value, Φ1 y = some (o_ 14 fs) ∧ fs[0]? = some (.int 1)) ∧ ∀ b9 : Nat, y + 26 ≤ b9 → Φ1 b9 = Φ b9) := by
  refine Ct.of (cc := cX12_raw) (maxL := 3) (ret := (some .long)) (by decide) rfl (Nat.le_of_ble_eq_true rfl) ?_
  intro p9 e9 s9 m9 w9 t9 k9 B
  show Z p9 l e9 _ s9 m9 _ w9 t9 k9 _ G 3 0 [(0, .ref y), (1, .int a), (2, .int b)] [] Φ sz 0 0
  refine z_aload_n B dX12_raw_0 rfl 0 rfl ?_
  refine z_iconst (v := 0) B dX12_raw_1 rfl ?_
  refine z_put (ref := "FlowExporterModel") (C := RX12) (T := TX12) (N := 54) (ci := 14) (v := .int 0) B (by decide +kernel) tyX12 tyX12_ok nmX12 rfl 0 (by decide) (by decide +kernel) rfl (Or.inl rfl) hc0_ hna rfl rfl (Nat.le_of_ble_eq_true rfl) dX12_raw_2 (fun Φ1 hΦ1 => ?_)
  have h_1 : Φ1 y = some (o_ 14 [.int 0, .ref (y + 1), .ref (y + 2), .int 0, .int 1, .int 1, .int 0, .int 0, .ref (y + 3), .ref (y + 4), .int 0, .long 0, .ref (y + 5), .int 0, .int 0, .long 0, .long 0, .long 0, .long 0, .ref (y + 6), .ref (y + 7), .int 0, .ref (y + 8), .int 0, .ref (y + 9), .ref (y + 10), .int 0, .ref (y + 11), .ref (y + 12), .ref (y + 13), .ref (y + 14), .ref (y + 15), .ref (y + 16), .int 0, .long (-1), .ref (y + 17), .ref (y + 18), .ref (y + 19), .ref (y + 20), .ref (y + 21), .ref (y + 22), .int 0, .ref (y + 23), .ref (y + 24), .int 0, .ref (y + 25), .int 0, .int 0, .int 0, .int (-1), .int 0, .int 0, .int 0, .long 0]) := fset_at hΦ1
  refine z_aload_n B dX12_raw_5 rfl 0 rfl ?_
  refine z_aload_n B dX12_raw_6 rfl 0 rfl ?_
  refine z_iload_n B dX12_raw_7 rfl 1 rfl ?_
  refine z_callV (As := [.int a]) (rest := [.ref y]) B (m_isKey_x G l Φ1 sz y a h_1 hp) (cwV 1 B.1.2.2.2.2 gX12_raw_X12_isKey rfl rfl rfl (by decide +kernel) ⟨Nat.le_of_ble_eq_true rfl, Nat.le_of_ble_eq_true rfl⟩) h_1 rfl rfl rfl rfl (Nat.le_of_ble_eq_true rfl) dX12_raw_8 ⟨Nat.le_of_ble_eq_true rfl, Nat.le_of_ble_eq_true rfl⟩ (fun v1 Φ2 sz1 st1 hp1 hs1 => ?_)
  obtain ⟨rfl, hq1, fr1⟩ := hp1
  replace hq1 : sz1 = sz := hq1
  subst sz1
  replace hs1 : st1 = [.int 0, .ref y] := hs1
  subst st1
  refine z_if_ne (tgt := 18) B dX12_raw_11 rfl (fun h9 => absurd (by decide) h9) (fun c_1 => ?_)
  refine z_iconst (v := 1) B dX12_raw_14 rfl ?_
  refine z_goto (tgt := 19) B dX12_raw_15 rfl ?_
  refine z_iconst (v := 1) B dX12_raw_19 rfl ?_
  have h_2 : Φ2 y = some (o_ 14 [.int 0, .ref (y + 1), .ref (y + 2), .int 0, .int 1, .int 1, .int 0, .int 0, .ref (y + 3), .ref (y + 4), .int 0, .long 0, .ref (y + 5), .int 0, .int 0, .long 0, .long 0, .long 0, .long 0, .ref (y + 6), .ref (y + 7), .int 0, .ref (y + 8), .int 0, .ref (y + 9), .ref (y + 10), .int 0, .ref (y + 11), .ref (y + 12), .ref (y + 13), .ref (y + 14), .ref (y + 15), .ref (y + 16), .int 0, .long (-1), .ref (y + 17), .ref (y + 18), .ref (y + 19), .ref (y + 20), .ref (y + 21), .ref (y + 22), .int 0, .ref (y + 23), .ref (y + 24), .int 0, .ref (y + 25), .int 0, .int 0, .int 0, .int (-1), .int 0, .int 0, .int 0, .long 0]) := ((fr1 y).trans h_1)
  refine z_callV (As := [.int 1, .int 1]) (rest := []) B (c_X12_throwsIf_1 G l Φ2 sz y 0 0 1 1 0 0 0 0 0 0 0 0 0 0 0 0 0 0 (-1) 0 0 0 0 0 (-1) 0 0 0 0 1 h_2 hna) (cwV 2 B.1.2.2.2.2 gX12_raw_X12_throwsIf rfl rfl rfl (by decide +kernel) ⟨Nat.le_of_ble_eq_true rfl, Nat.le_of_ble_eq_true rfl⟩) h_2 rfl rfl rfl rfl (Nat.le_of_ble_eq_true rfl) dX12_raw_20 ⟨Nat.le_of_ble_eq_true rfl, Nat.le_of_ble_eq_true rfl⟩ (fun v2 Φ3 sz2 st2 hp2 hs2 => ?_)
  obtain ⟨rfl, hq2, fr2, h_3⟩ := hp2
  replace hq2 : sz2 = sz := hq2
  subst sz2
  replace hs2 : st2 = [.int 1] := hs2
  subst st2
  have h_4 : Φ3 y = some (o_ 14 [.int 1, .ref (y + 1), .ref (y + 2), .int 0, .int 1, .int 1, .int 0, .int 0, .ref (y + 3), .ref (y + 4), .int 0, .long 0, .ref (y + 5), .int 0, .int 0, .long 0, .long 0, .long 0, .long 0, .ref (y + 6), .ref (y + 7), .int 0, .ref (y + 8), .int 0, .ref (y + 9), .ref (y + 10), .int 0, .ref (y + 11), .ref (y + 12), .ref (y + 13), .ref (y + 14), .ref (y + 15), .ref (y + 16), .int 0, .long (-1), .ref (y + 17), .ref (y + 18), .ref (y + 19), .ref (y + 20), .ref (y + 21), .ref (y + 22), .int 0, .ref (y + 23), .ref (y + 24), .int 0, .ref (y + 25), .int 0, .int 0, .int 0, .int (-1), .int 0, .int 0, .int 0, .long 0]) := h_3
  refine z_if_ne (tgt := 46) B dX12_raw_23 rfl (fun c_2 => ?_) (fun h9 => absurd h9 (by decide))
  refine z_lconst (v := 0) B dX12_raw_46 rfl ?_
  refine z_goto (tgt := 60) B dX12_raw_47 rfl ?_
  exact z_ret_l B dX12_raw_60 ⟨rfl, ⟨_, h_4, rfl⟩, fun b9 h9 => ((fr2 b9 (Nat.ne_of_gt (Nat.lt_of_lt_of_le (lt_off (x := y) (i := 0) (j := 26) rfl) h9))).trans ((fr1 b9).trans ((fset_fr hΦ1 (Nat.ne_of_gt (Nat.lt_of_lt_of_le (lt_off (x := y) (i := 0) (j := 26) rfl) h9))).trans rfl)))⟩

set_option maxHeartbeats 4000000 in
set_option maxRecDepth 100000 in
theorem m_X12_estimate_x (G : EnvG) (l : Launch) (Φ : Hm) (sz : Nat) (y : Nat) (a : Int32) (b : Int32) (hc0_ : Φ y = some (o_ 14 [.int 0, .ref (y + 1), .ref (y + 2), .int 0, .int 1, .int 1, .int 0, .int 0, .ref (y + 3), .ref (y + 4), .int 0, .long 0, .ref (y + 5), .int 0, .int 0, .long 0, .long 0, .long 0, .long 0, .ref (y + 6), .ref (y + 7), .int 0, .ref (y + 8), .int 0, .ref (y + 9), .ref (y + 10), .int 0, .ref (y + 11), .ref (y + 12), .ref (y + 13), .ref (y + 14), .ref (y + 15), .ref (y + 16), .int 0, .long (-1), .ref (y + 17), .ref (y + 18), .ref (y + 19), .ref (y + 20), .ref (y + 21), .ref (y + 22), .int 0, .ref (y + 23), .ref (y + 24), .int 0, .ref (y + 25), .int 0, .int 0, .int 0, .int (-1), .int 0, .int 0, .int 0, .long 0])) (hna : G.2.2.2 ≤ y) (hp : ¬ inP a.toInt64 0 (-1)) : Ct G l yX12_estimate wsX12_estimate ({ frames := 2, cells := 0, slots := 0, locals := 46 }) 0 0 [.ref y, .int a, .int b] Φ sz (fun v Φ1 sz1 => v = some (.long 0) ∧ (∃ fs : List Value, Φ1 y = some (o_ 14 fs) ∧ fs[0]? = some (.int 1)) ∧ ∀ b9 : Nat, y + 26 ≤ b9 → Φ1 b9 = Φ b9) := by
  refine Ct.of (cc := cX12_estimate) (maxL := 3) (ret := (some .long)) (by decide) rfl (Nat.le_of_ble_eq_true rfl) ?_
  intro p9 e9 s9 m9 w9 t9 k9 B
  show Z p9 l e9 _ s9 m9 _ w9 t9 k9 _ G 3 0 [(0, .ref y), (1, .int a), (2, .int b)] [] Φ sz 0 0
  refine z_aload_n B dX12_estimate_0 rfl 0 rfl ?_
  refine z_iconst (v := 0) B dX12_estimate_1 rfl ?_
  refine z_put (ref := "FlowExporterModel") (C := RX12) (T := TX12) (N := 54) (ci := 14) (v := .int 0) B (by decide +kernel) tyX12 tyX12_ok nmX12 rfl 0 (by decide) (by decide +kernel) rfl (Or.inl rfl) hc0_ hna rfl rfl (Nat.le_of_ble_eq_true rfl) dX12_estimate_2 (fun Φ1 hΦ1 => ?_)
  have h_1 : Φ1 y = some (o_ 14 [.int 0, .ref (y + 1), .ref (y + 2), .int 0, .int 1, .int 1, .int 0, .int 0, .ref (y + 3), .ref (y + 4), .int 0, .long 0, .ref (y + 5), .int 0, .int 0, .long 0, .long 0, .long 0, .long 0, .ref (y + 6), .ref (y + 7), .int 0, .ref (y + 8), .int 0, .ref (y + 9), .ref (y + 10), .int 0, .ref (y + 11), .ref (y + 12), .ref (y + 13), .ref (y + 14), .ref (y + 15), .ref (y + 16), .int 0, .long (-1), .ref (y + 17), .ref (y + 18), .ref (y + 19), .ref (y + 20), .ref (y + 21), .ref (y + 22), .int 0, .ref (y + 23), .ref (y + 24), .int 0, .ref (y + 25), .int 0, .int 0, .int 0, .int (-1), .int 0, .int 0, .int 0, .long 0]) := fset_at hΦ1
  refine z_aload_n B dX12_estimate_5 rfl 0 rfl ?_
  refine z_aload_n B dX12_estimate_6 rfl 0 rfl ?_
  refine z_iload_n B dX12_estimate_7 rfl 1 rfl ?_
  refine z_callV (As := [.int a]) (rest := [.ref y]) B (m_isKey_x G l Φ1 sz y a h_1 hp) (cwV 1 B.1.2.2.2.2 gX12_estimate_X12_isKey rfl rfl rfl (by decide +kernel) ⟨Nat.le_of_ble_eq_true rfl, Nat.le_of_ble_eq_true rfl⟩) h_1 rfl rfl rfl rfl (Nat.le_of_ble_eq_true rfl) dX12_estimate_8 ⟨Nat.le_of_ble_eq_true rfl, Nat.le_of_ble_eq_true rfl⟩ (fun v1 Φ2 sz1 st1 hp1 hs1 => ?_)
  obtain ⟨rfl, hq1, fr1⟩ := hp1
  replace hq1 : sz1 = sz := hq1
  subst sz1
  replace hs1 : st1 = [.int 0, .ref y] := hs1
  subst st1
  refine z_if_ne (tgt := 18) B dX12_estimate_11 rfl (fun h9 => absurd (by decide) h9) (fun c_1 => ?_)
  refine z_iconst (v := 1) B dX12_estimate_14 rfl ?_
  refine z_goto (tgt := 19) B dX12_estimate_15 rfl ?_
  refine z_iconst (v := 1) B dX12_estimate_19 rfl ?_
  have h_2 : Φ2 y = some (o_ 14 [.int 0, .ref (y + 1), .ref (y + 2), .int 0, .int 1, .int 1, .int 0, .int 0, .ref (y + 3), .ref (y + 4), .int 0, .long 0, .ref (y + 5), .int 0, .int 0, .long 0, .long 0, .long 0, .long 0, .ref (y + 6), .ref (y + 7), .int 0, .ref (y + 8), .int 0, .ref (y + 9), .ref (y + 10), .int 0, .ref (y + 11), .ref (y + 12), .ref (y + 13), .ref (y + 14), .ref (y + 15), .ref (y + 16), .int 0, .long (-1), .ref (y + 17), .ref (y + 18), .ref (y + 19), .ref (y + 20), .ref (y + 21), .ref (y + 22), .int 0, .ref (y + 23), .ref (y + 24), .int 0, .ref (y + 25), .int 0, .int 0, .int 0, .int (-1), .int 0, .int 0, .int 0, .long 0]) := ((fr1 y).trans h_1)
  refine z_callV (As := [.int 1, .int 1]) (rest := []) B (c_X12_throwsIf_1 G l Φ2 sz y 0 0 1 1 0 0 0 0 0 0 0 0 0 0 0 0 0 0 (-1) 0 0 0 0 0 (-1) 0 0 0 0 1 h_2 hna) (cwV 2 B.1.2.2.2.2 gX12_estimate_X12_throwsIf rfl rfl rfl (by decide +kernel) ⟨Nat.le_of_ble_eq_true rfl, Nat.le_of_ble_eq_true rfl⟩) h_2 rfl rfl rfl rfl (Nat.le_of_ble_eq_true rfl) dX12_estimate_20 ⟨Nat.le_of_ble_eq_true rfl, Nat.le_of_ble_eq_true rfl⟩ (fun v2 Φ3 sz2 st2 hp2 hs2 => ?_)
  obtain ⟨rfl, hq2, fr2, h_3⟩ := hp2
  replace hq2 : sz2 = sz := hq2
  subst sz2
  replace hs2 : st2 = [.int 1] := hs2
  subst st2
  have h_4 : Φ3 y = some (o_ 14 [.int 1, .ref (y + 1), .ref (y + 2), .int 0, .int 1, .int 1, .int 0, .int 0, .ref (y + 3), .ref (y + 4), .int 0, .long 0, .ref (y + 5), .int 0, .int 0, .long 0, .long 0, .long 0, .long 0, .ref (y + 6), .ref (y + 7), .int 0, .ref (y + 8), .int 0, .ref (y + 9), .ref (y + 10), .int 0, .ref (y + 11), .ref (y + 12), .ref (y + 13), .ref (y + 14), .ref (y + 15), .ref (y + 16), .int 0, .long (-1), .ref (y + 17), .ref (y + 18), .ref (y + 19), .ref (y + 20), .ref (y + 21), .ref (y + 22), .int 0, .ref (y + 23), .ref (y + 24), .int 0, .ref (y + 25), .int 0, .int 0, .int 0, .int (-1), .int 0, .int 0, .int 0, .long 0]) := h_3
  refine z_if_ne (tgt := 46) B dX12_estimate_23 rfl (fun c_2 => ?_) (fun h9 => absurd h9 (by decide))
  refine z_lconst (v := 0) B dX12_estimate_46 rfl ?_
  refine z_goto (tgt := 60) B dX12_estimate_47 rfl ?_
  exact z_ret_l B dX12_estimate_60 ⟨rfl, ⟨_, h_4, rfl⟩, fun b9 h9 => ((fr2 b9 (Nat.ne_of_gt (Nat.lt_of_lt_of_le (lt_off (x := y) (i := 0) (j := 26) rfl) h9))).trans ((fr1 b9).trans ((fset_fr hΦ1 (Nat.ne_of_gt (Nat.lt_of_lt_of_le (lt_off (x := y) (i := 0) (j := 26) rfl) h9))).trans rfl)))⟩

set_option maxHeartbeats 4000000 in
set_option maxRecDepth 100000 in
theorem m_X12_lower_x (G : EnvG) (l : Launch) (Φ : Hm) (sz : Nat) (y : Nat) (a : Int32) (b : Int32) (hc0_ : Φ y = some (o_ 14 [.int 0, .ref (y + 1), .ref (y + 2), .int 0, .int 1, .int 1, .int 0, .int 0, .ref (y + 3), .ref (y + 4), .int 0, .long 0, .ref (y + 5), .int 0, .int 0, .long 0, .long 0, .long 0, .long 0, .ref (y + 6), .ref (y + 7), .int 0, .ref (y + 8), .int 0, .ref (y + 9), .ref (y + 10), .int 0, .ref (y + 11), .ref (y + 12), .ref (y + 13), .ref (y + 14), .ref (y + 15), .ref (y + 16), .int 0, .long (-1), .ref (y + 17), .ref (y + 18), .ref (y + 19), .ref (y + 20), .ref (y + 21), .ref (y + 22), .int 0, .ref (y + 23), .ref (y + 24), .int 0, .ref (y + 25), .int 0, .int 0, .int 0, .int (-1), .int 0, .int 0, .int 0, .long 0])) (hna : G.2.2.2 ≤ y) (hp : ¬ inP a.toInt64 0 (-1)) : Ct G l yX12_lower wsX12_lower ({ frames := 2, cells := 0, slots := 0, locals := 46 }) 0 0 [.ref y, .int a, .int b] Φ sz (fun v Φ1 sz1 => v = some (.double FP.dconst0) ∧ (∃ fs : List Value, Φ1 y = some (o_ 14 fs) ∧ fs[0]? = some (.int 1)) ∧ ∀ b9 : Nat, y + 26 ≤ b9 → Φ1 b9 = Φ b9) := by
  refine Ct.of (cc := cX12_lower) (maxL := 3) (ret := (some .double)) (by decide) rfl (Nat.le_of_ble_eq_true rfl) ?_
  intro p9 e9 s9 m9 w9 t9 k9 B
  show Z p9 l e9 _ s9 m9 _ w9 t9 k9 _ G 3 0 [(0, .ref y), (1, .int a), (2, .int b)] [] Φ sz 0 0
  refine z_aload_n B dX12_lower_0 rfl 0 rfl ?_
  refine z_iconst (v := 0) B dX12_lower_1 rfl ?_
  refine z_put (ref := "FlowExporterModel") (C := RX12) (T := TX12) (N := 54) (ci := 14) (v := .int 0) B (by decide +kernel) tyX12 tyX12_ok nmX12 rfl 0 (by decide) (by decide +kernel) rfl (Or.inl rfl) hc0_ hna rfl rfl (Nat.le_of_ble_eq_true rfl) dX12_lower_2 (fun Φ1 hΦ1 => ?_)
  have h_1 : Φ1 y = some (o_ 14 [.int 0, .ref (y + 1), .ref (y + 2), .int 0, .int 1, .int 1, .int 0, .int 0, .ref (y + 3), .ref (y + 4), .int 0, .long 0, .ref (y + 5), .int 0, .int 0, .long 0, .long 0, .long 0, .long 0, .ref (y + 6), .ref (y + 7), .int 0, .ref (y + 8), .int 0, .ref (y + 9), .ref (y + 10), .int 0, .ref (y + 11), .ref (y + 12), .ref (y + 13), .ref (y + 14), .ref (y + 15), .ref (y + 16), .int 0, .long (-1), .ref (y + 17), .ref (y + 18), .ref (y + 19), .ref (y + 20), .ref (y + 21), .ref (y + 22), .int 0, .ref (y + 23), .ref (y + 24), .int 0, .ref (y + 25), .int 0, .int 0, .int 0, .int (-1), .int 0, .int 0, .int 0, .long 0]) := fset_at hΦ1
  refine z_aload_n B dX12_lower_5 rfl 0 rfl ?_
  refine z_aload_n B dX12_lower_6 rfl 0 rfl ?_
  refine z_iload_n B dX12_lower_7 rfl 1 rfl ?_
  refine z_callV (As := [.int a]) (rest := [.ref y]) B (m_isKey_x G l Φ1 sz y a h_1 hp) (cwV 1 B.1.2.2.2.2 gX12_lower_X12_isKey rfl rfl rfl (by decide +kernel) ⟨Nat.le_of_ble_eq_true rfl, Nat.le_of_ble_eq_true rfl⟩) h_1 rfl rfl rfl rfl (Nat.le_of_ble_eq_true rfl) dX12_lower_8 ⟨Nat.le_of_ble_eq_true rfl, Nat.le_of_ble_eq_true rfl⟩ (fun v1 Φ2 sz1 st1 hp1 hs1 => ?_)
  obtain ⟨rfl, hq1, fr1⟩ := hp1
  replace hq1 : sz1 = sz := hq1
  subst sz1
  replace hs1 : st1 = [.int 0, .ref y] := hs1
  subst st1
  refine z_if_ne (tgt := 18) B dX12_lower_11 rfl (fun h9 => absurd (by decide) h9) (fun c_1 => ?_)
  refine z_iconst (v := 1) B dX12_lower_14 rfl ?_
  refine z_goto (tgt := 19) B dX12_lower_15 rfl ?_
  refine z_iconst (v := 1) B dX12_lower_19 rfl ?_
  have h_2 : Φ2 y = some (o_ 14 [.int 0, .ref (y + 1), .ref (y + 2), .int 0, .int 1, .int 1, .int 0, .int 0, .ref (y + 3), .ref (y + 4), .int 0, .long 0, .ref (y + 5), .int 0, .int 0, .long 0, .long 0, .long 0, .long 0, .ref (y + 6), .ref (y + 7), .int 0, .ref (y + 8), .int 0, .ref (y + 9), .ref (y + 10), .int 0, .ref (y + 11), .ref (y + 12), .ref (y + 13), .ref (y + 14), .ref (y + 15), .ref (y + 16), .int 0, .long (-1), .ref (y + 17), .ref (y + 18), .ref (y + 19), .ref (y + 20), .ref (y + 21), .ref (y + 22), .int 0, .ref (y + 23), .ref (y + 24), .int 0, .ref (y + 25), .int 0, .int 0, .int 0, .int (-1), .int 0, .int 0, .int 0, .long 0]) := ((fr1 y).trans h_1)
  refine z_callV (As := [.int 1, .int 1]) (rest := []) B (c_X12_throwsIf_1 G l Φ2 sz y 0 0 1 1 0 0 0 0 0 0 0 0 0 0 0 0 0 0 (-1) 0 0 0 0 0 (-1) 0 0 0 0 1 h_2 hna) (cwV 2 B.1.2.2.2.2 gX12_lower_X12_throwsIf rfl rfl rfl (by decide +kernel) ⟨Nat.le_of_ble_eq_true rfl, Nat.le_of_ble_eq_true rfl⟩) h_2 rfl rfl rfl rfl (Nat.le_of_ble_eq_true rfl) dX12_lower_20 ⟨Nat.le_of_ble_eq_true rfl, Nat.le_of_ble_eq_true rfl⟩ (fun v2 Φ3 sz2 st2 hp2 hs2 => ?_)
  obtain ⟨rfl, hq2, fr2, h_3⟩ := hp2
  replace hq2 : sz2 = sz := hq2
  subst sz2
  replace hs2 : st2 = [.int 1] := hs2
  subst st2
  have h_4 : Φ3 y = some (o_ 14 [.int 1, .ref (y + 1), .ref (y + 2), .int 0, .int 1, .int 1, .int 0, .int 0, .ref (y + 3), .ref (y + 4), .int 0, .long 0, .ref (y + 5), .int 0, .int 0, .long 0, .long 0, .long 0, .long 0, .ref (y + 6), .ref (y + 7), .int 0, .ref (y + 8), .int 0, .ref (y + 9), .ref (y + 10), .int 0, .ref (y + 11), .ref (y + 12), .ref (y + 13), .ref (y + 14), .ref (y + 15), .ref (y + 16), .int 0, .long (-1), .ref (y + 17), .ref (y + 18), .ref (y + 19), .ref (y + 20), .ref (y + 21), .ref (y + 22), .int 0, .ref (y + 23), .ref (y + 24), .int 0, .ref (y + 25), .int 0, .int 0, .int 0, .int (-1), .int 0, .int 0, .int 0, .long 0]) := h_3
  refine z_if_ne (tgt := 46) B dX12_lower_23 rfl (fun c_2 => ?_) (fun h9 => absurd h9 (by decide))
  refine z_dconst0 B dX12_lower_46 ?_
  refine z_goto (tgt := 56) B dX12_lower_47 rfl ?_
  exact z_ret_d B dX12_lower_56 ⟨rfl, ⟨_, h_4, rfl⟩, fun b9 h9 => ((fr2 b9 (Nat.ne_of_gt (Nat.lt_of_lt_of_le (lt_off (x := y) (i := 0) (j := 26) rfl) h9))).trans ((fr1 b9).trans ((fset_fr hΦ1 (Nat.ne_of_gt (Nat.lt_of_lt_of_le (lt_off (x := y) (i := 0) (j := 26) rfl) h9))).trans rfl)))⟩

set_option maxHeartbeats 4000000 in
set_option maxRecDepth 100000 in
theorem m_X12_upper_x (G : EnvG) (l : Launch) (Φ : Hm) (sz : Nat) (y : Nat) (a : Int32) (b : Int32) (hc0_ : Φ y = some (o_ 14 [.int 0, .ref (y + 1), .ref (y + 2), .int 0, .int 1, .int 1, .int 0, .int 0, .ref (y + 3), .ref (y + 4), .int 0, .long 0, .ref (y + 5), .int 0, .int 0, .long 0, .long 0, .long 0, .long 0, .ref (y + 6), .ref (y + 7), .int 0, .ref (y + 8), .int 0, .ref (y + 9), .ref (y + 10), .int 0, .ref (y + 11), .ref (y + 12), .ref (y + 13), .ref (y + 14), .ref (y + 15), .ref (y + 16), .int 0, .long (-1), .ref (y + 17), .ref (y + 18), .ref (y + 19), .ref (y + 20), .ref (y + 21), .ref (y + 22), .int 0, .ref (y + 23), .ref (y + 24), .int 0, .ref (y + 25), .int 0, .int 0, .int 0, .int (-1), .int 0, .int 0, .int 0, .long 0])) (hna : G.2.2.2 ≤ y) (hp : ¬ inP a.toInt64 0 (-1)) : Ct G l yX12_upper wsX12_upper ({ frames := 2, cells := 0, slots := 0, locals := 46 }) 0 0 [.ref y, .int a, .int b] Φ sz (fun v Φ1 sz1 => v = some (.double FP.dconst0) ∧ (∃ fs : List Value, Φ1 y = some (o_ 14 fs) ∧ fs[0]? = some (.int 1)) ∧ ∀ b9 : Nat, y + 26 ≤ b9 → Φ1 b9 = Φ b9) := by
  refine Ct.of (cc := cX12_upper) (maxL := 3) (ret := (some .double)) (by decide) rfl (Nat.le_of_ble_eq_true rfl) ?_
  intro p9 e9 s9 m9 w9 t9 k9 B
  show Z p9 l e9 _ s9 m9 _ w9 t9 k9 _ G 3 0 [(0, .ref y), (1, .int a), (2, .int b)] [] Φ sz 0 0
  refine z_aload_n B dX12_upper_0 rfl 0 rfl ?_
  refine z_iconst (v := 0) B dX12_upper_1 rfl ?_
  refine z_put (ref := "FlowExporterModel") (C := RX12) (T := TX12) (N := 54) (ci := 14) (v := .int 0) B (by decide +kernel) tyX12 tyX12_ok nmX12 rfl 0 (by decide) (by decide +kernel) rfl (Or.inl rfl) hc0_ hna rfl rfl (Nat.le_of_ble_eq_true rfl) dX12_upper_2 (fun Φ1 hΦ1 => ?_)
  have h_1 : Φ1 y = some (o_ 14 [.int 0, .ref (y + 1), .ref (y + 2), .int 0, .int 1, .int 1, .int 0, .int 0, .ref (y + 3), .ref (y + 4), .int 0, .long 0, .ref (y + 5), .int 0, .int 0, .long 0, .long 0, .long 0, .long 0, .ref (y + 6), .ref (y + 7), .int 0, .ref (y + 8), .int 0, .ref (y + 9), .ref (y + 10), .int 0, .ref (y + 11), .ref (y + 12), .ref (y + 13), .ref (y + 14), .ref (y + 15), .ref (y + 16), .int 0, .long (-1), .ref (y + 17), .ref (y + 18), .ref (y + 19), .ref (y + 20), .ref (y + 21), .ref (y + 22), .int 0, .ref (y + 23), .ref (y + 24), .int 0, .ref (y + 25), .int 0, .int 0, .int 0, .int (-1), .int 0, .int 0, .int 0, .long 0]) := fset_at hΦ1
  refine z_aload_n B dX12_upper_5 rfl 0 rfl ?_
  refine z_aload_n B dX12_upper_6 rfl 0 rfl ?_
  refine z_iload_n B dX12_upper_7 rfl 1 rfl ?_
  refine z_callV (As := [.int a]) (rest := [.ref y]) B (m_isKey_x G l Φ1 sz y a h_1 hp) (cwV 1 B.1.2.2.2.2 gX12_upper_X12_isKey rfl rfl rfl (by decide +kernel) ⟨Nat.le_of_ble_eq_true rfl, Nat.le_of_ble_eq_true rfl⟩) h_1 rfl rfl rfl rfl (Nat.le_of_ble_eq_true rfl) dX12_upper_8 ⟨Nat.le_of_ble_eq_true rfl, Nat.le_of_ble_eq_true rfl⟩ (fun v1 Φ2 sz1 st1 hp1 hs1 => ?_)
  obtain ⟨rfl, hq1, fr1⟩ := hp1
  replace hq1 : sz1 = sz := hq1
  subst sz1
  replace hs1 : st1 = [.int 0, .ref y] := hs1
  subst st1
  refine z_if_ne (tgt := 18) B dX12_upper_11 rfl (fun h9 => absurd (by decide) h9) (fun c_1 => ?_)
  refine z_iconst (v := 1) B dX12_upper_14 rfl ?_
  refine z_goto (tgt := 19) B dX12_upper_15 rfl ?_
  refine z_iconst (v := 1) B dX12_upper_19 rfl ?_
  have h_2 : Φ2 y = some (o_ 14 [.int 0, .ref (y + 1), .ref (y + 2), .int 0, .int 1, .int 1, .int 0, .int 0, .ref (y + 3), .ref (y + 4), .int 0, .long 0, .ref (y + 5), .int 0, .int 0, .long 0, .long 0, .long 0, .long 0, .ref (y + 6), .ref (y + 7), .int 0, .ref (y + 8), .int 0, .ref (y + 9), .ref (y + 10), .int 0, .ref (y + 11), .ref (y + 12), .ref (y + 13), .ref (y + 14), .ref (y + 15), .ref (y + 16), .int 0, .long (-1), .ref (y + 17), .ref (y + 18), .ref (y + 19), .ref (y + 20), .ref (y + 21), .ref (y + 22), .int 0, .ref (y + 23), .ref (y + 24), .int 0, .ref (y + 25), .int 0, .int 0, .int 0, .int (-1), .int 0, .int 0, .int 0, .long 0]) := ((fr1 y).trans h_1)
  refine z_callV (As := [.int 1, .int 1]) (rest := []) B (c_X12_throwsIf_1 G l Φ2 sz y 0 0 1 1 0 0 0 0 0 0 0 0 0 0 0 0 0 0 (-1) 0 0 0 0 0 (-1) 0 0 0 0 1 h_2 hna) (cwV 2 B.1.2.2.2.2 gX12_upper_X12_throwsIf rfl rfl rfl (by decide +kernel) ⟨Nat.le_of_ble_eq_true rfl, Nat.le_of_ble_eq_true rfl⟩) h_2 rfl rfl rfl rfl (Nat.le_of_ble_eq_true rfl) dX12_upper_20 ⟨Nat.le_of_ble_eq_true rfl, Nat.le_of_ble_eq_true rfl⟩ (fun v2 Φ3 sz2 st2 hp2 hs2 => ?_)
  obtain ⟨rfl, hq2, fr2, h_3⟩ := hp2
  replace hq2 : sz2 = sz := hq2
  subst sz2
  replace hs2 : st2 = [.int 1] := hs2
  subst st2
  have h_4 : Φ3 y = some (o_ 14 [.int 1, .ref (y + 1), .ref (y + 2), .int 0, .int 1, .int 1, .int 0, .int 0, .ref (y + 3), .ref (y + 4), .int 0, .long 0, .ref (y + 5), .int 0, .int 0, .long 0, .long 0, .long 0, .long 0, .ref (y + 6), .ref (y + 7), .int 0, .ref (y + 8), .int 0, .ref (y + 9), .ref (y + 10), .int 0, .ref (y + 11), .ref (y + 12), .ref (y + 13), .ref (y + 14), .ref (y + 15), .ref (y + 16), .int 0, .long (-1), .ref (y + 17), .ref (y + 18), .ref (y + 19), .ref (y + 20), .ref (y + 21), .ref (y + 22), .int 0, .ref (y + 23), .ref (y + 24), .int 0, .ref (y + 25), .int 0, .int 0, .int 0, .int (-1), .int 0, .int 0, .int 0, .long 0]) := h_3
  refine z_if_ne (tgt := 46) B dX12_upper_23 rfl (fun c_2 => ?_) (fun h9 => absurd h9 (by decide))
  refine z_dconst0 B dX12_upper_46 ?_
  refine z_goto (tgt := 56) B dX12_upper_47 rfl ?_
  exact z_ret_d B dX12_upper_56 ⟨rfl, ⟨_, h_4, rfl⟩, fun b9 h9 => ((fr2 b9 (Nat.ne_of_gt (Nat.lt_of_lt_of_le (lt_off (x := y) (i := 0) (j := 26) rfl) h9))).trans ((fr1 b9).trans ((fset_fr hΦ1 (Nat.ne_of_gt (Nat.lt_of_lt_of_le (lt_off (x := y) (i := 0) (j := 26) rfl) h9))).trans rfl)))⟩

set_option maxHeartbeats 4000000 in
set_option maxRecDepth 100000 in
theorem m_X12_cached_x (G : EnvG) (l : Launch) (Φ : Hm) (sz : Nat) (y : Nat) (a : Int32) (b : Int32) (hc0_ : Φ y = some (o_ 14 [.int 0, .ref (y + 1), .ref (y + 2), .int 0, .int 1, .int 1, .int 0, .int 0, .ref (y + 3), .ref (y + 4), .int 0, .long 0, .ref (y + 5), .int 0, .int 0, .long 0, .long 0, .long 0, .long 0, .ref (y + 6), .ref (y + 7), .int 0, .ref (y + 8), .int 0, .ref (y + 9), .ref (y + 10), .int 0, .ref (y + 11), .ref (y + 12), .ref (y + 13), .ref (y + 14), .ref (y + 15), .ref (y + 16), .int 0, .long (-1), .ref (y + 17), .ref (y + 18), .ref (y + 19), .ref (y + 20), .ref (y + 21), .ref (y + 22), .int 0, .ref (y + 23), .ref (y + 24), .int 0, .ref (y + 25), .int 0, .int 0, .int 0, .int (-1), .int 0, .int 0, .int 0, .long 0])) (hna : G.2.2.2 ≤ y) (hp : ¬ inP a.toInt64 0 (-1)) : Ct G l yX12_cached wsX12_cached ({ frames := 1, cells := 0, slots := 0, locals := 25 }) 0 0 [.ref y, .int a, .int b] Φ sz (fun v Φ1 sz1 => v = some (.long 0) ∧ (∃ fs : List Value, Φ1 y = some (o_ 14 fs) ∧ fs[0]? = some (.int 1)) ∧ ∀ b9 : Nat, y + 26 ≤ b9 → Φ1 b9 = Φ b9) := by
  refine Ct.of (cc := cX12_cached) (maxL := 3) (ret := (some .long)) (by decide) rfl (Nat.le_of_ble_eq_true rfl) ?_
  intro p9 e9 s9 m9 w9 t9 k9 B
  show Z p9 l e9 _ s9 m9 _ w9 t9 k9 _ G 3 0 [(0, .ref y), (1, .int a), (2, .int b)] [] Φ sz 0 0
  refine z_aload_n B dX12_cached_0 rfl 0 rfl ?_
  refine z_iconst (v := 0) B dX12_cached_1 rfl ?_
  refine z_put (ref := "FlowExporterModel") (C := RX12) (T := TX12) (N := 54) (ci := 14) (v := .int 0) B (by decide +kernel) tyX12 tyX12_ok nmX12 rfl 0 (by decide) (by decide +kernel) rfl (Or.inl rfl) hc0_ hna rfl rfl (Nat.le_of_ble_eq_true rfl) dX12_cached_2 (fun Φ1 hΦ1 => ?_)
  have h_1 : Φ1 y = some (o_ 14 [.int 0, .ref (y + 1), .ref (y + 2), .int 0, .int 1, .int 1, .int 0, .int 0, .ref (y + 3), .ref (y + 4), .int 0, .long 0, .ref (y + 5), .int 0, .int 0, .long 0, .long 0, .long 0, .long 0, .ref (y + 6), .ref (y + 7), .int 0, .ref (y + 8), .int 0, .ref (y + 9), .ref (y + 10), .int 0, .ref (y + 11), .ref (y + 12), .ref (y + 13), .ref (y + 14), .ref (y + 15), .ref (y + 16), .int 0, .long (-1), .ref (y + 17), .ref (y + 18), .ref (y + 19), .ref (y + 20), .ref (y + 21), .ref (y + 22), .int 0, .ref (y + 23), .ref (y + 24), .int 0, .ref (y + 25), .int 0, .int 0, .int 0, .int (-1), .int 0, .int 0, .int 0, .long 0]) := fset_at hΦ1
  refine z_aload_n B dX12_cached_5 rfl 0 rfl ?_
  refine z_iload_n B dX12_cached_6 rfl 1 rfl ?_
  refine z_i2l (v := a.toInt64) B dX12_cached_7 rfl ?_
  refine z_lconst (v := 0) B dX12_cached_8 rfl ?_
  refine z_aload_n B dX12_cached_9 rfl 0 rfl ?_
  refine z_get (ref := "FlowExporterModel") (C := RX12) (T := TX12) (N := 54) (ci := 14) (v := .int 0) B (by decide +kernel) rfl 13 (by decide) (by decide +kernel) rfl h_1 rfl dX12_cached_10 ?_
  refine z_iconst (v := 1) B dX12_cached_13 rfl ?_
  refine z_isub B dX12_cached_14 ?_
  refine z_top (st1 := [.int (-1), .long 0, .long a.toInt64, .ref y]) (congrArg (fun w9 : Int32 => ([.int w9, .long 0, .long a.toInt64, .ref y] : List Value)) (show (0 - 1 : Int32) = (-1) by decide +kernel)) ?_
  refine z_i2l (v := (-1)) B dX12_cached_15 (by decide +kernel) ?_
  refine z_callS (As := [.long a.toInt64, .long 0, .long (-1)]) (rest := [.ref y]) B (c_X12_inRange_0 G l Φ1 sz a.toInt64 0 (-1) hp) (va_cwS 3 B.1.2.2.2.2 gX12_cached_X12_inRange rfl rfl rfl (by decide +kernel) ⟨Nat.le_of_ble_eq_true rfl, Nat.le_of_ble_eq_true rfl⟩) rfl rfl (Nat.le_of_ble_eq_true rfl) dX12_cached_16 ⟨Nat.le_of_ble_eq_true rfl, Nat.le_of_ble_eq_true rfl⟩ (fun v1 Φ2 sz1 st1 hp1 hs1 => ?_)
  obtain ⟨rfl, hq1, fr1⟩ := hp1
  replace hq1 : sz1 = sz := hq1
  subst sz1
  replace hs1 : st1 = [.int 0, .ref y] := hs1
  subst st1
  refine z_if_ne (tgt := 26) B dX12_cached_19 rfl (fun h9 => absurd (by decide) h9) (fun c_1 => ?_)
  refine z_iconst (v := 1) B dX12_cached_22 rfl ?_
  refine z_goto (tgt := 27) B dX12_cached_23 rfl ?_
  refine z_iconst (v := 1) B dX12_cached_27 rfl ?_
  have h_2 : Φ2 y = some (o_ 14 [.int 0, .ref (y + 1), .ref (y + 2), .int 0, .int 1, .int 1, .int 0, .int 0, .ref (y + 3), .ref (y + 4), .int 0, .long 0, .ref (y + 5), .int 0, .int 0, .long 0, .long 0, .long 0, .long 0, .ref (y + 6), .ref (y + 7), .int 0, .ref (y + 8), .int 0, .ref (y + 9), .ref (y + 10), .int 0, .ref (y + 11), .ref (y + 12), .ref (y + 13), .ref (y + 14), .ref (y + 15), .ref (y + 16), .int 0, .long (-1), .ref (y + 17), .ref (y + 18), .ref (y + 19), .ref (y + 20), .ref (y + 21), .ref (y + 22), .int 0, .ref (y + 23), .ref (y + 24), .int 0, .ref (y + 25), .int 0, .int 0, .int 0, .int (-1), .int 0, .int 0, .int 0, .long 0]) := ((fr1 y).trans h_1)
  refine z_callV (As := [.int 1, .int 1]) (rest := []) B (c_X12_throwsIf_1 G l Φ2 sz y 0 0 1 1 0 0 0 0 0 0 0 0 0 0 0 0 0 0 (-1) 0 0 0 0 0 (-1) 0 0 0 0 1 h_2 hna) (cwV 2 B.1.2.2.2.2 gX12_cached_X12_throwsIf rfl rfl rfl (by decide +kernel) ⟨Nat.le_of_ble_eq_true rfl, Nat.le_of_ble_eq_true rfl⟩) h_2 rfl rfl rfl rfl (Nat.le_of_ble_eq_true rfl) dX12_cached_28 ⟨Nat.le_of_ble_eq_true rfl, Nat.le_of_ble_eq_true rfl⟩ (fun v2 Φ3 sz2 st2 hp2 hs2 => ?_)
  obtain ⟨rfl, hq2, fr2, h_3⟩ := hp2
  replace hq2 : sz2 = sz := hq2
  subst sz2
  replace hs2 : st2 = [.int 1] := hs2
  subst st2
  have h_4 : Φ3 y = some (o_ 14 [.int 1, .ref (y + 1), .ref (y + 2), .int 0, .int 1, .int 1, .int 0, .int 0, .ref (y + 3), .ref (y + 4), .int 0, .long 0, .ref (y + 5), .int 0, .int 0, .long 0, .long 0, .long 0, .long 0, .ref (y + 6), .ref (y + 7), .int 0, .ref (y + 8), .int 0, .ref (y + 9), .ref (y + 10), .int 0, .ref (y + 11), .ref (y + 12), .ref (y + 13), .ref (y + 14), .ref (y + 15), .ref (y + 16), .int 0, .long (-1), .ref (y + 17), .ref (y + 18), .ref (y + 19), .ref (y + 20), .ref (y + 21), .ref (y + 22), .int 0, .ref (y + 23), .ref (y + 24), .int 0, .ref (y + 25), .int 0, .int 0, .int 0, .int (-1), .int 0, .int 0, .int 0, .long 0]) := h_3
  refine z_if_ne (tgt := 59) B dX12_cached_31 rfl (fun c_2 => ?_) (fun h9 => absurd h9 (by decide))
  refine z_lconst (v := 0) B dX12_cached_59 rfl ?_
  refine z_goto (tgt := 74) B dX12_cached_60 rfl ?_
  exact z_ret_l B dX12_cached_74 ⟨rfl, ⟨_, h_4, rfl⟩, fun b9 h9 => ((fr2 b9 (Nat.ne_of_gt (Nat.lt_of_lt_of_le (lt_off (x := y) (i := 0) (j := 26) rfl) h9))).trans ((fr1 b9).trans ((fset_fr hΦ1 (Nat.ne_of_gt (Nat.lt_of_lt_of_le (lt_off (x := y) (i := 0) (j := 26) rfl) h9))).trans rfl)))⟩

set_option maxHeartbeats 4000000 in
set_option maxRecDepth 100000 in
theorem m_X12_counter_x (G : EnvG) (l : Launch) (Φ : Hm) (sz : Nat) (y : Nat) (a : Int32) (hc0_ : Φ y = some (o_ 14 [.int 0, .ref (y + 1), .ref (y + 2), .int 0, .int 1, .int 1, .int 0, .int 0, .ref (y + 3), .ref (y + 4), .int 0, .long 0, .ref (y + 5), .int 0, .int 0, .long 0, .long 0, .long 0, .long 0, .ref (y + 6), .ref (y + 7), .int 0, .ref (y + 8), .int 0, .ref (y + 9), .ref (y + 10), .int 0, .ref (y + 11), .ref (y + 12), .ref (y + 13), .ref (y + 14), .ref (y + 15), .ref (y + 16), .int 0, .long (-1), .ref (y + 17), .ref (y + 18), .ref (y + 19), .ref (y + 20), .ref (y + 21), .ref (y + 22), .int 0, .ref (y + 23), .ref (y + 24), .int 0, .ref (y + 25), .int 0, .int 0, .int 0, .int (-1), .int 0, .int 0, .int 0, .long 0])) (hna : G.2.2.2 ≤ y) (hp : ¬ inP a.toInt64 0 8) : Ct G l yX12_counter wsX12_counter ({ frames := 1, cells := 0, slots := 0, locals := 25 }) 0 0 [.ref y, .int a] Φ sz (fun v Φ1 sz1 => v = some (.long 0) ∧ (∃ fs : List Value, Φ1 y = some (o_ 14 fs) ∧ fs[0]? = some (.int 1)) ∧ ∀ b9 : Nat, y + 26 ≤ b9 → Φ1 b9 = Φ b9) := by
  refine Ct.of (cc := cX12_counter) (maxL := 2) (ret := (some .long)) (by decide) rfl (Nat.le_of_ble_eq_true rfl) ?_
  intro p9 e9 s9 m9 w9 t9 k9 B
  show Z p9 l e9 _ s9 m9 _ w9 t9 k9 _ G 2 0 [(0, .ref y), (1, .int a)] [] Φ sz 0 0
  refine z_aload_n B dX12_counter_0 rfl 0 rfl ?_
  refine z_iconst (v := 0) B dX12_counter_1 rfl ?_
  refine z_put (ref := "FlowExporterModel") (C := RX12) (T := TX12) (N := 54) (ci := 14) (v := .int 0) B (by decide +kernel) tyX12 tyX12_ok nmX12 rfl 0 (by decide) (by decide +kernel) rfl (Or.inl rfl) hc0_ hna rfl rfl (Nat.le_of_ble_eq_true rfl) dX12_counter_2 (fun Φ1 hΦ1 => ?_)
  have h_1 : Φ1 y = some (o_ 14 [.int 0, .ref (y + 1), .ref (y + 2), .int 0, .int 1, .int 1, .int 0, .int 0, .ref (y + 3), .ref (y + 4), .int 0, .long 0, .ref (y + 5), .int 0, .int 0, .long 0, .long 0, .long 0, .long 0, .ref (y + 6), .ref (y + 7), .int 0, .ref (y + 8), .int 0, .ref (y + 9), .ref (y + 10), .int 0, .ref (y + 11), .ref (y + 12), .ref (y + 13), .ref (y + 14), .ref (y + 15), .ref (y + 16), .int 0, .long (-1), .ref (y + 17), .ref (y + 18), .ref (y + 19), .ref (y + 20), .ref (y + 21), .ref (y + 22), .int 0, .ref (y + 23), .ref (y + 24), .int 0, .ref (y + 25), .int 0, .int 0, .int 0, .int (-1), .int 0, .int 0, .int 0, .long 0]) := fset_at hΦ1
  refine z_aload_n B dX12_counter_5 rfl 0 rfl ?_
  refine z_iload_n B dX12_counter_6 rfl 1 rfl ?_
  refine z_i2l (v := a.toInt64) B dX12_counter_7 rfl ?_
  refine z_lconst (v := 0) B dX12_counter_8 rfl ?_
  refine z_ldc2 (v := 8) B (by decide +kernel) dX12_counter_9 ?_
  refine z_callS (As := [.long a.toInt64, .long 0, .long 8]) (rest := [.ref y]) B (c_X12_inRange_0 G l Φ1 sz a.toInt64 0 8 hp) (va_cwS 3 B.1.2.2.2.2 gX12_counter_X12_inRange rfl rfl rfl (by decide +kernel) ⟨Nat.le_of_ble_eq_true rfl, Nat.le_of_ble_eq_true rfl⟩) rfl rfl (Nat.le_of_ble_eq_true rfl) dX12_counter_12 ⟨Nat.le_of_ble_eq_true rfl, Nat.le_of_ble_eq_true rfl⟩ (fun v1 Φ2 sz1 st1 hp1 hs1 => ?_)
  obtain ⟨rfl, hq1, fr1⟩ := hp1
  replace hq1 : sz1 = sz := hq1
  subst sz1
  replace hs1 : st1 = [.int 0, .ref y] := hs1
  subst st1
  refine z_if_ne (tgt := 22) B dX12_counter_15 rfl (fun h9 => absurd (by decide) h9) (fun c_1 => ?_)
  refine z_iconst (v := 1) B dX12_counter_18 rfl ?_
  refine z_goto (tgt := 23) B dX12_counter_19 rfl ?_
  refine z_iconst (v := 1) B dX12_counter_23 rfl ?_
  have h_2 : Φ2 y = some (o_ 14 [.int 0, .ref (y + 1), .ref (y + 2), .int 0, .int 1, .int 1, .int 0, .int 0, .ref (y + 3), .ref (y + 4), .int 0, .long 0, .ref (y + 5), .int 0, .int 0, .long 0, .long 0, .long 0, .long 0, .ref (y + 6), .ref (y + 7), .int 0, .ref (y + 8), .int 0, .ref (y + 9), .ref (y + 10), .int 0, .ref (y + 11), .ref (y + 12), .ref (y + 13), .ref (y + 14), .ref (y + 15), .ref (y + 16), .int 0, .long (-1), .ref (y + 17), .ref (y + 18), .ref (y + 19), .ref (y + 20), .ref (y + 21), .ref (y + 22), .int 0, .ref (y + 23), .ref (y + 24), .int 0, .ref (y + 25), .int 0, .int 0, .int 0, .int (-1), .int 0, .int 0, .int 0, .long 0]) := ((fr1 y).trans h_1)
  refine z_callV (As := [.int 1, .int 1]) (rest := []) B (c_X12_throwsIf_1 G l Φ2 sz y 0 0 1 1 0 0 0 0 0 0 0 0 0 0 0 0 0 0 (-1) 0 0 0 0 0 (-1) 0 0 0 0 1 h_2 hna) (cwV 2 B.1.2.2.2.2 gX12_counter_X12_throwsIf rfl rfl rfl (by decide +kernel) ⟨Nat.le_of_ble_eq_true rfl, Nat.le_of_ble_eq_true rfl⟩) h_2 rfl rfl rfl rfl (Nat.le_of_ble_eq_true rfl) dX12_counter_24 ⟨Nat.le_of_ble_eq_true rfl, Nat.le_of_ble_eq_true rfl⟩ (fun v2 Φ3 sz2 st2 hp2 hs2 => ?_)
  obtain ⟨rfl, hq2, fr2, h_3⟩ := hp2
  replace hq2 : sz2 = sz := hq2
  subst sz2
  replace hs2 : st2 = [.int 1] := hs2
  subst st2
  have h_4 : Φ3 y = some (o_ 14 [.int 1, .ref (y + 1), .ref (y + 2), .int 0, .int 1, .int 1, .int 0, .int 0, .ref (y + 3), .ref (y + 4), .int 0, .long 0, .ref (y + 5), .int 0, .int 0, .long 0, .long 0, .long 0, .long 0, .ref (y + 6), .ref (y + 7), .int 0, .ref (y + 8), .int 0, .ref (y + 9), .ref (y + 10), .int 0, .ref (y + 11), .ref (y + 12), .ref (y + 13), .ref (y + 14), .ref (y + 15), .ref (y + 16), .int 0, .long (-1), .ref (y + 17), .ref (y + 18), .ref (y + 19), .ref (y + 20), .ref (y + 21), .ref (y + 22), .int 0, .ref (y + 23), .ref (y + 24), .int 0, .ref (y + 25), .int 0, .int 0, .int 0, .int (-1), .int 0, .int 0, .int 0, .long 0]) := h_3
  refine z_if_eq (tgt := 34) B dX12_counter_27 rfl (fun h9 => absurd h9 (by decide)) (fun c_2 => ?_)
  refine z_lconst (v := 0) B dX12_counter_30 rfl ?_
  refine z_goto (tgt := 40) B dX12_counter_31 rfl ?_
  exact z_ret_l B dX12_counter_40 ⟨rfl, ⟨_, h_4, rfl⟩, fun b9 h9 => ((fr2 b9 (Nat.ne_of_gt (Nat.lt_of_lt_of_le (lt_off (x := y) (i := 0) (j := 26) rfl) h9))).trans ((fr1 b9).trans ((fset_fr hΦ1 (Nat.ne_of_gt (Nat.lt_of_lt_of_le (lt_off (x := y) (i := 0) (j := 26) rfl) h9))).trans rfl)))⟩

set_option maxHeartbeats 4000000 in
set_option maxRecDepth 100000 in
theorem m_X12_templateAge_x (G : EnvG) (l : Launch) (Φ : Hm) (sz : Nat) (y : Nat) (a : Int32) (hc0_ : Φ y = some (o_ 14 [.int 0, .ref (y + 1), .ref (y + 2), .int 0, .int 1, .int 1, .int 0, .int 0, .ref (y + 3), .ref (y + 4), .int 0, .long 0, .ref (y + 5), .int 0, .int 0, .long 0, .long 0, .long 0, .long 0, .ref (y + 6), .ref (y + 7), .int 0, .ref (y + 8), .int 0, .ref (y + 9), .ref (y + 10), .int 0, .ref (y + 11), .ref (y + 12), .ref (y + 13), .ref (y + 14), .ref (y + 15), .ref (y + 16), .int 0, .long (-1), .ref (y + 17), .ref (y + 18), .ref (y + 19), .ref (y + 20), .ref (y + 21), .ref (y + 22), .int 0, .ref (y + 23), .ref (y + 24), .int 0, .ref (y + 25), .int 0, .int 0, .int 0, .int (-1), .int 0, .int 0, .int 0, .long 0])) (hna : G.2.2.2 ≤ y) (hp : ¬ inP a.toInt64 0 3) : Ct G l yX12_templateAge wsX12_templateAge ({ frames := 1, cells := 0, slots := 0, locals := 25 }) 0 0 [.ref y, .int a] Φ sz (fun v Φ1 sz1 => v = some (.int 0) ∧ (∃ fs : List Value, Φ1 y = some (o_ 14 fs) ∧ fs[0]? = some (.int 1)) ∧ ∀ b9 : Nat, y + 26 ≤ b9 → Φ1 b9 = Φ b9) := by
  refine Ct.of (cc := cX12_templateAge) (maxL := 2) (ret := (some .int)) (by decide) rfl (Nat.le_of_ble_eq_true rfl) ?_
  intro p9 e9 s9 m9 w9 t9 k9 B
  show Z p9 l e9 _ s9 m9 _ w9 t9 k9 _ G 2 0 [(0, .ref y), (1, .int a)] [] Φ sz 0 0
  refine z_aload_n B dX12_templateAge_0 rfl 0 rfl ?_
  refine z_iconst (v := 0) B dX12_templateAge_1 rfl ?_
  refine z_put (ref := "FlowExporterModel") (C := RX12) (T := TX12) (N := 54) (ci := 14) (v := .int 0) B (by decide +kernel) tyX12 tyX12_ok nmX12 rfl 0 (by decide) (by decide +kernel) rfl (Or.inl rfl) hc0_ hna rfl rfl (Nat.le_of_ble_eq_true rfl) dX12_templateAge_2 (fun Φ1 hΦ1 => ?_)
  have h_1 : Φ1 y = some (o_ 14 [.int 0, .ref (y + 1), .ref (y + 2), .int 0, .int 1, .int 1, .int 0, .int 0, .ref (y + 3), .ref (y + 4), .int 0, .long 0, .ref (y + 5), .int 0, .int 0, .long 0, .long 0, .long 0, .long 0, .ref (y + 6), .ref (y + 7), .int 0, .ref (y + 8), .int 0, .ref (y + 9), .ref (y + 10), .int 0, .ref (y + 11), .ref (y + 12), .ref (y + 13), .ref (y + 14), .ref (y + 15), .ref (y + 16), .int 0, .long (-1), .ref (y + 17), .ref (y + 18), .ref (y + 19), .ref (y + 20), .ref (y + 21), .ref (y + 22), .int 0, .ref (y + 23), .ref (y + 24), .int 0, .ref (y + 25), .int 0, .int 0, .int 0, .int (-1), .int 0, .int 0, .int 0, .long 0]) := fset_at hΦ1
  refine z_aload_n B dX12_templateAge_5 rfl 0 rfl ?_
  refine z_iload_n B dX12_templateAge_6 rfl 1 rfl ?_
  refine z_i2l (v := a.toInt64) B dX12_templateAge_7 rfl ?_
  refine z_lconst (v := 0) B dX12_templateAge_8 rfl ?_
  refine z_ldc2 (v := 3) B (by decide +kernel) dX12_templateAge_9 ?_
  refine z_callS (As := [.long a.toInt64, .long 0, .long 3]) (rest := [.ref y]) B (c_X12_inRange_0 G l Φ1 sz a.toInt64 0 3 hp) (va_cwS 3 B.1.2.2.2.2 gX12_templateAge_X12_inRange rfl rfl rfl (by decide +kernel) ⟨Nat.le_of_ble_eq_true rfl, Nat.le_of_ble_eq_true rfl⟩) rfl rfl (Nat.le_of_ble_eq_true rfl) dX12_templateAge_12 ⟨Nat.le_of_ble_eq_true rfl, Nat.le_of_ble_eq_true rfl⟩ (fun v1 Φ2 sz1 st1 hp1 hs1 => ?_)
  obtain ⟨rfl, hq1, fr1⟩ := hp1
  replace hq1 : sz1 = sz := hq1
  subst sz1
  replace hs1 : st1 = [.int 0, .ref y] := hs1
  subst st1
  refine z_if_ne (tgt := 22) B dX12_templateAge_15 rfl (fun h9 => absurd (by decide) h9) (fun c_1 => ?_)
  refine z_iconst (v := 1) B dX12_templateAge_18 rfl ?_
  refine z_goto (tgt := 23) B dX12_templateAge_19 rfl ?_
  refine z_iconst (v := 1) B dX12_templateAge_23 rfl ?_
  have h_2 : Φ2 y = some (o_ 14 [.int 0, .ref (y + 1), .ref (y + 2), .int 0, .int 1, .int 1, .int 0, .int 0, .ref (y + 3), .ref (y + 4), .int 0, .long 0, .ref (y + 5), .int 0, .int 0, .long 0, .long 0, .long 0, .long 0, .ref (y + 6), .ref (y + 7), .int 0, .ref (y + 8), .int 0, .ref (y + 9), .ref (y + 10), .int 0, .ref (y + 11), .ref (y + 12), .ref (y + 13), .ref (y + 14), .ref (y + 15), .ref (y + 16), .int 0, .long (-1), .ref (y + 17), .ref (y + 18), .ref (y + 19), .ref (y + 20), .ref (y + 21), .ref (y + 22), .int 0, .ref (y + 23), .ref (y + 24), .int 0, .ref (y + 25), .int 0, .int 0, .int 0, .int (-1), .int 0, .int 0, .int 0, .long 0]) := ((fr1 y).trans h_1)
  refine z_callV (As := [.int 1, .int 1]) (rest := []) B (c_X12_throwsIf_1 G l Φ2 sz y 0 0 1 1 0 0 0 0 0 0 0 0 0 0 0 0 0 0 (-1) 0 0 0 0 0 (-1) 0 0 0 0 1 h_2 hna) (cwV 2 B.1.2.2.2.2 gX12_templateAge_X12_throwsIf rfl rfl rfl (by decide +kernel) ⟨Nat.le_of_ble_eq_true rfl, Nat.le_of_ble_eq_true rfl⟩) h_2 rfl rfl rfl rfl (Nat.le_of_ble_eq_true rfl) dX12_templateAge_24 ⟨Nat.le_of_ble_eq_true rfl, Nat.le_of_ble_eq_true rfl⟩ (fun v2 Φ3 sz2 st2 hp2 hs2 => ?_)
  obtain ⟨rfl, hq2, fr2, h_3⟩ := hp2
  replace hq2 : sz2 = sz := hq2
  subst sz2
  replace hs2 : st2 = [.int 1] := hs2
  subst st2
  have h_4 : Φ3 y = some (o_ 14 [.int 1, .ref (y + 1), .ref (y + 2), .int 0, .int 1, .int 1, .int 0, .int 0, .ref (y + 3), .ref (y + 4), .int 0, .long 0, .ref (y + 5), .int 0, .int 0, .long 0, .long 0, .long 0, .long 0, .ref (y + 6), .ref (y + 7), .int 0, .ref (y + 8), .int 0, .ref (y + 9), .ref (y + 10), .int 0, .ref (y + 11), .ref (y + 12), .ref (y + 13), .ref (y + 14), .ref (y + 15), .ref (y + 16), .int 0, .long (-1), .ref (y + 17), .ref (y + 18), .ref (y + 19), .ref (y + 20), .ref (y + 21), .ref (y + 22), .int 0, .ref (y + 23), .ref (y + 24), .int 0, .ref (y + 25), .int 0, .int 0, .int 0, .int (-1), .int 0, .int 0, .int 0, .long 0]) := h_3
  refine z_if_eq (tgt := 32) B dX12_templateAge_27 rfl (fun h9 => absurd h9 (by decide)) (fun c_2 => ?_)
  refine z_iconst (v := 0) B dX12_templateAge_30 rfl ?_
  exact z_ret_i B dX12_templateAge_31 ⟨rfl, ⟨_, h_4, rfl⟩, fun b9 h9 => ((fr2 b9 (Nat.ne_of_gt (Nat.lt_of_lt_of_le (lt_off (x := y) (i := 0) (j := 26) rfl) h9))).trans ((fr1 b9).trans ((fset_fr hΦ1 (Nat.ne_of_gt (Nat.lt_of_lt_of_le (lt_off (x := y) (i := 0) (j := 26) rfl) h9))).trans rfl)))⟩

set_option maxHeartbeats 4000000 in
set_option maxRecDepth 100000 in
theorem m_X12_covered_x (G : EnvG) (l : Launch) (Φ : Hm) (sz : Nat) (y : Nat) (w : Int32) (hc0_ : Φ y = some (o_ 14 [.int 0, .ref (y + 1), .ref (y + 2), .int 0, .int 1, .int 1, .int 0, .int 0, .ref (y + 3), .ref (y + 4), .int 0, .long 0, .ref (y + 5), .int 0, .int 0, .long 0, .long 0, .long 0, .long 0, .ref (y + 6), .ref (y + 7), .int 0, .ref (y + 8), .int 0, .ref (y + 9), .ref (y + 10), .int 0, .ref (y + 11), .ref (y + 12), .ref (y + 13), .ref (y + 14), .ref (y + 15), .ref (y + 16), .int 0, .long (-1), .ref (y + 17), .ref (y + 18), .ref (y + 19), .ref (y + 20), .ref (y + 21), .ref (y + 22), .int 0, .ref (y + 23), .ref (y + 24), .int 0, .ref (y + 25), .int 0, .int 0, .int 0, .int (-1), .int 0, .int 0, .int 0, .long 0])) (hna : G.2.2.2 ≤ y) (hp : ¬ inP w.toInt64 0 1) : Ct G l yX12_covered wsX12_covered ({ frames := 2, cells := 0, slots := 0, locals := 45 }) 0 0 [.ref y, .int w] Φ sz (fun v Φ1 sz1 => v = some (.int 0) ∧ (∃ fs : List Value, Φ1 y = some (o_ 14 fs) ∧ fs[0]? = some (.int 1)) ∧ ∀ b9 : Nat, y + 26 ≤ b9 → Φ1 b9 = Φ b9) := by
  refine Ct.of (cc := cX12_covered) (maxL := 6) (ret := (some .int)) (by decide) rfl (Nat.le_of_ble_eq_true rfl) ?_
  intro p9 e9 s9 m9 w9 t9 k9 B
  show Z p9 l e9 _ s9 m9 _ w9 t9 k9 _ G 6 0 [(0, .ref y), (1, .int w)] [] Φ sz 0 0
  refine z_aload_n B dX12_covered_0 rfl 0 rfl ?_
  refine z_iconst (v := 0) B dX12_covered_1 rfl ?_
  refine z_put (ref := "FlowExporterModel") (C := RX12) (T := TX12) (N := 54) (ci := 14) (v := .int 0) B (by decide +kernel) tyX12 tyX12_ok nmX12 rfl 0 (by decide) (by decide +kernel) rfl (Or.inl rfl) hc0_ hna rfl rfl (Nat.le_of_ble_eq_true rfl) dX12_covered_2 (fun Φ1 hΦ1 => ?_)
  have h_1 : Φ1 y = some (o_ 14 [.int 0, .ref (y + 1), .ref (y + 2), .int 0, .int 1, .int 1, .int 0, .int 0, .ref (y + 3), .ref (y + 4), .int 0, .long 0, .ref (y + 5), .int 0, .int 0, .long 0, .long 0, .long 0, .long 0, .ref (y + 6), .ref (y + 7), .int 0, .ref (y + 8), .int 0, .ref (y + 9), .ref (y + 10), .int 0, .ref (y + 11), .ref (y + 12), .ref (y + 13), .ref (y + 14), .ref (y + 15), .ref (y + 16), .int 0, .long (-1), .ref (y + 17), .ref (y + 18), .ref (y + 19), .ref (y + 20), .ref (y + 21), .ref (y + 22), .int 0, .ref (y + 23), .ref (y + 24), .int 0, .ref (y + 25), .int 0, .int 0, .int 0, .int (-1), .int 0, .int 0, .int 0, .long 0]) := fset_at hΦ1
  refine z_aload_n B dX12_covered_5 rfl 0 rfl ?_
  refine z_iload_n B dX12_covered_6 rfl 1 rfl ?_
  refine z_callS (As := [.int w]) (rest := [.ref y]) B (m_isWhat_x G l Φ1 sz y w hp) (va_cwS 1 B.1.2.2.2.2 gX12_covered_X12_isWhat rfl rfl rfl (by decide +kernel) ⟨Nat.le_of_ble_eq_true rfl, Nat.le_of_ble_eq_true rfl⟩) rfl rfl (Nat.le_of_ble_eq_true rfl) dX12_covered_7 ⟨Nat.le_of_ble_eq_true rfl, Nat.le_of_ble_eq_true rfl⟩ (fun v1 Φ2 sz1 st1 hp1 hs1 => ?_)
  obtain ⟨rfl, hq1, fr1⟩ := hp1
  replace hq1 : sz1 = sz := hq1
  subst sz1
  replace hs1 : st1 = [.int 0, .ref y] := hs1
  subst st1
  refine z_if_ne (tgt := 17) B dX12_covered_10 rfl (fun h9 => absurd (by decide) h9) (fun c_1 => ?_)
  refine z_iconst (v := 1) B dX12_covered_13 rfl ?_
  refine z_goto (tgt := 18) B dX12_covered_14 rfl ?_
  refine z_iconst (v := 1) B dX12_covered_18 rfl ?_
  have h_2 : Φ2 y = some (o_ 14 [.int 0, .ref (y + 1), .ref (y + 2), .int 0, .int 1, .int 1, .int 0, .int 0, .ref (y + 3), .ref (y + 4), .int 0, .long 0, .ref (y + 5), .int 0, .int 0, .long 0, .long 0, .long 0, .long 0, .ref (y + 6), .ref (y + 7), .int 0, .ref (y + 8), .int 0, .ref (y + 9), .ref (y + 10), .int 0, .ref (y + 11), .ref (y + 12), .ref (y + 13), .ref (y + 14), .ref (y + 15), .ref (y + 16), .int 0, .long (-1), .ref (y + 17), .ref (y + 18), .ref (y + 19), .ref (y + 20), .ref (y + 21), .ref (y + 22), .int 0, .ref (y + 23), .ref (y + 24), .int 0, .ref (y + 25), .int 0, .int 0, .int 0, .int (-1), .int 0, .int 0, .int 0, .long 0]) := ((fr1 y).trans h_1)
  refine z_callV (As := [.int 1, .int 1]) (rest := []) B (c_X12_throwsIf_1 G l Φ2 sz y 0 0 1 1 0 0 0 0 0 0 0 0 0 0 0 0 0 0 (-1) 0 0 0 0 0 (-1) 0 0 0 0 1 h_2 hna) (cwV 2 B.1.2.2.2.2 gX12_covered_X12_throwsIf rfl rfl rfl (by decide +kernel) ⟨Nat.le_of_ble_eq_true rfl, Nat.le_of_ble_eq_true rfl⟩) h_2 rfl rfl rfl rfl (Nat.le_of_ble_eq_true rfl) dX12_covered_19 ⟨Nat.le_of_ble_eq_true rfl, Nat.le_of_ble_eq_true rfl⟩ (fun v2 Φ3 sz2 st2 hp2 hs2 => ?_)
  obtain ⟨rfl, hq2, fr2, h_3⟩ := hp2
  replace hq2 : sz2 = sz := hq2
  subst sz2
  replace hs2 : st2 = [.int 1] := hs2
  subst st2
  have h_4 : Φ3 y = some (o_ 14 [.int 1, .ref (y + 1), .ref (y + 2), .int 0, .int 1, .int 1, .int 0, .int 0, .ref (y + 3), .ref (y + 4), .int 0, .long 0, .ref (y + 5), .int 0, .int 0, .long 0, .long 0, .long 0, .long 0, .ref (y + 6), .ref (y + 7), .int 0, .ref (y + 8), .int 0, .ref (y + 9), .ref (y + 10), .int 0, .ref (y + 11), .ref (y + 12), .ref (y + 13), .ref (y + 14), .ref (y + 15), .ref (y + 16), .int 0, .long (-1), .ref (y + 17), .ref (y + 18), .ref (y + 19), .ref (y + 20), .ref (y + 21), .ref (y + 22), .int 0, .ref (y + 23), .ref (y + 24), .int 0, .ref (y + 25), .int 0, .int 0, .int 0, .int (-1), .int 0, .int 0, .int 0, .long 0]) := h_3
  refine z_if_eq (tgt := 27) B dX12_covered_22 rfl (fun h9 => absurd h9 (by decide)) (fun c_2 => ?_)
  refine z_iconst (v := 0) B dX12_covered_25 rfl ?_
  exact z_ret_i B dX12_covered_26 ⟨rfl, ⟨_, h_4, rfl⟩, fun b9 h9 => ((fr2 b9 (Nat.ne_of_gt (Nat.lt_of_lt_of_le (lt_off (x := y) (i := 0) (j := 26) rfl) h9))).trans ((fr1 b9).trans ((fset_fr hΦ1 (Nat.ne_of_gt (Nat.lt_of_lt_of_le (lt_off (x := y) (i := 0) (j := 26) rfl) h9))).trans rfl)))⟩

set_option maxHeartbeats 4000000 in
set_option maxRecDepth 100000 in
theorem m_X12_totalEstimate_x (G : EnvG) (l : Launch) (Φ : Hm) (sz : Nat) (y : Nat) (w : Int32) (hc0_ : Φ y = some (o_ 14 [.int 0, .ref (y + 1), .ref (y + 2), .int 0, .int 1, .int 1, .int 0, .int 0, .ref (y + 3), .ref (y + 4), .int 0, .long 0, .ref (y + 5), .int 0, .int 0, .long 0, .long 0, .long 0, .long 0, .ref (y + 6), .ref (y + 7), .int 0, .ref (y + 8), .int 0, .ref (y + 9), .ref (y + 10), .int 0, .ref (y + 11), .ref (y + 12), .ref (y + 13), .ref (y + 14), .ref (y + 15), .ref (y + 16), .int 0, .long (-1), .ref (y + 17), .ref (y + 18), .ref (y + 19), .ref (y + 20), .ref (y + 21), .ref (y + 22), .int 0, .ref (y + 23), .ref (y + 24), .int 0, .ref (y + 25), .int 0, .int 0, .int 0, .int (-1), .int 0, .int 0, .int 0, .long 0])) (hna : G.2.2.2 ≤ y) (hp : ¬ inP w.toInt64 0 1) : Ct G l yX12_totalEstimate wsX12_totalEstimate ({ frames := 2, cells := 0, slots := 0, locals := 45 }) 0 0 [.ref y, .int w] Φ sz (fun v Φ1 sz1 => v = some (.long 0) ∧ (∃ fs : List Value, Φ1 y = some (o_ 14 fs) ∧ fs[0]? = some (.int 1)) ∧ ∀ b9 : Nat, y + 26 ≤ b9 → Φ1 b9 = Φ b9) := by
  refine Ct.of (cc := cX12_totalEstimate) (maxL := 5) (ret := (some .long)) (by decide) rfl (Nat.le_of_ble_eq_true rfl) ?_
  intro p9 e9 s9 m9 w9 t9 k9 B
  show Z p9 l e9 _ s9 m9 _ w9 t9 k9 _ G 5 0 [(0, .ref y), (1, .int w)] [] Φ sz 0 0
  refine z_aload_n B dX12_totalEstimate_0 rfl 0 rfl ?_
  refine z_iconst (v := 0) B dX12_totalEstimate_1 rfl ?_
  refine z_put (ref := "FlowExporterModel") (C := RX12) (T := TX12) (N := 54) (ci := 14) (v := .int 0) B (by decide +kernel) tyX12 tyX12_ok nmX12 rfl 0 (by decide) (by decide +kernel) rfl (Or.inl rfl) hc0_ hna rfl rfl (Nat.le_of_ble_eq_true rfl) dX12_totalEstimate_2 (fun Φ1 hΦ1 => ?_)
  have h_1 : Φ1 y = some (o_ 14 [.int 0, .ref (y + 1), .ref (y + 2), .int 0, .int 1, .int 1, .int 0, .int 0, .ref (y + 3), .ref (y + 4), .int 0, .long 0, .ref (y + 5), .int 0, .int 0, .long 0, .long 0, .long 0, .long 0, .ref (y + 6), .ref (y + 7), .int 0, .ref (y + 8), .int 0, .ref (y + 9), .ref (y + 10), .int 0, .ref (y + 11), .ref (y + 12), .ref (y + 13), .ref (y + 14), .ref (y + 15), .ref (y + 16), .int 0, .long (-1), .ref (y + 17), .ref (y + 18), .ref (y + 19), .ref (y + 20), .ref (y + 21), .ref (y + 22), .int 0, .ref (y + 23), .ref (y + 24), .int 0, .ref (y + 25), .int 0, .int 0, .int 0, .int (-1), .int 0, .int 0, .int 0, .long 0]) := fset_at hΦ1
  refine z_aload_n B dX12_totalEstimate_5 rfl 0 rfl ?_
  refine z_iload_n B dX12_totalEstimate_6 rfl 1 rfl ?_
  refine z_callS (As := [.int w]) (rest := [.ref y]) B (m_isWhat_x G l Φ1 sz y w hp) (va_cwS 1 B.1.2.2.2.2 gX12_totalEstimate_X12_isWhat rfl rfl rfl (by decide +kernel) ⟨Nat.le_of_ble_eq_true rfl, Nat.le_of_ble_eq_true rfl⟩) rfl rfl (Nat.le_of_ble_eq_true rfl) dX12_totalEstimate_7 ⟨Nat.le_of_ble_eq_true rfl, Nat.le_of_ble_eq_true rfl⟩ (fun v1 Φ2 sz1 st1 hp1 hs1 => ?_)
  obtain ⟨rfl, hq1, fr1⟩ := hp1
  replace hq1 : sz1 = sz := hq1
  subst sz1
  replace hs1 : st1 = [.int 0, .ref y] := hs1
  subst st1
  refine z_if_ne (tgt := 17) B dX12_totalEstimate_10 rfl (fun h9 => absurd (by decide) h9) (fun c_1 => ?_)
  refine z_iconst (v := 1) B dX12_totalEstimate_13 rfl ?_
  refine z_goto (tgt := 18) B dX12_totalEstimate_14 rfl ?_
  refine z_iconst (v := 1) B dX12_totalEstimate_18 rfl ?_
  have h_2 : Φ2 y = some (o_ 14 [.int 0, .ref (y + 1), .ref (y + 2), .int 0, .int 1, .int 1, .int 0, .int 0, .ref (y + 3), .ref (y + 4), .int 0, .long 0, .ref (y + 5), .int 0, .int 0, .long 0, .long 0, .long 0, .long 0, .ref (y + 6), .ref (y + 7), .int 0, .ref (y + 8), .int 0, .ref (y + 9), .ref (y + 10), .int 0, .ref (y + 11), .ref (y + 12), .ref (y + 13), .ref (y + 14), .ref (y + 15), .ref (y + 16), .int 0, .long (-1), .ref (y + 17), .ref (y + 18), .ref (y + 19), .ref (y + 20), .ref (y + 21), .ref (y + 22), .int 0, .ref (y + 23), .ref (y + 24), .int 0, .ref (y + 25), .int 0, .int 0, .int 0, .int (-1), .int 0, .int 0, .int 0, .long 0]) := ((fr1 y).trans h_1)
  refine z_callV (As := [.int 1, .int 1]) (rest := []) B (c_X12_throwsIf_1 G l Φ2 sz y 0 0 1 1 0 0 0 0 0 0 0 0 0 0 0 0 0 0 (-1) 0 0 0 0 0 (-1) 0 0 0 0 1 h_2 hna) (cwV 2 B.1.2.2.2.2 gX12_totalEstimate_X12_throwsIf rfl rfl rfl (by decide +kernel) ⟨Nat.le_of_ble_eq_true rfl, Nat.le_of_ble_eq_true rfl⟩) h_2 rfl rfl rfl rfl (Nat.le_of_ble_eq_true rfl) dX12_totalEstimate_19 ⟨Nat.le_of_ble_eq_true rfl, Nat.le_of_ble_eq_true rfl⟩ (fun v2 Φ3 sz2 st2 hp2 hs2 => ?_)
  obtain ⟨rfl, hq2, fr2, h_3⟩ := hp2
  replace hq2 : sz2 = sz := hq2
  subst sz2
  replace hs2 : st2 = [.int 1] := hs2
  subst st2
  have h_4 : Φ3 y = some (o_ 14 [.int 1, .ref (y + 1), .ref (y + 2), .int 0, .int 1, .int 1, .int 0, .int 0, .ref (y + 3), .ref (y + 4), .int 0, .long 0, .ref (y + 5), .int 0, .int 0, .long 0, .long 0, .long 0, .long 0, .ref (y + 6), .ref (y + 7), .int 0, .ref (y + 8), .int 0, .ref (y + 9), .ref (y + 10), .int 0, .ref (y + 11), .ref (y + 12), .ref (y + 13), .ref (y + 14), .ref (y + 15), .ref (y + 16), .int 0, .long (-1), .ref (y + 17), .ref (y + 18), .ref (y + 19), .ref (y + 20), .ref (y + 21), .ref (y + 22), .int 0, .ref (y + 23), .ref (y + 24), .int 0, .ref (y + 25), .int 0, .int 0, .int 0, .int (-1), .int 0, .int 0, .int 0, .long 0]) := h_3
  refine z_if_eq (tgt := 27) B dX12_totalEstimate_22 rfl (fun h9 => absurd h9 (by decide)) (fun c_2 => ?_)
  refine z_lconst (v := 0) B dX12_totalEstimate_25 rfl ?_
  exact z_ret_l B dX12_totalEstimate_26 ⟨rfl, ⟨_, h_4, rfl⟩, fun b9 h9 => ((fr2 b9 (Nat.ne_of_gt (Nat.lt_of_lt_of_le (lt_off (x := y) (i := 0) (j := 26) rfl) h9))).trans ((fr1 b9).trans ((fset_fr hΦ1 (Nat.ne_of_gt (Nat.lt_of_lt_of_le (lt_off (x := y) (i := 0) (j := 26) rfl) h9))).trans rfl)))⟩

set_option maxHeartbeats 4000000 in
set_option maxRecDepth 100000 in
theorem m_X12_totalMargin_x (G : EnvG) (l : Launch) (Φ : Hm) (sz : Nat) (y : Nat) (w : Int32) (hc0_ : Φ y = some (o_ 14 [.int 0, .ref (y + 1), .ref (y + 2), .int 0, .int 1, .int 1, .int 0, .int 0, .ref (y + 3), .ref (y + 4), .int 0, .long 0, .ref (y + 5), .int 0, .int 0, .long 0, .long 0, .long 0, .long 0, .ref (y + 6), .ref (y + 7), .int 0, .ref (y + 8), .int 0, .ref (y + 9), .ref (y + 10), .int 0, .ref (y + 11), .ref (y + 12), .ref (y + 13), .ref (y + 14), .ref (y + 15), .ref (y + 16), .int 0, .long (-1), .ref (y + 17), .ref (y + 18), .ref (y + 19), .ref (y + 20), .ref (y + 21), .ref (y + 22), .int 0, .ref (y + 23), .ref (y + 24), .int 0, .ref (y + 25), .int 0, .int 0, .int 0, .int (-1), .int 0, .int 0, .int 0, .long 0])) (hna : G.2.2.2 ≤ y) (hp : ¬ inP w.toInt64 0 1) : Ct G l yX12_totalMargin wsX12_totalMargin ({ frames := 2, cells := 0, slots := 0, locals := 45 }) 0 0 [.ref y, .int w] Φ sz (fun v Φ1 sz1 => v = some (.double FP.dconst0) ∧ (∃ fs : List Value, Φ1 y = some (o_ 14 fs) ∧ fs[0]? = some (.int 1)) ∧ ∀ b9 : Nat, y + 26 ≤ b9 → Φ1 b9 = Φ b9) := by
  refine Ct.of (cc := cX12_totalMargin) (maxL := 5) (ret := (some .double)) (by decide) rfl (Nat.le_of_ble_eq_true rfl) ?_
  intro p9 e9 s9 m9 w9 t9 k9 B
  show Z p9 l e9 _ s9 m9 _ w9 t9 k9 _ G 5 0 [(0, .ref y), (1, .int w)] [] Φ sz 0 0
  refine z_aload_n B dX12_totalMargin_0 rfl 0 rfl ?_
  refine z_iconst (v := 0) B dX12_totalMargin_1 rfl ?_
  refine z_put (ref := "FlowExporterModel") (C := RX12) (T := TX12) (N := 54) (ci := 14) (v := .int 0) B (by decide +kernel) tyX12 tyX12_ok nmX12 rfl 0 (by decide) (by decide +kernel) rfl (Or.inl rfl) hc0_ hna rfl rfl (Nat.le_of_ble_eq_true rfl) dX12_totalMargin_2 (fun Φ1 hΦ1 => ?_)
  have h_1 : Φ1 y = some (o_ 14 [.int 0, .ref (y + 1), .ref (y + 2), .int 0, .int 1, .int 1, .int 0, .int 0, .ref (y + 3), .ref (y + 4), .int 0, .long 0, .ref (y + 5), .int 0, .int 0, .long 0, .long 0, .long 0, .long 0, .ref (y + 6), .ref (y + 7), .int 0, .ref (y + 8), .int 0, .ref (y + 9), .ref (y + 10), .int 0, .ref (y + 11), .ref (y + 12), .ref (y + 13), .ref (y + 14), .ref (y + 15), .ref (y + 16), .int 0, .long (-1), .ref (y + 17), .ref (y + 18), .ref (y + 19), .ref (y + 20), .ref (y + 21), .ref (y + 22), .int 0, .ref (y + 23), .ref (y + 24), .int 0, .ref (y + 25), .int 0, .int 0, .int 0, .int (-1), .int 0, .int 0, .int 0, .long 0]) := fset_at hΦ1
  refine z_aload_n B dX12_totalMargin_5 rfl 0 rfl ?_
  refine z_iload_n B dX12_totalMargin_6 rfl 1 rfl ?_
  refine z_callS (As := [.int w]) (rest := [.ref y]) B (m_isWhat_x G l Φ1 sz y w hp) (va_cwS 1 B.1.2.2.2.2 gX12_totalMargin_X12_isWhat rfl rfl rfl (by decide +kernel) ⟨Nat.le_of_ble_eq_true rfl, Nat.le_of_ble_eq_true rfl⟩) rfl rfl (Nat.le_of_ble_eq_true rfl) dX12_totalMargin_7 ⟨Nat.le_of_ble_eq_true rfl, Nat.le_of_ble_eq_true rfl⟩ (fun v1 Φ2 sz1 st1 hp1 hs1 => ?_)
  obtain ⟨rfl, hq1, fr1⟩ := hp1
  replace hq1 : sz1 = sz := hq1
  subst sz1
  replace hs1 : st1 = [.int 0, .ref y] := hs1
  subst st1
  refine z_if_ne (tgt := 17) B dX12_totalMargin_10 rfl (fun h9 => absurd (by decide) h9) (fun c_1 => ?_)
  refine z_iconst (v := 1) B dX12_totalMargin_13 rfl ?_
  refine z_goto (tgt := 18) B dX12_totalMargin_14 rfl ?_
  refine z_iconst (v := 1) B dX12_totalMargin_18 rfl ?_
  have h_2 : Φ2 y = some (o_ 14 [.int 0, .ref (y + 1), .ref (y + 2), .int 0, .int 1, .int 1, .int 0, .int 0, .ref (y + 3), .ref (y + 4), .int 0, .long 0, .ref (y + 5), .int 0, .int 0, .long 0, .long 0, .long 0, .long 0, .ref (y + 6), .ref (y + 7), .int 0, .ref (y + 8), .int 0, .ref (y + 9), .ref (y + 10), .int 0, .ref (y + 11), .ref (y + 12), .ref (y + 13), .ref (y + 14), .ref (y + 15), .ref (y + 16), .int 0, .long (-1), .ref (y + 17), .ref (y + 18), .ref (y + 19), .ref (y + 20), .ref (y + 21), .ref (y + 22), .int 0, .ref (y + 23), .ref (y + 24), .int 0, .ref (y + 25), .int 0, .int 0, .int 0, .int (-1), .int 0, .int 0, .int 0, .long 0]) := ((fr1 y).trans h_1)
  refine z_callV (As := [.int 1, .int 1]) (rest := []) B (c_X12_throwsIf_1 G l Φ2 sz y 0 0 1 1 0 0 0 0 0 0 0 0 0 0 0 0 0 0 (-1) 0 0 0 0 0 (-1) 0 0 0 0 1 h_2 hna) (cwV 2 B.1.2.2.2.2 gX12_totalMargin_X12_throwsIf rfl rfl rfl (by decide +kernel) ⟨Nat.le_of_ble_eq_true rfl, Nat.le_of_ble_eq_true rfl⟩) h_2 rfl rfl rfl rfl (Nat.le_of_ble_eq_true rfl) dX12_totalMargin_19 ⟨Nat.le_of_ble_eq_true rfl, Nat.le_of_ble_eq_true rfl⟩ (fun v2 Φ3 sz2 st2 hp2 hs2 => ?_)
  obtain ⟨rfl, hq2, fr2, h_3⟩ := hp2
  replace hq2 : sz2 = sz := hq2
  subst sz2
  replace hs2 : st2 = [.int 1] := hs2
  subst st2
  have h_4 : Φ3 y = some (o_ 14 [.int 1, .ref (y + 1), .ref (y + 2), .int 0, .int 1, .int 1, .int 0, .int 0, .ref (y + 3), .ref (y + 4), .int 0, .long 0, .ref (y + 5), .int 0, .int 0, .long 0, .long 0, .long 0, .long 0, .ref (y + 6), .ref (y + 7), .int 0, .ref (y + 8), .int 0, .ref (y + 9), .ref (y + 10), .int 0, .ref (y + 11), .ref (y + 12), .ref (y + 13), .ref (y + 14), .ref (y + 15), .ref (y + 16), .int 0, .long (-1), .ref (y + 17), .ref (y + 18), .ref (y + 19), .ref (y + 20), .ref (y + 21), .ref (y + 22), .int 0, .ref (y + 23), .ref (y + 24), .int 0, .ref (y + 25), .int 0, .int 0, .int 0, .int (-1), .int 0, .int 0, .int 0, .long 0]) := h_3
  refine z_if_eq (tgt := 27) B dX12_totalMargin_22 rfl (fun h9 => absurd h9 (by decide)) (fun c_2 => ?_)
  refine z_dconst0 B dX12_totalMargin_25 ?_
  exact z_ret_d B dX12_totalMargin_26 ⟨rfl, ⟨_, h_4, rfl⟩, fun b9 h9 => ((fr2 b9 (Nat.ne_of_gt (Nat.lt_of_lt_of_le (lt_off (x := y) (i := 0) (j := 26) rfl) h9))).trans ((fr1 b9).trans ((fset_fr hΦ1 (Nat.ne_of_gt (Nat.lt_of_lt_of_le (lt_off (x := y) (i := 0) (j := 26) rfl) h9))).trans rfl)))⟩

set_option maxHeartbeats 4000000 in
set_option maxRecDepth 100000 in
theorem m_X12_ranked_x (G : EnvG) (l : Launch) (Φ : Hm) (sz : Nat) (y : Nat) (a : Int32) (w : Int32) (hc0_ : Φ y = some (o_ 14 [.int 0, .ref (y + 1), .ref (y + 2), .int 0, .int 1, .int 1, .int 0, .int 0, .ref (y + 3), .ref (y + 4), .int 0, .long 0, .ref (y + 5), .int 0, .int 0, .long 0, .long 0, .long 0, .long 0, .ref (y + 6), .ref (y + 7), .int 0, .ref (y + 8), .int 0, .ref (y + 9), .ref (y + 10), .int 0, .ref (y + 11), .ref (y + 12), .ref (y + 13), .ref (y + 14), .ref (y + 15), .ref (y + 16), .int 0, .long (-1), .ref (y + 17), .ref (y + 18), .ref (y + 19), .ref (y + 20), .ref (y + 21), .ref (y + 22), .int 0, .ref (y + 23), .ref (y + 24), .int 0, .ref (y + 25), .int 0, .int 0, .int 0, .int (-1), .int 0, .int 0, .int 0, .long 0])) (hna : G.2.2.2 ≤ y) (hp : ¬ inP w.toInt64 0 1) : Ct G l yX12_ranked wsX12_ranked ({ frames := 2, cells := 0, slots := 0, locals := 45 }) 0 0 [.ref y, .int a, .int w] Φ sz (fun v Φ1 sz1 => v = some (.int 0) ∧ (∃ fs : List Value, Φ1 y = some (o_ 14 fs) ∧ fs[0]? = some (.int 1)) ∧ ∀ b9 : Nat, y + 26 ≤ b9 → Φ1 b9 = Φ b9) := by
  refine Ct.of (cc := cX12_ranked) (maxL := 10) (ret := (some .int)) (by decide) rfl (Nat.le_of_ble_eq_true rfl) ?_
  intro p9 e9 s9 m9 w9 t9 k9 B
  show Z p9 l e9 _ s9 m9 _ w9 t9 k9 _ G 10 0 [(0, .ref y), (1, .int a), (2, .int w)] [] Φ sz 0 0
  refine z_aload_n B dX12_ranked_0 rfl 0 rfl ?_
  refine z_iconst (v := 0) B dX12_ranked_1 rfl ?_
  refine z_put (ref := "FlowExporterModel") (C := RX12) (T := TX12) (N := 54) (ci := 14) (v := .int 0) B (by decide +kernel) tyX12 tyX12_ok nmX12 rfl 0 (by decide) (by decide +kernel) rfl (Or.inl rfl) hc0_ hna rfl rfl (Nat.le_of_ble_eq_true rfl) dX12_ranked_2 (fun Φ1 hΦ1 => ?_)
  have h_1 : Φ1 y = some (o_ 14 [.int 0, .ref (y + 1), .ref (y + 2), .int 0, .int 1, .int 1, .int 0, .int 0, .ref (y + 3), .ref (y + 4), .int 0, .long 0, .ref (y + 5), .int 0, .int 0, .long 0, .long 0, .long 0, .long 0, .ref (y + 6), .ref (y + 7), .int 0, .ref (y + 8), .int 0, .ref (y + 9), .ref (y + 10), .int 0, .ref (y + 11), .ref (y + 12), .ref (y + 13), .ref (y + 14), .ref (y + 15), .ref (y + 16), .int 0, .long (-1), .ref (y + 17), .ref (y + 18), .ref (y + 19), .ref (y + 20), .ref (y + 21), .ref (y + 22), .int 0, .ref (y + 23), .ref (y + 24), .int 0, .ref (y + 25), .int 0, .int 0, .int 0, .int (-1), .int 0, .int 0, .int 0, .long 0]) := fset_at hΦ1
  refine z_aload_n B dX12_ranked_5 rfl 0 rfl ?_
  refine z_iload_n B dX12_ranked_6 rfl 2 rfl ?_
  refine z_callS (As := [.int w]) (rest := [.ref y]) B (m_isWhat_x G l Φ1 sz y w hp) (va_cwS 1 B.1.2.2.2.2 gX12_ranked_X12_isWhat rfl rfl rfl (by decide +kernel) ⟨Nat.le_of_ble_eq_true rfl, Nat.le_of_ble_eq_true rfl⟩) rfl rfl (Nat.le_of_ble_eq_true rfl) dX12_ranked_7 ⟨Nat.le_of_ble_eq_true rfl, Nat.le_of_ble_eq_true rfl⟩ (fun v1 Φ2 sz1 st1 hp1 hs1 => ?_)
  obtain ⟨rfl, hq1, fr1⟩ := hp1
  replace hq1 : sz1 = sz := hq1
  subst sz1
  replace hs1 : st1 = [.int 0, .ref y] := hs1
  subst st1
  refine z_if_ne (tgt := 17) B dX12_ranked_10 rfl (fun h9 => absurd (by decide) h9) (fun c_1 => ?_)
  refine z_iconst (v := 1) B dX12_ranked_13 rfl ?_
  refine z_goto (tgt := 18) B dX12_ranked_14 rfl ?_
  refine z_iconst (v := 1) B dX12_ranked_18 rfl ?_
  have h_2 : Φ2 y = some (o_ 14 [.int 0, .ref (y + 1), .ref (y + 2), .int 0, .int 1, .int 1, .int 0, .int 0, .ref (y + 3), .ref (y + 4), .int 0, .long 0, .ref (y + 5), .int 0, .int 0, .long 0, .long 0, .long 0, .long 0, .ref (y + 6), .ref (y + 7), .int 0, .ref (y + 8), .int 0, .ref (y + 9), .ref (y + 10), .int 0, .ref (y + 11), .ref (y + 12), .ref (y + 13), .ref (y + 14), .ref (y + 15), .ref (y + 16), .int 0, .long (-1), .ref (y + 17), .ref (y + 18), .ref (y + 19), .ref (y + 20), .ref (y + 21), .ref (y + 22), .int 0, .ref (y + 23), .ref (y + 24), .int 0, .ref (y + 25), .int 0, .int 0, .int 0, .int (-1), .int 0, .int 0, .int 0, .long 0]) := ((fr1 y).trans h_1)
  refine z_callV (As := [.int 1, .int 1]) (rest := []) B (c_X12_throwsIf_1 G l Φ2 sz y 0 0 1 1 0 0 0 0 0 0 0 0 0 0 0 0 0 0 (-1) 0 0 0 0 0 (-1) 0 0 0 0 1 h_2 hna) (cwV 2 B.1.2.2.2.2 gX12_ranked_X12_throwsIf rfl rfl rfl (by decide +kernel) ⟨Nat.le_of_ble_eq_true rfl, Nat.le_of_ble_eq_true rfl⟩) h_2 rfl rfl rfl rfl (Nat.le_of_ble_eq_true rfl) dX12_ranked_19 ⟨Nat.le_of_ble_eq_true rfl, Nat.le_of_ble_eq_true rfl⟩ (fun v2 Φ3 sz2 st2 hp2 hs2 => ?_)
  obtain ⟨rfl, hq2, fr2, h_3⟩ := hp2
  replace hq2 : sz2 = sz := hq2
  subst sz2
  replace hs2 : st2 = [.int 1] := hs2
  subst st2
  have h_4 : Φ3 y = some (o_ 14 [.int 1, .ref (y + 1), .ref (y + 2), .int 0, .int 1, .int 1, .int 0, .int 0, .ref (y + 3), .ref (y + 4), .int 0, .long 0, .ref (y + 5), .int 0, .int 0, .long 0, .long 0, .long 0, .long 0, .ref (y + 6), .ref (y + 7), .int 0, .ref (y + 8), .int 0, .ref (y + 9), .ref (y + 10), .int 0, .ref (y + 11), .ref (y + 12), .ref (y + 13), .ref (y + 14), .ref (y + 15), .ref (y + 16), .int 0, .long (-1), .ref (y + 17), .ref (y + 18), .ref (y + 19), .ref (y + 20), .ref (y + 21), .ref (y + 22), .int 0, .ref (y + 23), .ref (y + 24), .int 0, .ref (y + 25), .int 0, .int 0, .int 0, .int (-1), .int 0, .int 0, .int 0, .long 0]) := h_3
  refine z_if_eq (tgt := 27) B dX12_ranked_22 rfl (fun h9 => absurd h9 (by decide)) (fun c_2 => ?_)
  refine z_iconst (v := 0) B dX12_ranked_25 rfl ?_
  exact z_ret_i B dX12_ranked_26 ⟨rfl, ⟨_, h_4, rfl⟩, fun b9 h9 => ((fr2 b9 (Nat.ne_of_gt (Nat.lt_of_lt_of_le (lt_off (x := y) (i := 0) (j := 26) rfl) h9))).trans ((fr1 b9).trans ((fset_fr hΦ1 (Nat.ne_of_gt (Nat.lt_of_lt_of_le (lt_off (x := y) (i := 0) (j := 26) rfl) h9))).trans rfl)))⟩

set_option maxHeartbeats 4000000 in
set_option maxRecDepth 100000 in
theorem m_X12_truth_x (G : EnvG) (l : Launch) (Φ : Hm) (sz : Nat) (y : Nat) (a : Int32) (b : Int32) (d : Int32) (e : Int32) (w : Int32) (hc0_ : Φ y = some (o_ 14 [.int 0, .ref (y + 1), .ref (y + 2), .int 0, .int 1, .int 1, .int 0, .int 0, .ref (y + 3), .ref (y + 4), .int 0, .long 0, .ref (y + 5), .int 0, .int 0, .long 0, .long 0, .long 0, .long 0, .ref (y + 6), .ref (y + 7), .int 0, .ref (y + 8), .int 0, .ref (y + 9), .ref (y + 10), .int 0, .ref (y + 11), .ref (y + 12), .ref (y + 13), .ref (y + 14), .ref (y + 15), .ref (y + 16), .int 0, .long (-1), .ref (y + 17), .ref (y + 18), .ref (y + 19), .ref (y + 20), .ref (y + 21), .ref (y + 22), .int 0, .ref (y + 23), .ref (y + 24), .int 0, .ref (y + 25), .int 0, .int 0, .int 0, .int (-1), .int 0, .int 0, .int 0, .long 0])) (hna : G.2.2.2 ≤ y) (hp : ¬ inP w.toInt64 0 1) : Ct G l yX12_truth wsX12_truth ({ frames := 2, cells := 0, slots := 0, locals := 45 }) 0 0 [.ref y, .int a, .int b, .int d, .int e, .int w] Φ sz (fun v Φ1 sz1 => v = some (.long 0) ∧ (∃ fs : List Value, Φ1 y = some (o_ 14 fs) ∧ fs[0]? = some (.int 1)) ∧ ∀ b9 : Nat, y + 26 ≤ b9 → Φ1 b9 = Φ b9) := by
  refine Ct.of (cc := cX12_truth) (maxL := 6) (ret := (some .long)) (by decide) rfl (Nat.le_of_ble_eq_true rfl) ?_
  intro p9 e9 s9 m9 w9 t9 k9 B
  show Z p9 l e9 _ s9 m9 _ w9 t9 k9 _ G 6 0 [(0, .ref y), (1, .int a), (2, .int b), (3, .int d), (4, .int e), (5, .int w)] [] Φ sz 0 0
  refine z_aload_n B dX12_truth_0 rfl 0 rfl ?_
  refine z_iconst (v := 0) B dX12_truth_1 rfl ?_
  refine z_put (ref := "FlowExporterModel") (C := RX12) (T := TX12) (N := 54) (ci := 14) (v := .int 0) B (by decide +kernel) tyX12 tyX12_ok nmX12 rfl 0 (by decide) (by decide +kernel) rfl (Or.inl rfl) hc0_ hna rfl rfl (Nat.le_of_ble_eq_true rfl) dX12_truth_2 (fun Φ1 hΦ1 => ?_)
  have h_1 : Φ1 y = some (o_ 14 [.int 0, .ref (y + 1), .ref (y + 2), .int 0, .int 1, .int 1, .int 0, .int 0, .ref (y + 3), .ref (y + 4), .int 0, .long 0, .ref (y + 5), .int 0, .int 0, .long 0, .long 0, .long 0, .long 0, .ref (y + 6), .ref (y + 7), .int 0, .ref (y + 8), .int 0, .ref (y + 9), .ref (y + 10), .int 0, .ref (y + 11), .ref (y + 12), .ref (y + 13), .ref (y + 14), .ref (y + 15), .ref (y + 16), .int 0, .long (-1), .ref (y + 17), .ref (y + 18), .ref (y + 19), .ref (y + 20), .ref (y + 21), .ref (y + 22), .int 0, .ref (y + 23), .ref (y + 24), .int 0, .ref (y + 25), .int 0, .int 0, .int 0, .int (-1), .int 0, .int 0, .int 0, .long 0]) := fset_at hΦ1
  refine z_aload_n B dX12_truth_5 rfl 0 rfl ?_
  refine z_iload B dX12_truth_6 5 rfl ?_
  refine z_callS (As := [.int w]) (rest := [.ref y]) B (m_isWhat_x G l Φ1 sz y w hp) (va_cwS 1 B.1.2.2.2.2 gX12_truth_X12_isWhat rfl rfl rfl (by decide +kernel) ⟨Nat.le_of_ble_eq_true rfl, Nat.le_of_ble_eq_true rfl⟩) rfl rfl (Nat.le_of_ble_eq_true rfl) dX12_truth_8 ⟨Nat.le_of_ble_eq_true rfl, Nat.le_of_ble_eq_true rfl⟩ (fun v1 Φ2 sz1 st1 hp1 hs1 => ?_)
  obtain ⟨rfl, hq1, fr1⟩ := hp1
  replace hq1 : sz1 = sz := hq1
  subst sz1
  replace hs1 : st1 = [.int 0, .ref y] := hs1
  subst st1
  refine z_if_ne (tgt := 18) B dX12_truth_11 rfl (fun h9 => absurd (by decide) h9) (fun c_1 => ?_)
  refine z_iconst (v := 1) B dX12_truth_14 rfl ?_
  refine z_goto (tgt := 19) B dX12_truth_15 rfl ?_
  refine z_iconst (v := 1) B dX12_truth_19 rfl ?_
  have h_2 : Φ2 y = some (o_ 14 [.int 0, .ref (y + 1), .ref (y + 2), .int 0, .int 1, .int 1, .int 0, .int 0, .ref (y + 3), .ref (y + 4), .int 0, .long 0, .ref (y + 5), .int 0, .int 0, .long 0, .long 0, .long 0, .long 0, .ref (y + 6), .ref (y + 7), .int 0, .ref (y + 8), .int 0, .ref (y + 9), .ref (y + 10), .int 0, .ref (y + 11), .ref (y + 12), .ref (y + 13), .ref (y + 14), .ref (y + 15), .ref (y + 16), .int 0, .long (-1), .ref (y + 17), .ref (y + 18), .ref (y + 19), .ref (y + 20), .ref (y + 21), .ref (y + 22), .int 0, .ref (y + 23), .ref (y + 24), .int 0, .ref (y + 25), .int 0, .int 0, .int 0, .int (-1), .int 0, .int 0, .int 0, .long 0]) := ((fr1 y).trans h_1)
  refine z_callV (As := [.int 1, .int 1]) (rest := []) B (c_X12_throwsIf_1 G l Φ2 sz y 0 0 1 1 0 0 0 0 0 0 0 0 0 0 0 0 0 0 (-1) 0 0 0 0 0 (-1) 0 0 0 0 1 h_2 hna) (cwV 2 B.1.2.2.2.2 gX12_truth_X12_throwsIf rfl rfl rfl (by decide +kernel) ⟨Nat.le_of_ble_eq_true rfl, Nat.le_of_ble_eq_true rfl⟩) h_2 rfl rfl rfl rfl (Nat.le_of_ble_eq_true rfl) dX12_truth_20 ⟨Nat.le_of_ble_eq_true rfl, Nat.le_of_ble_eq_true rfl⟩ (fun v2 Φ3 sz2 st2 hp2 hs2 => ?_)
  obtain ⟨rfl, hq2, fr2, h_3⟩ := hp2
  replace hq2 : sz2 = sz := hq2
  subst sz2
  replace hs2 : st2 = [.int 1] := hs2
  subst st2
  have h_4 : Φ3 y = some (o_ 14 [.int 1, .ref (y + 1), .ref (y + 2), .int 0, .int 1, .int 1, .int 0, .int 0, .ref (y + 3), .ref (y + 4), .int 0, .long 0, .ref (y + 5), .int 0, .int 0, .long 0, .long 0, .long 0, .long 0, .ref (y + 6), .ref (y + 7), .int 0, .ref (y + 8), .int 0, .ref (y + 9), .ref (y + 10), .int 0, .ref (y + 11), .ref (y + 12), .ref (y + 13), .ref (y + 14), .ref (y + 15), .ref (y + 16), .int 0, .long (-1), .ref (y + 17), .ref (y + 18), .ref (y + 19), .ref (y + 20), .ref (y + 21), .ref (y + 22), .int 0, .ref (y + 23), .ref (y + 24), .int 0, .ref (y + 25), .int 0, .int 0, .int 0, .int (-1), .int 0, .int 0, .int 0, .long 0]) := h_3
  refine z_if_eq (tgt := 30) B dX12_truth_23 rfl (fun h9 => absurd h9 (by decide)) (fun c_2 => ?_)
  refine z_lconst (v := 0) B dX12_truth_26 rfl ?_
  refine z_goto (tgt := 41) B dX12_truth_27 rfl ?_
  exact z_ret_l B dX12_truth_41 ⟨rfl, ⟨_, h_4, rfl⟩, fun b9 h9 => ((fr2 b9 (Nat.ne_of_gt (Nat.lt_of_lt_of_le (lt_off (x := y) (i := 0) (j := 26) rfl) h9))).trans ((fr1 b9).trans ((fset_fr hΦ1 (Nat.ne_of_gt (Nat.lt_of_lt_of_le (lt_off (x := y) (i := 0) (j := 26) rfl) h9))).trans rfl)))⟩

set_option maxHeartbeats 4000000 in
set_option maxRecDepth 100000 in
theorem m_X12_lossRate (G : EnvG) (l : Launch) (Φ : Hm) (sz : Nat) (y : Nat) (hc0_ : Φ y = some (o_ 14 [.int 0, .ref (y + 1), .ref (y + 2), .int 0, .int 1, .int 1, .int 0, .int 0, .ref (y + 3), .ref (y + 4), .int 0, .long 0, .ref (y + 5), .int 0, .int 0, .long 0, .long 0, .long 0, .long 0, .ref (y + 6), .ref (y + 7), .int 0, .ref (y + 8), .int 0, .ref (y + 9), .ref (y + 10), .int 0, .ref (y + 11), .ref (y + 12), .ref (y + 13), .ref (y + 14), .ref (y + 15), .ref (y + 16), .int 0, .long (-1), .ref (y + 17), .ref (y + 18), .ref (y + 19), .ref (y + 20), .ref (y + 21), .ref (y + 22), .int 0, .ref (y + 23), .ref (y + 24), .int 0, .ref (y + 25), .int 0, .int 0, .int 0, .int (-1), .int 0, .int 0, .int 0, .long 0])) (hc11_ : Φ (y + 11) = some (al_ G 9 (vp_updL (vp_updL (vp_updL (vp_updL (vp_updL (vp_updL (vp_updL (vp_updL (vp_updL (fun _ => 0) (0 : Int32).toNatClampNeg 0) (1 : Int32).toNatClampNeg 0) (2 : Int32).toNatClampNeg 0) (3 : Int32).toNatClampNeg 0) (4 : Int32).toNatClampNeg 0) (5 : Int32).toNatClampNeg 0) (6 : Int32).toNatClampNeg 0) (7 : Int32).toNatClampNeg 0) (8 : Int32).toNatClampNeg 0))) (hna : G.2.2.2 ≤ y) : Ct G l yX12_lossRate wsX12_lossRate ({ frames := 1, cells := 0, slots := 0, locals := 22 }) 0 0 [.ref y] Φ sz (fun v Φ1 sz1 => v = some (.double FP.dconst0) ∧ (∃ fs : List Value, Φ1 y = some (o_ 14 fs) ∧ fs[0]? = some (.int 1)) ∧ ∀ b9 : Nat, y + 26 ≤ b9 → Φ1 b9 = Φ b9) := by
  refine Ct.of (cc := cX12_lossRate) (maxL := 3) (ret := (some .double)) (by decide) rfl (Nat.le_of_ble_eq_true rfl) ?_
  intro p9 e9 s9 m9 w9 t9 k9 B
  show Z p9 l e9 _ s9 m9 _ w9 t9 k9 _ G 3 0 [(0, .ref y)] [] Φ sz 0 0
  refine z_aload_n B dX12_lossRate_0 rfl 0 rfl ?_
  refine z_iconst (v := 0) B dX12_lossRate_1 rfl ?_
  refine z_put (ref := "FlowExporterModel") (C := RX12) (T := TX12) (N := 54) (ci := 14) (v := .int 0) B (by decide +kernel) tyX12 tyX12_ok nmX12 rfl 0 (by decide) (by decide +kernel) rfl (Or.inl rfl) hc0_ hna rfl rfl (Nat.le_of_ble_eq_true rfl) dX12_lossRate_2 (fun Φ1 hΦ1 => ?_)
  have h_1 : Φ1 y = some (o_ 14 [.int 0, .ref (y + 1), .ref (y + 2), .int 0, .int 1, .int 1, .int 0, .int 0, .ref (y + 3), .ref (y + 4), .int 0, .long 0, .ref (y + 5), .int 0, .int 0, .long 0, .long 0, .long 0, .long 0, .ref (y + 6), .ref (y + 7), .int 0, .ref (y + 8), .int 0, .ref (y + 9), .ref (y + 10), .int 0, .ref (y + 11), .ref (y + 12), .ref (y + 13), .ref (y + 14), .ref (y + 15), .ref (y + 16), .int 0, .long (-1), .ref (y + 17), .ref (y + 18), .ref (y + 19), .ref (y + 20), .ref (y + 21), .ref (y + 22), .int 0, .ref (y + 23), .ref (y + 24), .int 0, .ref (y + 25), .int 0, .int 0, .int 0, .int (-1), .int 0, .int 0, .int 0, .long 0]) := fset_at hΦ1
  refine z_aload_n B dX12_lossRate_5 rfl 0 rfl ?_
  refine z_get (ref := "FlowExporterModel") (C := RX12) (T := TX12) (N := 54) (ci := 14) (v := .ref (y + 11)) B (by decide +kernel) rfl 27 (by decide) (by decide +kernel) rfl h_1 rfl dX12_lossRate_6 ?_
  refine z_iconst (v := 0) B dX12_lossRate_9 rfl ?_
  have h_2 : Φ1 (y + 11) = some (al_ G 9 (vp_updL (vp_updL (vp_updL (vp_updL (vp_updL (vp_updL (vp_updL (vp_updL (vp_updL (fun _ => 0) (0 : Int32).toNatClampNeg 0) (1 : Int32).toNatClampNeg 0) (2 : Int32).toNatClampNeg 0) (3 : Int32).toNatClampNeg 0) (4 : Int32).toNatClampNeg 0) (5 : Int32).toNatClampNeg 0) (6 : Int32).toNatClampNeg 0) (7 : Int32).toNatClampNeg 0) (8 : Int32).toNatClampNeg 0)) := ((fset_fr hΦ1 (ne_off (x := y) (i := 11) (j := 0) rfl)).trans hc11_)
  refine z_lald B h_2 (vin rfl) dX12_lossRate_10 ?_
  refine z_top (st1 := [.long 0]) (by rfl) ?_
  refine z_aload_n B dX12_lossRate_11 rfl 0 rfl ?_
  refine z_get (ref := "FlowExporterModel") (C := RX12) (T := TX12) (N := 54) (ci := 14) (v := .ref (y + 11)) B (by decide +kernel) rfl 27 (by decide) (by decide +kernel) rfl h_1 rfl dX12_lossRate_12 ?_
  refine z_bipush (v := 7) B dX12_lossRate_15 rfl ?_
  refine z_lald B h_2 (vin rfl) dX12_lossRate_17 ?_
  refine z_top (st1 := [.long 0, .long 0]) (by rfl) ?_
  refine z_ladd B dX12_lossRate_18 ?_
  refine z_top (st1 := [.long 0]) (congrArg (fun w9 : Int64 => ([.long w9] : List Value)) (show (0 + 0 : Int64) = 0 by decide +kernel)) ?_
  refine z_lstore_n (lv' := [(1, .long 0), (0, .ref y)]) B dX12_lossRate_19 rfl (Nat.le_of_ble_eq_true rfl) rfl ?_
  refine z_aload_n B dX12_lossRate_20 rfl 1 rfl ?_
  refine z_lload_n B dX12_lossRate_21 rfl 0 rfl ?_
  refine z_lconst (v := 0) B dX12_lossRate_22 rfl ?_
  refine z_lcmp B dX12_lossRate_23 ?_
  refine z_top (st1 := [.int 0, .ref y]) (congrArg (fun w9 : Int32 => ([.int w9, .ref y] : List Value)) (show (lg_cmp 0 0 : Int32) = 0 by decide +kernel)) ?_
  refine z_if_ne (tgt := 31) B dX12_lossRate_24 rfl (fun h9 => absurd (by decide) h9) (fun c_1 => ?_)
  refine z_iconst (v := 1) B dX12_lossRate_27 rfl ?_
  refine z_goto (tgt := 32) B dX12_lossRate_28 rfl ?_
  refine z_iconst (v := 1) B dX12_lossRate_32 rfl ?_
  refine z_callV (As := [.int 1, .int 1]) (rest := []) B (c_X12_throwsIf_1 G l Φ1 sz y 0 0 1 1 0 0 0 0 0 0 0 0 0 0 0 0 0 0 (-1) 0 0 0 0 0 (-1) 0 0 0 0 1 h_1 hna) (cwV 2 B.1.2.2.2.2 gX12_lossRate_X12_throwsIf rfl rfl rfl (by decide +kernel) ⟨Nat.le_of_ble_eq_true rfl, Nat.le_of_ble_eq_true rfl⟩) h_1 rfl rfl rfl rfl (Nat.le_of_ble_eq_true rfl) dX12_lossRate_33 ⟨Nat.le_of_ble_eq_true rfl, Nat.le_of_ble_eq_true rfl⟩ (fun v1 Φ2 sz1 st1 hp1 hs1 => ?_)
  obtain ⟨rfl, hq1, fr1, h_3⟩ := hp1
  replace hq1 : sz1 = sz := hq1
  subst sz1
  replace hs1 : st1 = [.int 1] := hs1
  subst st1
  have h_4 : Φ2 y = some (o_ 14 [.int 1, .ref (y + 1), .ref (y + 2), .int 0, .int 1, .int 1, .int 0, .int 0, .ref (y + 3), .ref (y + 4), .int 0, .long 0, .ref (y + 5), .int 0, .int 0, .long 0, .long 0, .long 0, .long 0, .ref (y + 6), .ref (y + 7), .int 0, .ref (y + 8), .int 0, .ref (y + 9), .ref (y + 10), .int 0, .ref (y + 11), .ref (y + 12), .ref (y + 13), .ref (y + 14), .ref (y + 15), .ref (y + 16), .int 0, .long (-1), .ref (y + 17), .ref (y + 18), .ref (y + 19), .ref (y + 20), .ref (y + 21), .ref (y + 22), .int 0, .ref (y + 23), .ref (y + 24), .int 0, .ref (y + 25), .int 0, .int 0, .int 0, .int (-1), .int 0, .int 0, .int 0, .long 0]) := h_3
  refine z_if_eq (tgt := 43) B dX12_lossRate_36 rfl (fun h9 => absurd h9 (by decide)) (fun c_2 => ?_)
  refine z_dconst0 B dX12_lossRate_39 ?_
  refine z_goto (tgt := 53) B dX12_lossRate_40 rfl ?_
  exact z_ret_d B dX12_lossRate_53 ⟨rfl, ⟨_, h_4, rfl⟩, fun b9 h9 => ((fr1 b9 (Nat.ne_of_gt (Nat.lt_of_lt_of_le (lt_off (x := y) (i := 0) (j := 26) rfl) h9))).trans ((fset_fr hΦ1 (Nat.ne_of_gt (Nat.lt_of_lt_of_le (lt_off (x := y) (i := 0) (j := 26) rfl) h9))).trans rfl))⟩

set_option maxHeartbeats 4000000 in
set_option maxRecDepth 100000 in
theorem m_sizeOf_0 (G : EnvG) (l : Launch) (Φ : Hm) (sz : Nat) (y : Nat) (hc0_ : Φ y = some (o_ 14 [.int 0, .ref (y + 1), .ref (y + 2), .int 0, .int 1, .int 1, .int 0, .int 0, .ref (y + 3), .ref (y + 4), .int 0, .long 0, .ref (y + 5), .int 0, .int 0, .long 0, .long 0, .long 0, .long 0, .ref (y + 6), .ref (y + 7), .int 0, .ref (y + 8), .int 0, .ref (y + 9), .ref (y + 10), .int 0, .ref (y + 11), .ref (y + 12), .ref (y + 13), .ref (y + 14), .ref (y + 15), .ref (y + 16), .int 0, .long (-1), .ref (y + 17), .ref (y + 18), .ref (y + 19), .ref (y + 20), .ref (y + 21), .ref (y + 22), .int 0, .ref (y + 23), .ref (y + 24), .int 0, .ref (y + 25), .int 0, .int 0, .int 0, .int (-1), .int 0, .int 0, .int 0, .long 0])) (hc2_ : Φ (y + 2) = some (ai_ G 307 (upd (upd (upd (upd (upd (upd (upd (upd (upd (upd (upd (upd (upd (upd (upd (upd (upd (upd (upd (upd (upd (fun _ => 0) (0 : Int32).toNatClampNeg 1) (1 : Int32).toNatClampNeg 100) (2 : Int32).toNatClampNeg 1000) (3 : Int32).toNatClampNeg 100) (4 : Int32).toNatClampNeg 20) (5 : Int32).toNatClampNeg 1000) (6 : Int32).toNatClampNeg 5000) (7 : Int32).toNatClampNeg 512) (8 : Int32).toNatClampNeg 1) (9 : Int32).toNatClampNeg 511) (10 : Int32).toNatClampNeg 1) (11 : Int32).toNatClampNeg 9) (15 : Int32).toNatClampNeg 0) (16 : Int32).toNatClampNeg 1) (17 : Int32).toNatClampNeg 2) (18 : Int32).toNatClampNeg 3) (19 : Int32).toNatClampNeg 4) (20 : Int32).toNatClampNeg 5) (21 : Int32).toNatClampNeg 6) (22 : Int32).toNatClampNeg 7) (23 : Int32).toNatClampNeg 8))) : Ct G l yX12_sizeOf wsX12_sizeOf ({ frames := 0, cells := 0, slots := 0, locals := 0 }) 0 0 [.ref y, .int 0] Φ sz (fun v Φ1 sz1 => v = some (.int 9) ∧ sz1 = sz ∧ (∀ b9 : Nat, Φ1 b9 = Φ b9)) := by
  refine Ct.of (cc := cX12_sizeOf) (maxL := 2) (ret := (some .int)) (by decide) rfl (Nat.le_of_ble_eq_true rfl) ?_
  intro p9 e9 s9 m9 w9 t9 k9 B
  show Z p9 l e9 _ s9 m9 _ w9 t9 k9 _ G 2 0 [(0, .ref y), (1, .int 0)] [] Φ sz 0 0
  refine z_aload_n B dX12_sizeOf_0 rfl 0 rfl ?_
  refine z_get (ref := "FlowExporterModel") (C := RX12) (T := TX12) (N := 54) (ci := 14) (v := .ref (y + 2)) B (by decide +kernel) rfl 2 (by decide) (by decide +kernel) rfl hc0_ rfl dX12_sizeOf_1 ?_
  refine z_bipush (v := 11) B dX12_sizeOf_4 rfl ?_
  refine z_iload_n B dX12_sizeOf_6 rfl 1 rfl ?_
  refine z_iadd B dX12_sizeOf_7 ?_
  refine z_top (st1 := [.int 11, .ref (y + 2)]) (congrArg (fun w9 : Int32 => ([.int w9, .ref (y + 2)] : List Value)) (show (11 + 0 : Int32) = 11 by decide +kernel)) ?_
  refine z_iald B hc2_ (vin rfl) dX12_sizeOf_8 ?_
  refine z_top (st1 := [.int 9]) (by rfl) ?_
  exact z_ret_i B dX12_sizeOf_9 ⟨rfl, rfl, (fun b9 => rfl)⟩

set_option maxHeartbeats 4000000 in
set_option maxRecDepth 100000 in
theorem m_fieldOf_0 (G : EnvG) (l : Launch) (Φ : Hm) (sz : Nat) (y : Nat) (hc0_ : Φ y = some (o_ 14 [.int 0, .ref (y + 1), .ref (y + 2), .int 0, .int 1, .int 1, .int 0, .int 0, .ref (y + 3), .ref (y + 4), .int 0, .long 0, .ref (y + 5), .int 0, .int 0, .long 0, .long 0, .long 0, .long 0, .ref (y + 6), .ref (y + 7), .int 0, .ref (y + 8), .int 0, .ref (y + 9), .ref (y + 10), .int 0, .ref (y + 11), .ref (y + 12), .ref (y + 13), .ref (y + 14), .ref (y + 15), .ref (y + 16), .int 0, .long (-1), .ref (y + 17), .ref (y + 18), .ref (y + 19), .ref (y + 20), .ref (y + 21), .ref (y + 22), .int 0, .ref (y + 23), .ref (y + 24), .int 0, .ref (y + 25), .int 0, .int 0, .int 0, .int (-1), .int 0, .int 0, .int 0, .long 0])) (hc2_ : Φ (y + 2) = some (ai_ G 307 (upd (upd (upd (upd (upd (upd (upd (upd (upd (upd (upd (upd (upd (upd (upd (upd (upd (upd (upd (upd (upd (fun _ => 0) (0 : Int32).toNatClampNeg 1) (1 : Int32).toNatClampNeg 100) (2 : Int32).toNatClampNeg 1000) (3 : Int32).toNatClampNeg 100) (4 : Int32).toNatClampNeg 20) (5 : Int32).toNatClampNeg 1000) (6 : Int32).toNatClampNeg 5000) (7 : Int32).toNatClampNeg 512) (8 : Int32).toNatClampNeg 1) (9 : Int32).toNatClampNeg 511) (10 : Int32).toNatClampNeg 1) (11 : Int32).toNatClampNeg 9) (15 : Int32).toNatClampNeg 0) (16 : Int32).toNatClampNeg 1) (17 : Int32).toNatClampNeg 2) (18 : Int32).toNatClampNeg 3) (19 : Int32).toNatClampNeg 4) (20 : Int32).toNatClampNeg 5) (21 : Int32).toNatClampNeg 6) (22 : Int32).toNatClampNeg 7) (23 : Int32).toNatClampNeg 8))) : Ct G l yX12_fieldOf wsX12_fieldOf ({ frames := 0, cells := 0, slots := 0, locals := 0 }) 0 0 [.ref y, .int 0, .int 0] Φ sz (fun v Φ1 sz1 => v = some (.int 0) ∧ sz1 = sz ∧ (∀ b9 : Nat, Φ1 b9 = Φ b9)) := by
  refine Ct.of (cc := cX12_fieldOf) (maxL := 3) (ret := (some .int)) (by decide) rfl (Nat.le_of_ble_eq_true rfl) ?_
  intro p9 e9 s9 m9 w9 t9 k9 B
  show Z p9 l e9 _ s9 m9 _ w9 t9 k9 _ G 3 0 [(0, .ref y), (1, .int 0), (2, .int 0)] [] Φ sz 0 0
  refine z_aload_n B dX12_fieldOf_0 rfl 0 rfl ?_
  refine z_get (ref := "FlowExporterModel") (C := RX12) (T := TX12) (N := 54) (ci := 14) (v := .ref (y + 2)) B (by decide +kernel) rfl 2 (by decide) (by decide +kernel) rfl hc0_ rfl dX12_fieldOf_1 ?_
  refine z_bipush (v := 15) B dX12_fieldOf_4 rfl ?_
  refine z_bipush (v := 9) B dX12_fieldOf_6 rfl ?_
  refine z_iload_n B dX12_fieldOf_8 rfl 1 rfl ?_
  refine z_imul B dX12_fieldOf_9 ?_
  refine z_top (st1 := [.int 0, .int 15, .ref (y + 2)]) (congrArg (fun w9 : Int32 => ([.int w9, .int 15, .ref (y + 2)] : List Value)) (show (9 * 0 : Int32) = 0 by decide +kernel)) ?_
  refine z_iadd B dX12_fieldOf_10 ?_
  refine z_top (st1 := [.int 15, .ref (y + 2)]) (congrArg (fun w9 : Int32 => ([.int w9, .ref (y + 2)] : List Value)) (show (15 + 0 : Int32) = 15 by decide +kernel)) ?_
  refine z_iload_n B dX12_fieldOf_11 rfl 2 rfl ?_
  refine z_iadd B dX12_fieldOf_12 ?_
  refine z_top (st1 := [.int 15, .ref (y + 2)]) (congrArg (fun w9 : Int32 => ([.int w9, .ref (y + 2)] : List Value)) (show (15 + 0 : Int32) = 15 by decide +kernel)) ?_
  refine z_iald B hc2_ (vin rfl) dX12_fieldOf_13 ?_
  refine z_top (st1 := [.int 0]) (by rfl) ?_
  exact z_ret_i B dX12_fieldOf_14 ⟨rfl, rfl, (fun b9 => rfl)⟩

set_option maxHeartbeats 4000000 in
set_option maxRecDepth 100000 in
theorem m_fieldOf_1 (G : EnvG) (l : Launch) (Φ : Hm) (sz : Nat) (y : Nat) (hc0_ : Φ y = some (o_ 14 [.int 0, .ref (y + 1), .ref (y + 2), .int 0, .int 1, .int 1, .int 0, .int 0, .ref (y + 3), .ref (y + 4), .int 0, .long 0, .ref (y + 5), .int 0, .int 0, .long 0, .long 0, .long 0, .long 0, .ref (y + 6), .ref (y + 7), .int 0, .ref (y + 8), .int 0, .ref (y + 9), .ref (y + 10), .int 0, .ref (y + 11), .ref (y + 12), .ref (y + 13), .ref (y + 14), .ref (y + 15), .ref (y + 16), .int 0, .long (-1), .ref (y + 17), .ref (y + 18), .ref (y + 19), .ref (y + 20), .ref (y + 21), .ref (y + 22), .int 0, .ref (y + 23), .ref (y + 24), .int 0, .ref (y + 25), .int 0, .int 0, .int 0, .int (-1), .int 0, .int 0, .int 0, .long 0])) (hc2_ : Φ (y + 2) = some (ai_ G 307 (upd (upd (upd (upd (upd (upd (upd (upd (upd (upd (upd (upd (upd (upd (upd (upd (upd (upd (upd (upd (upd (fun _ => 0) (0 : Int32).toNatClampNeg 1) (1 : Int32).toNatClampNeg 100) (2 : Int32).toNatClampNeg 1000) (3 : Int32).toNatClampNeg 100) (4 : Int32).toNatClampNeg 20) (5 : Int32).toNatClampNeg 1000) (6 : Int32).toNatClampNeg 5000) (7 : Int32).toNatClampNeg 512) (8 : Int32).toNatClampNeg 1) (9 : Int32).toNatClampNeg 511) (10 : Int32).toNatClampNeg 1) (11 : Int32).toNatClampNeg 9) (15 : Int32).toNatClampNeg 0) (16 : Int32).toNatClampNeg 1) (17 : Int32).toNatClampNeg 2) (18 : Int32).toNatClampNeg 3) (19 : Int32).toNatClampNeg 4) (20 : Int32).toNatClampNeg 5) (21 : Int32).toNatClampNeg 6) (22 : Int32).toNatClampNeg 7) (23 : Int32).toNatClampNeg 8))) : Ct G l yX12_fieldOf wsX12_fieldOf ({ frames := 0, cells := 0, slots := 0, locals := 0 }) 0 0 [.ref y, .int 0, .int 1] Φ sz (fun v Φ1 sz1 => v = some (.int 1) ∧ sz1 = sz ∧ (∀ b9 : Nat, Φ1 b9 = Φ b9)) := by
  refine Ct.of (cc := cX12_fieldOf) (maxL := 3) (ret := (some .int)) (by decide) rfl (Nat.le_of_ble_eq_true rfl) ?_
  intro p9 e9 s9 m9 w9 t9 k9 B
  show Z p9 l e9 _ s9 m9 _ w9 t9 k9 _ G 3 0 [(0, .ref y), (1, .int 0), (2, .int 1)] [] Φ sz 0 0
  refine z_aload_n B dX12_fieldOf_0 rfl 0 rfl ?_
  refine z_get (ref := "FlowExporterModel") (C := RX12) (T := TX12) (N := 54) (ci := 14) (v := .ref (y + 2)) B (by decide +kernel) rfl 2 (by decide) (by decide +kernel) rfl hc0_ rfl dX12_fieldOf_1 ?_
  refine z_bipush (v := 15) B dX12_fieldOf_4 rfl ?_
  refine z_bipush (v := 9) B dX12_fieldOf_6 rfl ?_
  refine z_iload_n B dX12_fieldOf_8 rfl 1 rfl ?_
  refine z_imul B dX12_fieldOf_9 ?_
  refine z_top (st1 := [.int 0, .int 15, .ref (y + 2)]) (congrArg (fun w9 : Int32 => ([.int w9, .int 15, .ref (y + 2)] : List Value)) (show (9 * 0 : Int32) = 0 by decide +kernel)) ?_
  refine z_iadd B dX12_fieldOf_10 ?_
  refine z_top (st1 := [.int 15, .ref (y + 2)]) (congrArg (fun w9 : Int32 => ([.int w9, .ref (y + 2)] : List Value)) (show (15 + 0 : Int32) = 15 by decide +kernel)) ?_
  refine z_iload_n B dX12_fieldOf_11 rfl 2 rfl ?_
  refine z_iadd B dX12_fieldOf_12 ?_
  refine z_top (st1 := [.int 16, .ref (y + 2)]) (congrArg (fun w9 : Int32 => ([.int w9, .ref (y + 2)] : List Value)) (show (15 + 1 : Int32) = 16 by decide +kernel)) ?_
  refine z_iald B hc2_ (vin rfl) dX12_fieldOf_13 ?_
  refine z_top (st1 := [.int 1]) (by rfl) ?_
  exact z_ret_i B dX12_fieldOf_14 ⟨rfl, rfl, (fun b9 => rfl)⟩

set_option maxHeartbeats 4000000 in
set_option maxRecDepth 100000 in
theorem m_fieldOf_2 (G : EnvG) (l : Launch) (Φ : Hm) (sz : Nat) (y : Nat) (hc0_ : Φ y = some (o_ 14 [.int 0, .ref (y + 1), .ref (y + 2), .int 0, .int 1, .int 1, .int 0, .int 0, .ref (y + 3), .ref (y + 4), .int 0, .long 0, .ref (y + 5), .int 0, .int 0, .long 0, .long 0, .long 0, .long 0, .ref (y + 6), .ref (y + 7), .int 0, .ref (y + 8), .int 0, .ref (y + 9), .ref (y + 10), .int 0, .ref (y + 11), .ref (y + 12), .ref (y + 13), .ref (y + 14), .ref (y + 15), .ref (y + 16), .int 0, .long (-1), .ref (y + 17), .ref (y + 18), .ref (y + 19), .ref (y + 20), .ref (y + 21), .ref (y + 22), .int 0, .ref (y + 23), .ref (y + 24), .int 0, .ref (y + 25), .int 0, .int 0, .int 0, .int (-1), .int 0, .int 0, .int 0, .long 0])) (hc2_ : Φ (y + 2) = some (ai_ G 307 (upd (upd (upd (upd (upd (upd (upd (upd (upd (upd (upd (upd (upd (upd (upd (upd (upd (upd (upd (upd (upd (fun _ => 0) (0 : Int32).toNatClampNeg 1) (1 : Int32).toNatClampNeg 100) (2 : Int32).toNatClampNeg 1000) (3 : Int32).toNatClampNeg 100) (4 : Int32).toNatClampNeg 20) (5 : Int32).toNatClampNeg 1000) (6 : Int32).toNatClampNeg 5000) (7 : Int32).toNatClampNeg 512) (8 : Int32).toNatClampNeg 1) (9 : Int32).toNatClampNeg 511) (10 : Int32).toNatClampNeg 1) (11 : Int32).toNatClampNeg 9) (15 : Int32).toNatClampNeg 0) (16 : Int32).toNatClampNeg 1) (17 : Int32).toNatClampNeg 2) (18 : Int32).toNatClampNeg 3) (19 : Int32).toNatClampNeg 4) (20 : Int32).toNatClampNeg 5) (21 : Int32).toNatClampNeg 6) (22 : Int32).toNatClampNeg 7) (23 : Int32).toNatClampNeg 8))) : Ct G l yX12_fieldOf wsX12_fieldOf ({ frames := 0, cells := 0, slots := 0, locals := 0 }) 0 0 [.ref y, .int 0, .int 2] Φ sz (fun v Φ1 sz1 => v = some (.int 2) ∧ sz1 = sz ∧ (∀ b9 : Nat, Φ1 b9 = Φ b9)) := by
  refine Ct.of (cc := cX12_fieldOf) (maxL := 3) (ret := (some .int)) (by decide) rfl (Nat.le_of_ble_eq_true rfl) ?_
  intro p9 e9 s9 m9 w9 t9 k9 B
  show Z p9 l e9 _ s9 m9 _ w9 t9 k9 _ G 3 0 [(0, .ref y), (1, .int 0), (2, .int 2)] [] Φ sz 0 0
  refine z_aload_n B dX12_fieldOf_0 rfl 0 rfl ?_
  refine z_get (ref := "FlowExporterModel") (C := RX12) (T := TX12) (N := 54) (ci := 14) (v := .ref (y + 2)) B (by decide +kernel) rfl 2 (by decide) (by decide +kernel) rfl hc0_ rfl dX12_fieldOf_1 ?_
  refine z_bipush (v := 15) B dX12_fieldOf_4 rfl ?_
  refine z_bipush (v := 9) B dX12_fieldOf_6 rfl ?_
  refine z_iload_n B dX12_fieldOf_8 rfl 1 rfl ?_
  refine z_imul B dX12_fieldOf_9 ?_
  refine z_top (st1 := [.int 0, .int 15, .ref (y + 2)]) (congrArg (fun w9 : Int32 => ([.int w9, .int 15, .ref (y + 2)] : List Value)) (show (9 * 0 : Int32) = 0 by decide +kernel)) ?_
  refine z_iadd B dX12_fieldOf_10 ?_
  refine z_top (st1 := [.int 15, .ref (y + 2)]) (congrArg (fun w9 : Int32 => ([.int w9, .ref (y + 2)] : List Value)) (show (15 + 0 : Int32) = 15 by decide +kernel)) ?_
  refine z_iload_n B dX12_fieldOf_11 rfl 2 rfl ?_
  refine z_iadd B dX12_fieldOf_12 ?_
  refine z_top (st1 := [.int 17, .ref (y + 2)]) (congrArg (fun w9 : Int32 => ([.int w9, .ref (y + 2)] : List Value)) (show (15 + 2 : Int32) = 17 by decide +kernel)) ?_
  refine z_iald B hc2_ (vin rfl) dX12_fieldOf_13 ?_
  refine z_top (st1 := [.int 2]) (by rfl) ?_
  exact z_ret_i B dX12_fieldOf_14 ⟨rfl, rfl, (fun b9 => rfl)⟩

set_option maxHeartbeats 4000000 in
set_option maxRecDepth 100000 in
theorem m_fieldOf_3 (G : EnvG) (l : Launch) (Φ : Hm) (sz : Nat) (y : Nat) (hc0_ : Φ y = some (o_ 14 [.int 0, .ref (y + 1), .ref (y + 2), .int 0, .int 1, .int 1, .int 0, .int 0, .ref (y + 3), .ref (y + 4), .int 0, .long 0, .ref (y + 5), .int 0, .int 0, .long 0, .long 0, .long 0, .long 0, .ref (y + 6), .ref (y + 7), .int 0, .ref (y + 8), .int 0, .ref (y + 9), .ref (y + 10), .int 0, .ref (y + 11), .ref (y + 12), .ref (y + 13), .ref (y + 14), .ref (y + 15), .ref (y + 16), .int 0, .long (-1), .ref (y + 17), .ref (y + 18), .ref (y + 19), .ref (y + 20), .ref (y + 21), .ref (y + 22), .int 0, .ref (y + 23), .ref (y + 24), .int 0, .ref (y + 25), .int 0, .int 0, .int 0, .int (-1), .int 0, .int 0, .int 0, .long 0])) (hc2_ : Φ (y + 2) = some (ai_ G 307 (upd (upd (upd (upd (upd (upd (upd (upd (upd (upd (upd (upd (upd (upd (upd (upd (upd (upd (upd (upd (upd (fun _ => 0) (0 : Int32).toNatClampNeg 1) (1 : Int32).toNatClampNeg 100) (2 : Int32).toNatClampNeg 1000) (3 : Int32).toNatClampNeg 100) (4 : Int32).toNatClampNeg 20) (5 : Int32).toNatClampNeg 1000) (6 : Int32).toNatClampNeg 5000) (7 : Int32).toNatClampNeg 512) (8 : Int32).toNatClampNeg 1) (9 : Int32).toNatClampNeg 511) (10 : Int32).toNatClampNeg 1) (11 : Int32).toNatClampNeg 9) (15 : Int32).toNatClampNeg 0) (16 : Int32).toNatClampNeg 1) (17 : Int32).toNatClampNeg 2) (18 : Int32).toNatClampNeg 3) (19 : Int32).toNatClampNeg 4) (20 : Int32).toNatClampNeg 5) (21 : Int32).toNatClampNeg 6) (22 : Int32).toNatClampNeg 7) (23 : Int32).toNatClampNeg 8))) : Ct G l yX12_fieldOf wsX12_fieldOf ({ frames := 0, cells := 0, slots := 0, locals := 0 }) 0 0 [.ref y, .int 0, .int 3] Φ sz (fun v Φ1 sz1 => v = some (.int 3) ∧ sz1 = sz ∧ (∀ b9 : Nat, Φ1 b9 = Φ b9)) := by
  refine Ct.of (cc := cX12_fieldOf) (maxL := 3) (ret := (some .int)) (by decide) rfl (Nat.le_of_ble_eq_true rfl) ?_
  intro p9 e9 s9 m9 w9 t9 k9 B
  show Z p9 l e9 _ s9 m9 _ w9 t9 k9 _ G 3 0 [(0, .ref y), (1, .int 0), (2, .int 3)] [] Φ sz 0 0
  refine z_aload_n B dX12_fieldOf_0 rfl 0 rfl ?_
  refine z_get (ref := "FlowExporterModel") (C := RX12) (T := TX12) (N := 54) (ci := 14) (v := .ref (y + 2)) B (by decide +kernel) rfl 2 (by decide) (by decide +kernel) rfl hc0_ rfl dX12_fieldOf_1 ?_
  refine z_bipush (v := 15) B dX12_fieldOf_4 rfl ?_
  refine z_bipush (v := 9) B dX12_fieldOf_6 rfl ?_
  refine z_iload_n B dX12_fieldOf_8 rfl 1 rfl ?_
  refine z_imul B dX12_fieldOf_9 ?_
  refine z_top (st1 := [.int 0, .int 15, .ref (y + 2)]) (congrArg (fun w9 : Int32 => ([.int w9, .int 15, .ref (y + 2)] : List Value)) (show (9 * 0 : Int32) = 0 by decide +kernel)) ?_
  refine z_iadd B dX12_fieldOf_10 ?_
  refine z_top (st1 := [.int 15, .ref (y + 2)]) (congrArg (fun w9 : Int32 => ([.int w9, .ref (y + 2)] : List Value)) (show (15 + 0 : Int32) = 15 by decide +kernel)) ?_
  refine z_iload_n B dX12_fieldOf_11 rfl 2 rfl ?_
  refine z_iadd B dX12_fieldOf_12 ?_
  refine z_top (st1 := [.int 18, .ref (y + 2)]) (congrArg (fun w9 : Int32 => ([.int w9, .ref (y + 2)] : List Value)) (show (15 + 3 : Int32) = 18 by decide +kernel)) ?_
  refine z_iald B hc2_ (vin rfl) dX12_fieldOf_13 ?_
  refine z_top (st1 := [.int 3]) (by rfl) ?_
  exact z_ret_i B dX12_fieldOf_14 ⟨rfl, rfl, (fun b9 => rfl)⟩

set_option maxHeartbeats 4000000 in
set_option maxRecDepth 100000 in
theorem m_fieldOf_4 (G : EnvG) (l : Launch) (Φ : Hm) (sz : Nat) (y : Nat) (hc0_ : Φ y = some (o_ 14 [.int 0, .ref (y + 1), .ref (y + 2), .int 0, .int 1, .int 1, .int 0, .int 0, .ref (y + 3), .ref (y + 4), .int 0, .long 0, .ref (y + 5), .int 0, .int 0, .long 0, .long 0, .long 0, .long 0, .ref (y + 6), .ref (y + 7), .int 0, .ref (y + 8), .int 0, .ref (y + 9), .ref (y + 10), .int 0, .ref (y + 11), .ref (y + 12), .ref (y + 13), .ref (y + 14), .ref (y + 15), .ref (y + 16), .int 0, .long (-1), .ref (y + 17), .ref (y + 18), .ref (y + 19), .ref (y + 20), .ref (y + 21), .ref (y + 22), .int 0, .ref (y + 23), .ref (y + 24), .int 0, .ref (y + 25), .int 0, .int 0, .int 0, .int (-1), .int 0, .int 0, .int 0, .long 0])) (hc2_ : Φ (y + 2) = some (ai_ G 307 (upd (upd (upd (upd (upd (upd (upd (upd (upd (upd (upd (upd (upd (upd (upd (upd (upd (upd (upd (upd (upd (fun _ => 0) (0 : Int32).toNatClampNeg 1) (1 : Int32).toNatClampNeg 100) (2 : Int32).toNatClampNeg 1000) (3 : Int32).toNatClampNeg 100) (4 : Int32).toNatClampNeg 20) (5 : Int32).toNatClampNeg 1000) (6 : Int32).toNatClampNeg 5000) (7 : Int32).toNatClampNeg 512) (8 : Int32).toNatClampNeg 1) (9 : Int32).toNatClampNeg 511) (10 : Int32).toNatClampNeg 1) (11 : Int32).toNatClampNeg 9) (15 : Int32).toNatClampNeg 0) (16 : Int32).toNatClampNeg 1) (17 : Int32).toNatClampNeg 2) (18 : Int32).toNatClampNeg 3) (19 : Int32).toNatClampNeg 4) (20 : Int32).toNatClampNeg 5) (21 : Int32).toNatClampNeg 6) (22 : Int32).toNatClampNeg 7) (23 : Int32).toNatClampNeg 8))) : Ct G l yX12_fieldOf wsX12_fieldOf ({ frames := 0, cells := 0, slots := 0, locals := 0 }) 0 0 [.ref y, .int 0, .int 4] Φ sz (fun v Φ1 sz1 => v = some (.int 4) ∧ sz1 = sz ∧ (∀ b9 : Nat, Φ1 b9 = Φ b9)) := by
  refine Ct.of (cc := cX12_fieldOf) (maxL := 3) (ret := (some .int)) (by decide) rfl (Nat.le_of_ble_eq_true rfl) ?_
  intro p9 e9 s9 m9 w9 t9 k9 B
  show Z p9 l e9 _ s9 m9 _ w9 t9 k9 _ G 3 0 [(0, .ref y), (1, .int 0), (2, .int 4)] [] Φ sz 0 0
  refine z_aload_n B dX12_fieldOf_0 rfl 0 rfl ?_
  refine z_get (ref := "FlowExporterModel") (C := RX12) (T := TX12) (N := 54) (ci := 14) (v := .ref (y + 2)) B (by decide +kernel) rfl 2 (by decide) (by decide +kernel) rfl hc0_ rfl dX12_fieldOf_1 ?_
  refine z_bipush (v := 15) B dX12_fieldOf_4 rfl ?_
  refine z_bipush (v := 9) B dX12_fieldOf_6 rfl ?_
  refine z_iload_n B dX12_fieldOf_8 rfl 1 rfl ?_
  refine z_imul B dX12_fieldOf_9 ?_
  refine z_top (st1 := [.int 0, .int 15, .ref (y + 2)]) (congrArg (fun w9 : Int32 => ([.int w9, .int 15, .ref (y + 2)] : List Value)) (show (9 * 0 : Int32) = 0 by decide +kernel)) ?_
  refine z_iadd B dX12_fieldOf_10 ?_
  refine z_top (st1 := [.int 15, .ref (y + 2)]) (congrArg (fun w9 : Int32 => ([.int w9, .ref (y + 2)] : List Value)) (show (15 + 0 : Int32) = 15 by decide +kernel)) ?_
  refine z_iload_n B dX12_fieldOf_11 rfl 2 rfl ?_
  refine z_iadd B dX12_fieldOf_12 ?_
  refine z_top (st1 := [.int 19, .ref (y + 2)]) (congrArg (fun w9 : Int32 => ([.int w9, .ref (y + 2)] : List Value)) (show (15 + 4 : Int32) = 19 by decide +kernel)) ?_
  refine z_iald B hc2_ (vin rfl) dX12_fieldOf_13 ?_
  refine z_top (st1 := [.int 4]) (by rfl) ?_
  exact z_ret_i B dX12_fieldOf_14 ⟨rfl, rfl, (fun b9 => rfl)⟩

set_option maxHeartbeats 4000000 in
set_option maxRecDepth 100000 in
theorem m_fieldOf_5 (G : EnvG) (l : Launch) (Φ : Hm) (sz : Nat) (y : Nat) (hc0_ : Φ y = some (o_ 14 [.int 0, .ref (y + 1), .ref (y + 2), .int 0, .int 1, .int 1, .int 0, .int 0, .ref (y + 3), .ref (y + 4), .int 0, .long 0, .ref (y + 5), .int 0, .int 0, .long 0, .long 0, .long 0, .long 0, .ref (y + 6), .ref (y + 7), .int 0, .ref (y + 8), .int 0, .ref (y + 9), .ref (y + 10), .int 0, .ref (y + 11), .ref (y + 12), .ref (y + 13), .ref (y + 14), .ref (y + 15), .ref (y + 16), .int 0, .long (-1), .ref (y + 17), .ref (y + 18), .ref (y + 19), .ref (y + 20), .ref (y + 21), .ref (y + 22), .int 0, .ref (y + 23), .ref (y + 24), .int 0, .ref (y + 25), .int 0, .int 0, .int 0, .int (-1), .int 0, .int 0, .int 0, .long 0])) (hc2_ : Φ (y + 2) = some (ai_ G 307 (upd (upd (upd (upd (upd (upd (upd (upd (upd (upd (upd (upd (upd (upd (upd (upd (upd (upd (upd (upd (upd (fun _ => 0) (0 : Int32).toNatClampNeg 1) (1 : Int32).toNatClampNeg 100) (2 : Int32).toNatClampNeg 1000) (3 : Int32).toNatClampNeg 100) (4 : Int32).toNatClampNeg 20) (5 : Int32).toNatClampNeg 1000) (6 : Int32).toNatClampNeg 5000) (7 : Int32).toNatClampNeg 512) (8 : Int32).toNatClampNeg 1) (9 : Int32).toNatClampNeg 511) (10 : Int32).toNatClampNeg 1) (11 : Int32).toNatClampNeg 9) (15 : Int32).toNatClampNeg 0) (16 : Int32).toNatClampNeg 1) (17 : Int32).toNatClampNeg 2) (18 : Int32).toNatClampNeg 3) (19 : Int32).toNatClampNeg 4) (20 : Int32).toNatClampNeg 5) (21 : Int32).toNatClampNeg 6) (22 : Int32).toNatClampNeg 7) (23 : Int32).toNatClampNeg 8))) : Ct G l yX12_fieldOf wsX12_fieldOf ({ frames := 0, cells := 0, slots := 0, locals := 0 }) 0 0 [.ref y, .int 0, .int 5] Φ sz (fun v Φ1 sz1 => v = some (.int 5) ∧ sz1 = sz ∧ (∀ b9 : Nat, Φ1 b9 = Φ b9)) := by
  refine Ct.of (cc := cX12_fieldOf) (maxL := 3) (ret := (some .int)) (by decide) rfl (Nat.le_of_ble_eq_true rfl) ?_
  intro p9 e9 s9 m9 w9 t9 k9 B
  show Z p9 l e9 _ s9 m9 _ w9 t9 k9 _ G 3 0 [(0, .ref y), (1, .int 0), (2, .int 5)] [] Φ sz 0 0
  refine z_aload_n B dX12_fieldOf_0 rfl 0 rfl ?_
  refine z_get (ref := "FlowExporterModel") (C := RX12) (T := TX12) (N := 54) (ci := 14) (v := .ref (y + 2)) B (by decide +kernel) rfl 2 (by decide) (by decide +kernel) rfl hc0_ rfl dX12_fieldOf_1 ?_
  refine z_bipush (v := 15) B dX12_fieldOf_4 rfl ?_
  refine z_bipush (v := 9) B dX12_fieldOf_6 rfl ?_
  refine z_iload_n B dX12_fieldOf_8 rfl 1 rfl ?_
  refine z_imul B dX12_fieldOf_9 ?_
  refine z_top (st1 := [.int 0, .int 15, .ref (y + 2)]) (congrArg (fun w9 : Int32 => ([.int w9, .int 15, .ref (y + 2)] : List Value)) (show (9 * 0 : Int32) = 0 by decide +kernel)) ?_
  refine z_iadd B dX12_fieldOf_10 ?_
  refine z_top (st1 := [.int 15, .ref (y + 2)]) (congrArg (fun w9 : Int32 => ([.int w9, .ref (y + 2)] : List Value)) (show (15 + 0 : Int32) = 15 by decide +kernel)) ?_
  refine z_iload_n B dX12_fieldOf_11 rfl 2 rfl ?_
  refine z_iadd B dX12_fieldOf_12 ?_
  refine z_top (st1 := [.int 20, .ref (y + 2)]) (congrArg (fun w9 : Int32 => ([.int w9, .ref (y + 2)] : List Value)) (show (15 + 5 : Int32) = 20 by decide +kernel)) ?_
  refine z_iald B hc2_ (vin rfl) dX12_fieldOf_13 ?_
  refine z_top (st1 := [.int 5]) (by rfl) ?_
  exact z_ret_i B dX12_fieldOf_14 ⟨rfl, rfl, (fun b9 => rfl)⟩

set_option maxHeartbeats 4000000 in
set_option maxRecDepth 100000 in
theorem m_fieldOf_6 (G : EnvG) (l : Launch) (Φ : Hm) (sz : Nat) (y : Nat) (hc0_ : Φ y = some (o_ 14 [.int 0, .ref (y + 1), .ref (y + 2), .int 0, .int 1, .int 1, .int 0, .int 0, .ref (y + 3), .ref (y + 4), .int 0, .long 0, .ref (y + 5), .int 0, .int 0, .long 0, .long 0, .long 0, .long 0, .ref (y + 6), .ref (y + 7), .int 0, .ref (y + 8), .int 0, .ref (y + 9), .ref (y + 10), .int 0, .ref (y + 11), .ref (y + 12), .ref (y + 13), .ref (y + 14), .ref (y + 15), .ref (y + 16), .int 0, .long (-1), .ref (y + 17), .ref (y + 18), .ref (y + 19), .ref (y + 20), .ref (y + 21), .ref (y + 22), .int 0, .ref (y + 23), .ref (y + 24), .int 0, .ref (y + 25), .int 0, .int 0, .int 0, .int (-1), .int 0, .int 0, .int 0, .long 0])) (hc2_ : Φ (y + 2) = some (ai_ G 307 (upd (upd (upd (upd (upd (upd (upd (upd (upd (upd (upd (upd (upd (upd (upd (upd (upd (upd (upd (upd (upd (fun _ => 0) (0 : Int32).toNatClampNeg 1) (1 : Int32).toNatClampNeg 100) (2 : Int32).toNatClampNeg 1000) (3 : Int32).toNatClampNeg 100) (4 : Int32).toNatClampNeg 20) (5 : Int32).toNatClampNeg 1000) (6 : Int32).toNatClampNeg 5000) (7 : Int32).toNatClampNeg 512) (8 : Int32).toNatClampNeg 1) (9 : Int32).toNatClampNeg 511) (10 : Int32).toNatClampNeg 1) (11 : Int32).toNatClampNeg 9) (15 : Int32).toNatClampNeg 0) (16 : Int32).toNatClampNeg 1) (17 : Int32).toNatClampNeg 2) (18 : Int32).toNatClampNeg 3) (19 : Int32).toNatClampNeg 4) (20 : Int32).toNatClampNeg 5) (21 : Int32).toNatClampNeg 6) (22 : Int32).toNatClampNeg 7) (23 : Int32).toNatClampNeg 8))) : Ct G l yX12_fieldOf wsX12_fieldOf ({ frames := 0, cells := 0, slots := 0, locals := 0 }) 0 0 [.ref y, .int 0, .int 6] Φ sz (fun v Φ1 sz1 => v = some (.int 6) ∧ sz1 = sz ∧ (∀ b9 : Nat, Φ1 b9 = Φ b9)) := by
  refine Ct.of (cc := cX12_fieldOf) (maxL := 3) (ret := (some .int)) (by decide) rfl (Nat.le_of_ble_eq_true rfl) ?_
  intro p9 e9 s9 m9 w9 t9 k9 B
  show Z p9 l e9 _ s9 m9 _ w9 t9 k9 _ G 3 0 [(0, .ref y), (1, .int 0), (2, .int 6)] [] Φ sz 0 0
  refine z_aload_n B dX12_fieldOf_0 rfl 0 rfl ?_
  refine z_get (ref := "FlowExporterModel") (C := RX12) (T := TX12) (N := 54) (ci := 14) (v := .ref (y + 2)) B (by decide +kernel) rfl 2 (by decide) (by decide +kernel) rfl hc0_ rfl dX12_fieldOf_1 ?_
  refine z_bipush (v := 15) B dX12_fieldOf_4 rfl ?_
  refine z_bipush (v := 9) B dX12_fieldOf_6 rfl ?_
  refine z_iload_n B dX12_fieldOf_8 rfl 1 rfl ?_
  refine z_imul B dX12_fieldOf_9 ?_
  refine z_top (st1 := [.int 0, .int 15, .ref (y + 2)]) (congrArg (fun w9 : Int32 => ([.int w9, .int 15, .ref (y + 2)] : List Value)) (show (9 * 0 : Int32) = 0 by decide +kernel)) ?_
  refine z_iadd B dX12_fieldOf_10 ?_
  refine z_top (st1 := [.int 15, .ref (y + 2)]) (congrArg (fun w9 : Int32 => ([.int w9, .ref (y + 2)] : List Value)) (show (15 + 0 : Int32) = 15 by decide +kernel)) ?_
  refine z_iload_n B dX12_fieldOf_11 rfl 2 rfl ?_
  refine z_iadd B dX12_fieldOf_12 ?_
  refine z_top (st1 := [.int 21, .ref (y + 2)]) (congrArg (fun w9 : Int32 => ([.int w9, .ref (y + 2)] : List Value)) (show (15 + 6 : Int32) = 21 by decide +kernel)) ?_
  refine z_iald B hc2_ (vin rfl) dX12_fieldOf_13 ?_
  refine z_top (st1 := [.int 6]) (by rfl) ?_
  exact z_ret_i B dX12_fieldOf_14 ⟨rfl, rfl, (fun b9 => rfl)⟩

set_option maxHeartbeats 4000000 in
set_option maxRecDepth 100000 in
theorem m_fieldOf_7 (G : EnvG) (l : Launch) (Φ : Hm) (sz : Nat) (y : Nat) (hc0_ : Φ y = some (o_ 14 [.int 0, .ref (y + 1), .ref (y + 2), .int 0, .int 1, .int 1, .int 0, .int 0, .ref (y + 3), .ref (y + 4), .int 0, .long 0, .ref (y + 5), .int 0, .int 0, .long 0, .long 0, .long 0, .long 0, .ref (y + 6), .ref (y + 7), .int 0, .ref (y + 8), .int 0, .ref (y + 9), .ref (y + 10), .int 0, .ref (y + 11), .ref (y + 12), .ref (y + 13), .ref (y + 14), .ref (y + 15), .ref (y + 16), .int 0, .long (-1), .ref (y + 17), .ref (y + 18), .ref (y + 19), .ref (y + 20), .ref (y + 21), .ref (y + 22), .int 0, .ref (y + 23), .ref (y + 24), .int 0, .ref (y + 25), .int 0, .int 0, .int 0, .int (-1), .int 0, .int 0, .int 0, .long 0])) (hc2_ : Φ (y + 2) = some (ai_ G 307 (upd (upd (upd (upd (upd (upd (upd (upd (upd (upd (upd (upd (upd (upd (upd (upd (upd (upd (upd (upd (upd (fun _ => 0) (0 : Int32).toNatClampNeg 1) (1 : Int32).toNatClampNeg 100) (2 : Int32).toNatClampNeg 1000) (3 : Int32).toNatClampNeg 100) (4 : Int32).toNatClampNeg 20) (5 : Int32).toNatClampNeg 1000) (6 : Int32).toNatClampNeg 5000) (7 : Int32).toNatClampNeg 512) (8 : Int32).toNatClampNeg 1) (9 : Int32).toNatClampNeg 511) (10 : Int32).toNatClampNeg 1) (11 : Int32).toNatClampNeg 9) (15 : Int32).toNatClampNeg 0) (16 : Int32).toNatClampNeg 1) (17 : Int32).toNatClampNeg 2) (18 : Int32).toNatClampNeg 3) (19 : Int32).toNatClampNeg 4) (20 : Int32).toNatClampNeg 5) (21 : Int32).toNatClampNeg 6) (22 : Int32).toNatClampNeg 7) (23 : Int32).toNatClampNeg 8))) : Ct G l yX12_fieldOf wsX12_fieldOf ({ frames := 0, cells := 0, slots := 0, locals := 0 }) 0 0 [.ref y, .int 0, .int 7] Φ sz (fun v Φ1 sz1 => v = some (.int 7) ∧ sz1 = sz ∧ (∀ b9 : Nat, Φ1 b9 = Φ b9)) := by
  refine Ct.of (cc := cX12_fieldOf) (maxL := 3) (ret := (some .int)) (by decide) rfl (Nat.le_of_ble_eq_true rfl) ?_
  intro p9 e9 s9 m9 w9 t9 k9 B
  show Z p9 l e9 _ s9 m9 _ w9 t9 k9 _ G 3 0 [(0, .ref y), (1, .int 0), (2, .int 7)] [] Φ sz 0 0
  refine z_aload_n B dX12_fieldOf_0 rfl 0 rfl ?_
  refine z_get (ref := "FlowExporterModel") (C := RX12) (T := TX12) (N := 54) (ci := 14) (v := .ref (y + 2)) B (by decide +kernel) rfl 2 (by decide) (by decide +kernel) rfl hc0_ rfl dX12_fieldOf_1 ?_
  refine z_bipush (v := 15) B dX12_fieldOf_4 rfl ?_
  refine z_bipush (v := 9) B dX12_fieldOf_6 rfl ?_
  refine z_iload_n B dX12_fieldOf_8 rfl 1 rfl ?_
  refine z_imul B dX12_fieldOf_9 ?_
  refine z_top (st1 := [.int 0, .int 15, .ref (y + 2)]) (congrArg (fun w9 : Int32 => ([.int w9, .int 15, .ref (y + 2)] : List Value)) (show (9 * 0 : Int32) = 0 by decide +kernel)) ?_
  refine z_iadd B dX12_fieldOf_10 ?_
  refine z_top (st1 := [.int 15, .ref (y + 2)]) (congrArg (fun w9 : Int32 => ([.int w9, .ref (y + 2)] : List Value)) (show (15 + 0 : Int32) = 15 by decide +kernel)) ?_
  refine z_iload_n B dX12_fieldOf_11 rfl 2 rfl ?_
  refine z_iadd B dX12_fieldOf_12 ?_
  refine z_top (st1 := [.int 22, .ref (y + 2)]) (congrArg (fun w9 : Int32 => ([.int w9, .ref (y + 2)] : List Value)) (show (15 + 7 : Int32) = 22 by decide +kernel)) ?_
  refine z_iald B hc2_ (vin rfl) dX12_fieldOf_13 ?_
  refine z_top (st1 := [.int 7]) (by rfl) ?_
  exact z_ret_i B dX12_fieldOf_14 ⟨rfl, rfl, (fun b9 => rfl)⟩

set_option maxHeartbeats 4000000 in
set_option maxRecDepth 100000 in
theorem m_fieldOf_8 (G : EnvG) (l : Launch) (Φ : Hm) (sz : Nat) (y : Nat) (hc0_ : Φ y = some (o_ 14 [.int 0, .ref (y + 1), .ref (y + 2), .int 0, .int 1, .int 1, .int 0, .int 0, .ref (y + 3), .ref (y + 4), .int 0, .long 0, .ref (y + 5), .int 0, .int 0, .long 0, .long 0, .long 0, .long 0, .ref (y + 6), .ref (y + 7), .int 0, .ref (y + 8), .int 0, .ref (y + 9), .ref (y + 10), .int 0, .ref (y + 11), .ref (y + 12), .ref (y + 13), .ref (y + 14), .ref (y + 15), .ref (y + 16), .int 0, .long (-1), .ref (y + 17), .ref (y + 18), .ref (y + 19), .ref (y + 20), .ref (y + 21), .ref (y + 22), .int 0, .ref (y + 23), .ref (y + 24), .int 0, .ref (y + 25), .int 0, .int 0, .int 0, .int (-1), .int 0, .int 0, .int 0, .long 0])) (hc2_ : Φ (y + 2) = some (ai_ G 307 (upd (upd (upd (upd (upd (upd (upd (upd (upd (upd (upd (upd (upd (upd (upd (upd (upd (upd (upd (upd (upd (fun _ => 0) (0 : Int32).toNatClampNeg 1) (1 : Int32).toNatClampNeg 100) (2 : Int32).toNatClampNeg 1000) (3 : Int32).toNatClampNeg 100) (4 : Int32).toNatClampNeg 20) (5 : Int32).toNatClampNeg 1000) (6 : Int32).toNatClampNeg 5000) (7 : Int32).toNatClampNeg 512) (8 : Int32).toNatClampNeg 1) (9 : Int32).toNatClampNeg 511) (10 : Int32).toNatClampNeg 1) (11 : Int32).toNatClampNeg 9) (15 : Int32).toNatClampNeg 0) (16 : Int32).toNatClampNeg 1) (17 : Int32).toNatClampNeg 2) (18 : Int32).toNatClampNeg 3) (19 : Int32).toNatClampNeg 4) (20 : Int32).toNatClampNeg 5) (21 : Int32).toNatClampNeg 6) (22 : Int32).toNatClampNeg 7) (23 : Int32).toNatClampNeg 8))) : Ct G l yX12_fieldOf wsX12_fieldOf ({ frames := 0, cells := 0, slots := 0, locals := 0 }) 0 0 [.ref y, .int 0, .int 8] Φ sz (fun v Φ1 sz1 => v = some (.int 8) ∧ sz1 = sz ∧ (∀ b9 : Nat, Φ1 b9 = Φ b9)) := by
  refine Ct.of (cc := cX12_fieldOf) (maxL := 3) (ret := (some .int)) (by decide) rfl (Nat.le_of_ble_eq_true rfl) ?_
  intro p9 e9 s9 m9 w9 t9 k9 B
  show Z p9 l e9 _ s9 m9 _ w9 t9 k9 _ G 3 0 [(0, .ref y), (1, .int 0), (2, .int 8)] [] Φ sz 0 0
  refine z_aload_n B dX12_fieldOf_0 rfl 0 rfl ?_
  refine z_get (ref := "FlowExporterModel") (C := RX12) (T := TX12) (N := 54) (ci := 14) (v := .ref (y + 2)) B (by decide +kernel) rfl 2 (by decide) (by decide +kernel) rfl hc0_ rfl dX12_fieldOf_1 ?_
  refine z_bipush (v := 15) B dX12_fieldOf_4 rfl ?_
  refine z_bipush (v := 9) B dX12_fieldOf_6 rfl ?_
  refine z_iload_n B dX12_fieldOf_8 rfl 1 rfl ?_
  refine z_imul B dX12_fieldOf_9 ?_
  refine z_top (st1 := [.int 0, .int 15, .ref (y + 2)]) (congrArg (fun w9 : Int32 => ([.int w9, .int 15, .ref (y + 2)] : List Value)) (show (9 * 0 : Int32) = 0 by decide +kernel)) ?_
  refine z_iadd B dX12_fieldOf_10 ?_
  refine z_top (st1 := [.int 15, .ref (y + 2)]) (congrArg (fun w9 : Int32 => ([.int w9, .ref (y + 2)] : List Value)) (show (15 + 0 : Int32) = 15 by decide +kernel)) ?_
  refine z_iload_n B dX12_fieldOf_11 rfl 2 rfl ?_
  refine z_iadd B dX12_fieldOf_12 ?_
  refine z_top (st1 := [.int 23, .ref (y + 2)]) (congrArg (fun w9 : Int32 => ([.int w9, .ref (y + 2)] : List Value)) (show (15 + 8 : Int32) = 23 by decide +kernel)) ?_
  refine z_iald B hc2_ (vin rfl) dX12_fieldOf_13 ?_
  refine z_top (st1 := [.int 8]) (by rfl) ?_
  exact z_ret_i B dX12_fieldOf_14 ⟨rfl, rfl, (fun b9 => rfl)⟩

set_option maxHeartbeats 4000000 in
set_option maxRecDepth 100000 in
theorem m_fieldsOf_0 (G : EnvG) (l : Launch) (Φ : Hm) (sz : Nat) (y : Nat) (hc0_ : Φ y = some (o_ 14 [.int 0, .ref (y + 1), .ref (y + 2), .int 0, .int 1, .int 1, .int 0, .int 0, .ref (y + 3), .ref (y + 4), .int 0, .long 0, .ref (y + 5), .int 0, .int 0, .long 0, .long 0, .long 0, .long 0, .ref (y + 6), .ref (y + 7), .int 0, .ref (y + 8), .int 0, .ref (y + 9), .ref (y + 10), .int 0, .ref (y + 11), .ref (y + 12), .ref (y + 13), .ref (y + 14), .ref (y + 15), .ref (y + 16), .int 0, .long (-1), .ref (y + 17), .ref (y + 18), .ref (y + 19), .ref (y + 20), .ref (y + 21), .ref (y + 22), .int 0, .ref (y + 23), .ref (y + 24), .int 0, .ref (y + 25), .int 0, .int 0, .int 0, .int (-1), .int 0, .int 0, .int 0, .long 0])) (hc2_ : Φ (y + 2) = some (ai_ G 307 (upd (upd (upd (upd (upd (upd (upd (upd (upd (upd (upd (upd (upd (upd (upd (upd (upd (upd (upd (upd (upd (fun _ => 0) (0 : Int32).toNatClampNeg 1) (1 : Int32).toNatClampNeg 100) (2 : Int32).toNatClampNeg 1000) (3 : Int32).toNatClampNeg 100) (4 : Int32).toNatClampNeg 20) (5 : Int32).toNatClampNeg 1000) (6 : Int32).toNatClampNeg 5000) (7 : Int32).toNatClampNeg 512) (8 : Int32).toNatClampNeg 1) (9 : Int32).toNatClampNeg 511) (10 : Int32).toNatClampNeg 1) (11 : Int32).toNatClampNeg 9) (15 : Int32).toNatClampNeg 0) (16 : Int32).toNatClampNeg 1) (17 : Int32).toNatClampNeg 2) (18 : Int32).toNatClampNeg 3) (19 : Int32).toNatClampNeg 4) (20 : Int32).toNatClampNeg 5) (21 : Int32).toNatClampNeg 6) (22 : Int32).toNatClampNeg 7) (23 : Int32).toNatClampNeg 8))) : Ct G l yX12_fieldsOf wsX12_fieldsOf ({ frames := 1, cells := 0, slots := 0, locals := 22 }) 0 0 [.ref y, .int 0] Φ sz (fun v Φ1 sz1 => v = some (.int 511) ∧ sz1 = sz ∧ (∀ b9 : Nat, Φ1 b9 = Φ b9)) := by
  refine Ct.of (cc := cX12_fieldsOf) (maxL := 4) (ret := (some .int)) (by decide) rfl (Nat.le_of_ble_eq_true rfl) ?_
  intro p9 e9 s9 m9 w9 t9 k9 B
  show Z p9 l e9 _ s9 m9 _ w9 t9 k9 _ G 4 0 [(0, .ref y), (1, .int 0)] [] Φ sz 0 0
  refine z_iconst (v := 0) B dX12_fieldsOf_0 rfl ?_
  refine z_istore_n (lv' := [(2, .int 0), (0, .ref y), (1, .int 0)]) B dX12_fieldsOf_1 rfl (Nat.le_of_ble_eq_true rfl) rfl ?_
  refine z_iconst (v := 0) B dX12_fieldsOf_2 rfl ?_
  refine z_istore_n (lv' := [(3, .int 0), (2, .int 0), (0, .ref y), (1, .int 0)]) B dX12_fieldsOf_3 rfl (Nat.le_of_ble_eq_true rfl) rfl ?_
  refine z_iload_n B dX12_fieldsOf_4 rfl 0 rfl ?_
  refine z_aload_n B dX12_fieldsOf_5 rfl 2 rfl ?_
  refine z_iload_n B dX12_fieldsOf_6 rfl 3 rfl ?_
  refine z_callV (As := [.int 0]) (rest := [.int 0]) B (m_sizeOf_0 G l Φ sz y hc0_ hc2_) (cwV 1 B.1.2.2.2.2 gX12_fieldsOf_X12_sizeOf rfl rfl rfl (by decide +kernel) ⟨Nat.le_of_ble_eq_true rfl, Nat.le_of_ble_eq_true rfl⟩) hc0_ rfl rfl rfl rfl (Nat.le_of_ble_eq_true rfl) dX12_fieldsOf_7 ⟨Nat.le_of_ble_eq_true rfl, Nat.le_of_ble_eq_true rfl⟩ (fun v1 Φ1 sz1 st1 hp1 hs1 => ?_)
  obtain ⟨rfl, hq1, fr1⟩ := hp1
  replace hq1 : sz1 = sz := hq1
  subst sz1
  replace hs1 : st1 = [.int 9, .int 0] := hs1
  subst st1
  refine z_icmp_ge (tgt := 30) B dX12_fieldsOf_10 rfl (fun h9 => absurd h9 (by decide)) (fun c_1 => ?_)
  refine z_iload_n B dX12_fieldsOf_13 rfl 1 rfl ?_
  refine z_iconst (v := 1) B dX12_fieldsOf_14 rfl ?_
  refine z_aload_n B dX12_fieldsOf_15 rfl 2 rfl ?_
  refine z_iload_n B dX12_fieldsOf_16 rfl 3 rfl ?_
  refine z_iload_n B dX12_fieldsOf_17 rfl 0 rfl ?_
  have h_1 : Φ1 y = some (o_ 14 [.int 0, .ref (y + 1), .ref (y + 2), .int 0, .int 1, .int 1, .int 0, .int 0, .ref (y + 3), .ref (y + 4), .int 0, .long 0, .ref (y + 5), .int 0, .int 0, .long 0, .long 0, .long 0, .long 0, .ref (y + 6), .ref (y + 7), .int 0, .ref (y + 8), .int 0, .ref (y + 9), .ref (y + 10), .int 0, .ref (y + 11), .ref (y + 12), .ref (y + 13), .ref (y + 14), .ref (y + 15), .ref (y + 16), .int 0, .long (-1), .ref (y + 17), .ref (y + 18), .ref (y + 19), .ref (y + 20), .ref (y + 21), .ref (y + 22), .int 0, .ref (y + 23), .ref (y + 24), .int 0, .ref (y + 25), .int 0, .int 0, .int 0, .int (-1), .int 0, .int 0, .int 0, .long 0]) := ((fr1 y).trans hc0_)
  have h_2 : Φ1 (y + 2) = some (ai_ G 307 (upd (upd (upd (upd (upd (upd (upd (upd (upd (upd (upd (upd (upd (upd (upd (upd (upd (upd (upd (upd (upd (fun _ => 0) (0 : Int32).toNatClampNeg 1) (1 : Int32).toNatClampNeg 100) (2 : Int32).toNatClampNeg 1000) (3 : Int32).toNatClampNeg 100) (4 : Int32).toNatClampNeg 20) (5 : Int32).toNatClampNeg 1000) (6 : Int32).toNatClampNeg 5000) (7 : Int32).toNatClampNeg 512) (8 : Int32).toNatClampNeg 1) (9 : Int32).toNatClampNeg 511) (10 : Int32).toNatClampNeg 1) (11 : Int32).toNatClampNeg 9) (15 : Int32).toNatClampNeg 0) (16 : Int32).toNatClampNeg 1) (17 : Int32).toNatClampNeg 2) (18 : Int32).toNatClampNeg 3) (19 : Int32).toNatClampNeg 4) (20 : Int32).toNatClampNeg 5) (21 : Int32).toNatClampNeg 6) (22 : Int32).toNatClampNeg 7) (23 : Int32).toNatClampNeg 8)) := ((fr1 (y + 2)).trans hc2_)
  refine z_callV (As := [.int 0, .int 0]) (rest := [.int 1, .int 0]) B (m_fieldOf_0 G l Φ1 sz y h_1 h_2) (cwV 2 B.1.2.2.2.2 gX12_fieldsOf_X12_fieldOf rfl rfl rfl (by decide +kernel) ⟨Nat.le_of_ble_eq_true rfl, Nat.le_of_ble_eq_true rfl⟩) h_1 rfl rfl rfl rfl (Nat.le_of_ble_eq_true rfl) dX12_fieldsOf_18 ⟨Nat.le_of_ble_eq_true rfl, Nat.le_of_ble_eq_true rfl⟩ (fun v2 Φ2 sz2 st2 hp2 hs2 => ?_)
  obtain ⟨rfl, hq2, fr2⟩ := hp2
  replace hq2 : sz2 = sz := hq2
  subst sz2
  replace hs2 : st2 = [.int 0, .int 1, .int 0] := hs2
  subst st2
  refine z_ishl B dX12_fieldsOf_21 ?_
  refine z_top (st1 := [.int 1, .int 0]) (congrArg (fun w9 : Int32 => ([.int w9, .int 0] : List Value)) (show ((1 : Int32) <<< ((0 : Int32) &&& (31 : Int32)) : Int32) = 1 by decide +kernel)) ?_
  refine z_ior B dX12_fieldsOf_22 ?_
  refine z_top (st1 := [.int 1]) (congrArg (fun w9 : Int32 => ([.int w9] : List Value)) (show (0 ||| 1 : Int32) = 1 by decide +kernel)) ?_
  refine z_istore_n (lv' := [(2, .int 1), (3, .int 0), (0, .ref y), (1, .int 0)]) B dX12_fieldsOf_23 rfl (Nat.le_of_ble_eq_true rfl) rfl ?_
  refine z_iinc (k := 1) (v := 1) (lv' := [(3, .int 1), (2, .int 1), (0, .ref y), (1, .int 0)]) B dX12_fieldsOf_24 rfl rfl (Nat.le_of_ble_eq_true rfl) rfl ?_
  refine z_goto (tgt := 4) B dX12_fieldsOf_27 rfl ?_
  refine z_iload_n B dX12_fieldsOf_4 rfl 0 rfl ?_
  refine z_aload_n B dX12_fieldsOf_5 rfl 2 rfl ?_
  refine z_iload_n B dX12_fieldsOf_6 rfl 3 rfl ?_
  have h_3 : Φ2 y = some (o_ 14 [.int 0, .ref (y + 1), .ref (y + 2), .int 0, .int 1, .int 1, .int 0, .int 0, .ref (y + 3), .ref (y + 4), .int 0, .long 0, .ref (y + 5), .int 0, .int 0, .long 0, .long 0, .long 0, .long 0, .ref (y + 6), .ref (y + 7), .int 0, .ref (y + 8), .int 0, .ref (y + 9), .ref (y + 10), .int 0, .ref (y + 11), .ref (y + 12), .ref (y + 13), .ref (y + 14), .ref (y + 15), .ref (y + 16), .int 0, .long (-1), .ref (y + 17), .ref (y + 18), .ref (y + 19), .ref (y + 20), .ref (y + 21), .ref (y + 22), .int 0, .ref (y + 23), .ref (y + 24), .int 0, .ref (y + 25), .int 0, .int 0, .int 0, .int (-1), .int 0, .int 0, .int 0, .long 0]) := ((fr2 y).trans h_1)
  have h_4 : Φ2 (y + 2) = some (ai_ G 307 (upd (upd (upd (upd (upd (upd (upd (upd (upd (upd (upd (upd (upd (upd (upd (upd (upd (upd (upd (upd (upd (fun _ => 0) (0 : Int32).toNatClampNeg 1) (1 : Int32).toNatClampNeg 100) (2 : Int32).toNatClampNeg 1000) (3 : Int32).toNatClampNeg 100) (4 : Int32).toNatClampNeg 20) (5 : Int32).toNatClampNeg 1000) (6 : Int32).toNatClampNeg 5000) (7 : Int32).toNatClampNeg 512) (8 : Int32).toNatClampNeg 1) (9 : Int32).toNatClampNeg 511) (10 : Int32).toNatClampNeg 1) (11 : Int32).toNatClampNeg 9) (15 : Int32).toNatClampNeg 0) (16 : Int32).toNatClampNeg 1) (17 : Int32).toNatClampNeg 2) (18 : Int32).toNatClampNeg 3) (19 : Int32).toNatClampNeg 4) (20 : Int32).toNatClampNeg 5) (21 : Int32).toNatClampNeg 6) (22 : Int32).toNatClampNeg 7) (23 : Int32).toNatClampNeg 8)) := ((fr2 (y + 2)).trans h_2)
  refine z_callV (As := [.int 0]) (rest := [.int 1]) B (m_sizeOf_0 G l Φ2 sz y h_3 h_4) (cwV 1 B.1.2.2.2.2 gX12_fieldsOf_X12_sizeOf rfl rfl rfl (by decide +kernel) ⟨Nat.le_of_ble_eq_true rfl, Nat.le_of_ble_eq_true rfl⟩) h_3 rfl rfl rfl rfl (Nat.le_of_ble_eq_true rfl) dX12_fieldsOf_7 ⟨Nat.le_of_ble_eq_true rfl, Nat.le_of_ble_eq_true rfl⟩ (fun v3 Φ3 sz3 st3 hp3 hs3 => ?_)
  obtain ⟨rfl, hq3, fr3⟩ := hp3
  replace hq3 : sz3 = sz := hq3
  subst sz3
  replace hs3 : st3 = [.int 9, .int 1] := hs3
  subst st3
  refine z_icmp_ge (tgt := 30) B dX12_fieldsOf_10 rfl (fun h9 => absurd h9 (by decide)) (fun c_2 => ?_)
  refine z_iload_n B dX12_fieldsOf_13 rfl 1 rfl ?_
  refine z_iconst (v := 1) B dX12_fieldsOf_14 rfl ?_
  refine z_aload_n B dX12_fieldsOf_15 rfl 2 rfl ?_
  refine z_iload_n B dX12_fieldsOf_16 rfl 3 rfl ?_
  refine z_iload_n B dX12_fieldsOf_17 rfl 0 rfl ?_
  have h_5 : Φ3 y = some (o_ 14 [.int 0, .ref (y + 1), .ref (y + 2), .int 0, .int 1, .int 1, .int 0, .int 0, .ref (y + 3), .ref (y + 4), .int 0, .long 0, .ref (y + 5), .int 0, .int 0, .long 0, .long 0, .long 0, .long 0, .ref (y + 6), .ref (y + 7), .int 0, .ref (y + 8), .int 0, .ref (y + 9), .ref (y + 10), .int 0, .ref (y + 11), .ref (y + 12), .ref (y + 13), .ref (y + 14), .ref (y + 15), .ref (y + 16), .int 0, .long (-1), .ref (y + 17), .ref (y + 18), .ref (y + 19), .ref (y + 20), .ref (y + 21), .ref (y + 22), .int 0, .ref (y + 23), .ref (y + 24), .int 0, .ref (y + 25), .int 0, .int 0, .int 0, .int (-1), .int 0, .int 0, .int 0, .long 0]) := ((fr3 y).trans h_3)
  have h_6 : Φ3 (y + 2) = some (ai_ G 307 (upd (upd (upd (upd (upd (upd (upd (upd (upd (upd (upd (upd (upd (upd (upd (upd (upd (upd (upd (upd (upd (fun _ => 0) (0 : Int32).toNatClampNeg 1) (1 : Int32).toNatClampNeg 100) (2 : Int32).toNatClampNeg 1000) (3 : Int32).toNatClampNeg 100) (4 : Int32).toNatClampNeg 20) (5 : Int32).toNatClampNeg 1000) (6 : Int32).toNatClampNeg 5000) (7 : Int32).toNatClampNeg 512) (8 : Int32).toNatClampNeg 1) (9 : Int32).toNatClampNeg 511) (10 : Int32).toNatClampNeg 1) (11 : Int32).toNatClampNeg 9) (15 : Int32).toNatClampNeg 0) (16 : Int32).toNatClampNeg 1) (17 : Int32).toNatClampNeg 2) (18 : Int32).toNatClampNeg 3) (19 : Int32).toNatClampNeg 4) (20 : Int32).toNatClampNeg 5) (21 : Int32).toNatClampNeg 6) (22 : Int32).toNatClampNeg 7) (23 : Int32).toNatClampNeg 8)) := ((fr3 (y + 2)).trans h_4)
  refine z_callV (As := [.int 0, .int 1]) (rest := [.int 1, .int 1]) B (m_fieldOf_1 G l Φ3 sz y h_5 h_6) (cwV 2 B.1.2.2.2.2 gX12_fieldsOf_X12_fieldOf rfl rfl rfl (by decide +kernel) ⟨Nat.le_of_ble_eq_true rfl, Nat.le_of_ble_eq_true rfl⟩) h_5 rfl rfl rfl rfl (Nat.le_of_ble_eq_true rfl) dX12_fieldsOf_18 ⟨Nat.le_of_ble_eq_true rfl, Nat.le_of_ble_eq_true rfl⟩ (fun v4 Φ4 sz4 st4 hp4 hs4 => ?_)
  obtain ⟨rfl, hq4, fr4⟩ := hp4
  replace hq4 : sz4 = sz := hq4
  subst sz4
  replace hs4 : st4 = [.int 1, .int 1, .int 1] := hs4
  subst st4
  refine z_ishl B dX12_fieldsOf_21 ?_
  refine z_top (st1 := [.int 2, .int 1]) (congrArg (fun w9 : Int32 => ([.int w9, .int 1] : List Value)) (show ((1 : Int32) <<< ((1 : Int32) &&& (31 : Int32)) : Int32) = 2 by decide +kernel)) ?_
  refine z_ior B dX12_fieldsOf_22 ?_
  refine z_top (st1 := [.int 3]) (congrArg (fun w9 : Int32 => ([.int w9] : List Value)) (show (1 ||| 2 : Int32) = 3 by decide +kernel)) ?_
  refine z_istore_n (lv' := [(2, .int 3), (3, .int 1), (0, .ref y), (1, .int 0)]) B dX12_fieldsOf_23 rfl (Nat.le_of_ble_eq_true rfl) rfl ?_
  refine z_iinc (k := 1) (v := 2) (lv' := [(3, .int 2), (2, .int 3), (0, .ref y), (1, .int 0)]) B dX12_fieldsOf_24 rfl rfl (Nat.le_of_ble_eq_true rfl) rfl ?_
  refine z_goto (tgt := 4) B dX12_fieldsOf_27 rfl ?_
  refine z_iload_n B dX12_fieldsOf_4 rfl 0 rfl ?_
  refine z_aload_n B dX12_fieldsOf_5 rfl 2 rfl ?_
  refine z_iload_n B dX12_fieldsOf_6 rfl 3 rfl ?_
  have h_7 : Φ4 y = some (o_ 14 [.int 0, .ref (y + 1), .ref (y + 2), .int 0, .int 1, .int 1, .int 0, .int 0, .ref (y + 3), .ref (y + 4), .int 0, .long 0, .ref (y + 5), .int 0, .int 0, .long 0, .long 0, .long 0, .long 0, .ref (y + 6), .ref (y + 7), .int 0, .ref (y + 8), .int 0, .ref (y + 9), .ref (y + 10), .int 0, .ref (y + 11), .ref (y + 12), .ref (y + 13), .ref (y + 14), .ref (y + 15), .ref (y + 16), .int 0, .long (-1), .ref (y + 17), .ref (y + 18), .ref (y + 19), .ref (y + 20), .ref (y + 21), .ref (y + 22), .int 0, .ref (y + 23), .ref (y + 24), .int 0, .ref (y + 25), .int 0, .int 0, .int 0, .int (-1), .int 0, .int 0, .int 0, .long 0]) := ((fr4 y).trans h_5)
  have h_8 : Φ4 (y + 2) = some (ai_ G 307 (upd (upd (upd (upd (upd (upd (upd (upd (upd (upd (upd (upd (upd (upd (upd (upd (upd (upd (upd (upd (upd (fun _ => 0) (0 : Int32).toNatClampNeg 1) (1 : Int32).toNatClampNeg 100) (2 : Int32).toNatClampNeg 1000) (3 : Int32).toNatClampNeg 100) (4 : Int32).toNatClampNeg 20) (5 : Int32).toNatClampNeg 1000) (6 : Int32).toNatClampNeg 5000) (7 : Int32).toNatClampNeg 512) (8 : Int32).toNatClampNeg 1) (9 : Int32).toNatClampNeg 511) (10 : Int32).toNatClampNeg 1) (11 : Int32).toNatClampNeg 9) (15 : Int32).toNatClampNeg 0) (16 : Int32).toNatClampNeg 1) (17 : Int32).toNatClampNeg 2) (18 : Int32).toNatClampNeg 3) (19 : Int32).toNatClampNeg 4) (20 : Int32).toNatClampNeg 5) (21 : Int32).toNatClampNeg 6) (22 : Int32).toNatClampNeg 7) (23 : Int32).toNatClampNeg 8)) := ((fr4 (y + 2)).trans h_6)
  refine z_callV (As := [.int 0]) (rest := [.int 2]) B (m_sizeOf_0 G l Φ4 sz y h_7 h_8) (cwV 1 B.1.2.2.2.2 gX12_fieldsOf_X12_sizeOf rfl rfl rfl (by decide +kernel) ⟨Nat.le_of_ble_eq_true rfl, Nat.le_of_ble_eq_true rfl⟩) h_7 rfl rfl rfl rfl (Nat.le_of_ble_eq_true rfl) dX12_fieldsOf_7 ⟨Nat.le_of_ble_eq_true rfl, Nat.le_of_ble_eq_true rfl⟩ (fun v5 Φ5 sz5 st5 hp5 hs5 => ?_)
  obtain ⟨rfl, hq5, fr5⟩ := hp5
  replace hq5 : sz5 = sz := hq5
  subst sz5
  replace hs5 : st5 = [.int 9, .int 2] := hs5
  subst st5
  refine z_icmp_ge (tgt := 30) B dX12_fieldsOf_10 rfl (fun h9 => absurd h9 (by decide)) (fun c_3 => ?_)
  refine z_iload_n B dX12_fieldsOf_13 rfl 1 rfl ?_
  refine z_iconst (v := 1) B dX12_fieldsOf_14 rfl ?_
  refine z_aload_n B dX12_fieldsOf_15 rfl 2 rfl ?_
  refine z_iload_n B dX12_fieldsOf_16 rfl 3 rfl ?_
  refine z_iload_n B dX12_fieldsOf_17 rfl 0 rfl ?_
  have h_9 : Φ5 y = some (o_ 14 [.int 0, .ref (y + 1), .ref (y + 2), .int 0, .int 1, .int 1, .int 0, .int 0, .ref (y + 3), .ref (y + 4), .int 0, .long 0, .ref (y + 5), .int 0, .int 0, .long 0, .long 0, .long 0, .long 0, .ref (y + 6), .ref (y + 7), .int 0, .ref (y + 8), .int 0, .ref (y + 9), .ref (y + 10), .int 0, .ref (y + 11), .ref (y + 12), .ref (y + 13), .ref (y + 14), .ref (y + 15), .ref (y + 16), .int 0, .long (-1), .ref (y + 17), .ref (y + 18), .ref (y + 19), .ref (y + 20), .ref (y + 21), .ref (y + 22), .int 0, .ref (y + 23), .ref (y + 24), .int 0, .ref (y + 25), .int 0, .int 0, .int 0, .int (-1), .int 0, .int 0, .int 0, .long 0]) := ((fr5 y).trans h_7)
  have h_10 : Φ5 (y + 2) = some (ai_ G 307 (upd (upd (upd (upd (upd (upd (upd (upd (upd (upd (upd (upd (upd (upd (upd (upd (upd (upd (upd (upd (upd (fun _ => 0) (0 : Int32).toNatClampNeg 1) (1 : Int32).toNatClampNeg 100) (2 : Int32).toNatClampNeg 1000) (3 : Int32).toNatClampNeg 100) (4 : Int32).toNatClampNeg 20) (5 : Int32).toNatClampNeg 1000) (6 : Int32).toNatClampNeg 5000) (7 : Int32).toNatClampNeg 512) (8 : Int32).toNatClampNeg 1) (9 : Int32).toNatClampNeg 511) (10 : Int32).toNatClampNeg 1) (11 : Int32).toNatClampNeg 9) (15 : Int32).toNatClampNeg 0) (16 : Int32).toNatClampNeg 1) (17 : Int32).toNatClampNeg 2) (18 : Int32).toNatClampNeg 3) (19 : Int32).toNatClampNeg 4) (20 : Int32).toNatClampNeg 5) (21 : Int32).toNatClampNeg 6) (22 : Int32).toNatClampNeg 7) (23 : Int32).toNatClampNeg 8)) := ((fr5 (y + 2)).trans h_8)
  refine z_callV (As := [.int 0, .int 2]) (rest := [.int 1, .int 3]) B (m_fieldOf_2 G l Φ5 sz y h_9 h_10) (cwV 2 B.1.2.2.2.2 gX12_fieldsOf_X12_fieldOf rfl rfl rfl (by decide +kernel) ⟨Nat.le_of_ble_eq_true rfl, Nat.le_of_ble_eq_true rfl⟩) h_9 rfl rfl rfl rfl (Nat.le_of_ble_eq_true rfl) dX12_fieldsOf_18 ⟨Nat.le_of_ble_eq_true rfl, Nat.le_of_ble_eq_true rfl⟩ (fun v6 Φ6 sz6 st6 hp6 hs6 => ?_)
  obtain ⟨rfl, hq6, fr6⟩ := hp6
  replace hq6 : sz6 = sz := hq6
  subst sz6
  replace hs6 : st6 = [.int 2, .int 1, .int 3] := hs6
  subst st6
  refine z_ishl B dX12_fieldsOf_21 ?_
  refine z_top (st1 := [.int 4, .int 3]) (congrArg (fun w9 : Int32 => ([.int w9, .int 3] : List Value)) (show ((1 : Int32) <<< ((2 : Int32) &&& (31 : Int32)) : Int32) = 4 by decide +kernel)) ?_
  refine z_ior B dX12_fieldsOf_22 ?_
  refine z_top (st1 := [.int 7]) (congrArg (fun w9 : Int32 => ([.int w9] : List Value)) (show (3 ||| 4 : Int32) = 7 by decide +kernel)) ?_
  refine z_istore_n (lv' := [(2, .int 7), (3, .int 2), (0, .ref y), (1, .int 0)]) B dX12_fieldsOf_23 rfl (Nat.le_of_ble_eq_true rfl) rfl ?_
  refine z_iinc (k := 1) (v := 3) (lv' := [(3, .int 3), (2, .int 7), (0, .ref y), (1, .int 0)]) B dX12_fieldsOf_24 rfl rfl (Nat.le_of_ble_eq_true rfl) rfl ?_
  refine z_goto (tgt := 4) B dX12_fieldsOf_27 rfl ?_
  refine z_iload_n B dX12_fieldsOf_4 rfl 0 rfl ?_
  refine z_aload_n B dX12_fieldsOf_5 rfl 2 rfl ?_
  refine z_iload_n B dX12_fieldsOf_6 rfl 3 rfl ?_
  have h_11 : Φ6 y = some (o_ 14 [.int 0, .ref (y + 1), .ref (y + 2), .int 0, .int 1, .int 1, .int 0, .int 0, .ref (y + 3), .ref (y + 4), .int 0, .long 0, .ref (y + 5), .int 0, .int 0, .long 0, .long 0, .long 0, .long 0, .ref (y + 6), .ref (y + 7), .int 0, .ref (y + 8), .int 0, .ref (y + 9), .ref (y + 10), .int 0, .ref (y + 11), .ref (y + 12), .ref (y + 13), .ref (y + 14), .ref (y + 15), .ref (y + 16), .int 0, .long (-1), .ref (y + 17), .ref (y + 18), .ref (y + 19), .ref (y + 20), .ref (y + 21), .ref (y + 22), .int 0, .ref (y + 23), .ref (y + 24), .int 0, .ref (y + 25), .int 0, .int 0, .int 0, .int (-1), .int 0, .int 0, .int 0, .long 0]) := ((fr6 y).trans h_9)
  have h_12 : Φ6 (y + 2) = some (ai_ G 307 (upd (upd (upd (upd (upd (upd (upd (upd (upd (upd (upd (upd (upd (upd (upd (upd (upd (upd (upd (upd (upd (fun _ => 0) (0 : Int32).toNatClampNeg 1) (1 : Int32).toNatClampNeg 100) (2 : Int32).toNatClampNeg 1000) (3 : Int32).toNatClampNeg 100) (4 : Int32).toNatClampNeg 20) (5 : Int32).toNatClampNeg 1000) (6 : Int32).toNatClampNeg 5000) (7 : Int32).toNatClampNeg 512) (8 : Int32).toNatClampNeg 1) (9 : Int32).toNatClampNeg 511) (10 : Int32).toNatClampNeg 1) (11 : Int32).toNatClampNeg 9) (15 : Int32).toNatClampNeg 0) (16 : Int32).toNatClampNeg 1) (17 : Int32).toNatClampNeg 2) (18 : Int32).toNatClampNeg 3) (19 : Int32).toNatClampNeg 4) (20 : Int32).toNatClampNeg 5) (21 : Int32).toNatClampNeg 6) (22 : Int32).toNatClampNeg 7) (23 : Int32).toNatClampNeg 8)) := ((fr6 (y + 2)).trans h_10)
  refine z_callV (As := [.int 0]) (rest := [.int 3]) B (m_sizeOf_0 G l Φ6 sz y h_11 h_12) (cwV 1 B.1.2.2.2.2 gX12_fieldsOf_X12_sizeOf rfl rfl rfl (by decide +kernel) ⟨Nat.le_of_ble_eq_true rfl, Nat.le_of_ble_eq_true rfl⟩) h_11 rfl rfl rfl rfl (Nat.le_of_ble_eq_true rfl) dX12_fieldsOf_7 ⟨Nat.le_of_ble_eq_true rfl, Nat.le_of_ble_eq_true rfl⟩ (fun v7 Φ7 sz7 st7 hp7 hs7 => ?_)
  obtain ⟨rfl, hq7, fr7⟩ := hp7
  replace hq7 : sz7 = sz := hq7
  subst sz7
  replace hs7 : st7 = [.int 9, .int 3] := hs7
  subst st7
  refine z_icmp_ge (tgt := 30) B dX12_fieldsOf_10 rfl (fun h9 => absurd h9 (by decide)) (fun c_4 => ?_)
  refine z_iload_n B dX12_fieldsOf_13 rfl 1 rfl ?_
  refine z_iconst (v := 1) B dX12_fieldsOf_14 rfl ?_
  refine z_aload_n B dX12_fieldsOf_15 rfl 2 rfl ?_
  refine z_iload_n B dX12_fieldsOf_16 rfl 3 rfl ?_
  refine z_iload_n B dX12_fieldsOf_17 rfl 0 rfl ?_
  have h_13 : Φ7 y = some (o_ 14 [.int 0, .ref (y + 1), .ref (y + 2), .int 0, .int 1, .int 1, .int 0, .int 0, .ref (y + 3), .ref (y + 4), .int 0, .long 0, .ref (y + 5), .int 0, .int 0, .long 0, .long 0, .long 0, .long 0, .ref (y + 6), .ref (y + 7), .int 0, .ref (y + 8), .int 0, .ref (y + 9), .ref (y + 10), .int 0, .ref (y + 11), .ref (y + 12), .ref (y + 13), .ref (y + 14), .ref (y + 15), .ref (y + 16), .int 0, .long (-1), .ref (y + 17), .ref (y + 18), .ref (y + 19), .ref (y + 20), .ref (y + 21), .ref (y + 22), .int 0, .ref (y + 23), .ref (y + 24), .int 0, .ref (y + 25), .int 0, .int 0, .int 0, .int (-1), .int 0, .int 0, .int 0, .long 0]) := ((fr7 y).trans h_11)
  have h_14 : Φ7 (y + 2) = some (ai_ G 307 (upd (upd (upd (upd (upd (upd (upd (upd (upd (upd (upd (upd (upd (upd (upd (upd (upd (upd (upd (upd (upd (fun _ => 0) (0 : Int32).toNatClampNeg 1) (1 : Int32).toNatClampNeg 100) (2 : Int32).toNatClampNeg 1000) (3 : Int32).toNatClampNeg 100) (4 : Int32).toNatClampNeg 20) (5 : Int32).toNatClampNeg 1000) (6 : Int32).toNatClampNeg 5000) (7 : Int32).toNatClampNeg 512) (8 : Int32).toNatClampNeg 1) (9 : Int32).toNatClampNeg 511) (10 : Int32).toNatClampNeg 1) (11 : Int32).toNatClampNeg 9) (15 : Int32).toNatClampNeg 0) (16 : Int32).toNatClampNeg 1) (17 : Int32).toNatClampNeg 2) (18 : Int32).toNatClampNeg 3) (19 : Int32).toNatClampNeg 4) (20 : Int32).toNatClampNeg 5) (21 : Int32).toNatClampNeg 6) (22 : Int32).toNatClampNeg 7) (23 : Int32).toNatClampNeg 8)) := ((fr7 (y + 2)).trans h_12)
  refine z_callV (As := [.int 0, .int 3]) (rest := [.int 1, .int 7]) B (m_fieldOf_3 G l Φ7 sz y h_13 h_14) (cwV 2 B.1.2.2.2.2 gX12_fieldsOf_X12_fieldOf rfl rfl rfl (by decide +kernel) ⟨Nat.le_of_ble_eq_true rfl, Nat.le_of_ble_eq_true rfl⟩) h_13 rfl rfl rfl rfl (Nat.le_of_ble_eq_true rfl) dX12_fieldsOf_18 ⟨Nat.le_of_ble_eq_true rfl, Nat.le_of_ble_eq_true rfl⟩ (fun v8 Φ8 sz8 st8 hp8 hs8 => ?_)
  obtain ⟨rfl, hq8, fr8⟩ := hp8
  replace hq8 : sz8 = sz := hq8
  subst sz8
  replace hs8 : st8 = [.int 3, .int 1, .int 7] := hs8
  subst st8
  refine z_ishl B dX12_fieldsOf_21 ?_
  refine z_top (st1 := [.int 8, .int 7]) (congrArg (fun w9 : Int32 => ([.int w9, .int 7] : List Value)) (show ((1 : Int32) <<< ((3 : Int32) &&& (31 : Int32)) : Int32) = 8 by decide +kernel)) ?_
  refine z_ior B dX12_fieldsOf_22 ?_
  refine z_top (st1 := [.int 15]) (congrArg (fun w9 : Int32 => ([.int w9] : List Value)) (show (7 ||| 8 : Int32) = 15 by decide +kernel)) ?_
  refine z_istore_n (lv' := [(2, .int 15), (3, .int 3), (0, .ref y), (1, .int 0)]) B dX12_fieldsOf_23 rfl (Nat.le_of_ble_eq_true rfl) rfl ?_
  refine z_iinc (k := 1) (v := 4) (lv' := [(3, .int 4), (2, .int 15), (0, .ref y), (1, .int 0)]) B dX12_fieldsOf_24 rfl rfl (Nat.le_of_ble_eq_true rfl) rfl ?_
  refine z_goto (tgt := 4) B dX12_fieldsOf_27 rfl ?_
  refine z_iload_n B dX12_fieldsOf_4 rfl 0 rfl ?_
  refine z_aload_n B dX12_fieldsOf_5 rfl 2 rfl ?_
  refine z_iload_n B dX12_fieldsOf_6 rfl 3 rfl ?_
  have h_15 : Φ8 y = some (o_ 14 [.int 0, .ref (y + 1), .ref (y + 2), .int 0, .int 1, .int 1, .int 0, .int 0, .ref (y + 3), .ref (y + 4), .int 0, .long 0, .ref (y + 5), .int 0, .int 0, .long 0, .long 0, .long 0, .long 0, .ref (y + 6), .ref (y + 7), .int 0, .ref (y + 8), .int 0, .ref (y + 9), .ref (y + 10), .int 0, .ref (y + 11), .ref (y + 12), .ref (y + 13), .ref (y + 14), .ref (y + 15), .ref (y + 16), .int 0, .long (-1), .ref (y + 17), .ref (y + 18), .ref (y + 19), .ref (y + 20), .ref (y + 21), .ref (y + 22), .int 0, .ref (y + 23), .ref (y + 24), .int 0, .ref (y + 25), .int 0, .int 0, .int 0, .int (-1), .int 0, .int 0, .int 0, .long 0]) := ((fr8 y).trans h_13)
  have h_16 : Φ8 (y + 2) = some (ai_ G 307 (upd (upd (upd (upd (upd (upd (upd (upd (upd (upd (upd (upd (upd (upd (upd (upd (upd (upd (upd (upd (upd (fun _ => 0) (0 : Int32).toNatClampNeg 1) (1 : Int32).toNatClampNeg 100) (2 : Int32).toNatClampNeg 1000) (3 : Int32).toNatClampNeg 100) (4 : Int32).toNatClampNeg 20) (5 : Int32).toNatClampNeg 1000) (6 : Int32).toNatClampNeg 5000) (7 : Int32).toNatClampNeg 512) (8 : Int32).toNatClampNeg 1) (9 : Int32).toNatClampNeg 511) (10 : Int32).toNatClampNeg 1) (11 : Int32).toNatClampNeg 9) (15 : Int32).toNatClampNeg 0) (16 : Int32).toNatClampNeg 1) (17 : Int32).toNatClampNeg 2) (18 : Int32).toNatClampNeg 3) (19 : Int32).toNatClampNeg 4) (20 : Int32).toNatClampNeg 5) (21 : Int32).toNatClampNeg 6) (22 : Int32).toNatClampNeg 7) (23 : Int32).toNatClampNeg 8)) := ((fr8 (y + 2)).trans h_14)
  refine z_callV (As := [.int 0]) (rest := [.int 4]) B (m_sizeOf_0 G l Φ8 sz y h_15 h_16) (cwV 1 B.1.2.2.2.2 gX12_fieldsOf_X12_sizeOf rfl rfl rfl (by decide +kernel) ⟨Nat.le_of_ble_eq_true rfl, Nat.le_of_ble_eq_true rfl⟩) h_15 rfl rfl rfl rfl (Nat.le_of_ble_eq_true rfl) dX12_fieldsOf_7 ⟨Nat.le_of_ble_eq_true rfl, Nat.le_of_ble_eq_true rfl⟩ (fun v9 Φ9 sz9 st9 hp9 hs9 => ?_)
  obtain ⟨rfl, hq9, fr9⟩ := hp9
  replace hq9 : sz9 = sz := hq9
  subst sz9
  replace hs9 : st9 = [.int 9, .int 4] := hs9
  subst st9
  refine z_icmp_ge (tgt := 30) B dX12_fieldsOf_10 rfl (fun h9 => absurd h9 (by decide)) (fun c_5 => ?_)
  refine z_iload_n B dX12_fieldsOf_13 rfl 1 rfl ?_
  refine z_iconst (v := 1) B dX12_fieldsOf_14 rfl ?_
  refine z_aload_n B dX12_fieldsOf_15 rfl 2 rfl ?_
  refine z_iload_n B dX12_fieldsOf_16 rfl 3 rfl ?_
  refine z_iload_n B dX12_fieldsOf_17 rfl 0 rfl ?_
  have h_17 : Φ9 y = some (o_ 14 [.int 0, .ref (y + 1), .ref (y + 2), .int 0, .int 1, .int 1, .int 0, .int 0, .ref (y + 3), .ref (y + 4), .int 0, .long 0, .ref (y + 5), .int 0, .int 0, .long 0, .long 0, .long 0, .long 0, .ref (y + 6), .ref (y + 7), .int 0, .ref (y + 8), .int 0, .ref (y + 9), .ref (y + 10), .int 0, .ref (y + 11), .ref (y + 12), .ref (y + 13), .ref (y + 14), .ref (y + 15), .ref (y + 16), .int 0, .long (-1), .ref (y + 17), .ref (y + 18), .ref (y + 19), .ref (y + 20), .ref (y + 21), .ref (y + 22), .int 0, .ref (y + 23), .ref (y + 24), .int 0, .ref (y + 25), .int 0, .int 0, .int 0, .int (-1), .int 0, .int 0, .int 0, .long 0]) := ((fr9 y).trans h_15)
  have h_18 : Φ9 (y + 2) = some (ai_ G 307 (upd (upd (upd (upd (upd (upd (upd (upd (upd (upd (upd (upd (upd (upd (upd (upd (upd (upd (upd (upd (upd (fun _ => 0) (0 : Int32).toNatClampNeg 1) (1 : Int32).toNatClampNeg 100) (2 : Int32).toNatClampNeg 1000) (3 : Int32).toNatClampNeg 100) (4 : Int32).toNatClampNeg 20) (5 : Int32).toNatClampNeg 1000) (6 : Int32).toNatClampNeg 5000) (7 : Int32).toNatClampNeg 512) (8 : Int32).toNatClampNeg 1) (9 : Int32).toNatClampNeg 511) (10 : Int32).toNatClampNeg 1) (11 : Int32).toNatClampNeg 9) (15 : Int32).toNatClampNeg 0) (16 : Int32).toNatClampNeg 1) (17 : Int32).toNatClampNeg 2) (18 : Int32).toNatClampNeg 3) (19 : Int32).toNatClampNeg 4) (20 : Int32).toNatClampNeg 5) (21 : Int32).toNatClampNeg 6) (22 : Int32).toNatClampNeg 7) (23 : Int32).toNatClampNeg 8)) := ((fr9 (y + 2)).trans h_16)
  refine z_callV (As := [.int 0, .int 4]) (rest := [.int 1, .int 15]) B (m_fieldOf_4 G l Φ9 sz y h_17 h_18) (cwV 2 B.1.2.2.2.2 gX12_fieldsOf_X12_fieldOf rfl rfl rfl (by decide +kernel) ⟨Nat.le_of_ble_eq_true rfl, Nat.le_of_ble_eq_true rfl⟩) h_17 rfl rfl rfl rfl (Nat.le_of_ble_eq_true rfl) dX12_fieldsOf_18 ⟨Nat.le_of_ble_eq_true rfl, Nat.le_of_ble_eq_true rfl⟩ (fun v10 Φ10 sz10 st10 hp10 hs10 => ?_)
  obtain ⟨rfl, hq10, fr10⟩ := hp10
  replace hq10 : sz10 = sz := hq10
  subst sz10
  replace hs10 : st10 = [.int 4, .int 1, .int 15] := hs10
  subst st10
  refine z_ishl B dX12_fieldsOf_21 ?_
  refine z_top (st1 := [.int 16, .int 15]) (congrArg (fun w9 : Int32 => ([.int w9, .int 15] : List Value)) (show ((1 : Int32) <<< ((4 : Int32) &&& (31 : Int32)) : Int32) = 16 by decide +kernel)) ?_
  refine z_ior B dX12_fieldsOf_22 ?_
  refine z_top (st1 := [.int 31]) (congrArg (fun w9 : Int32 => ([.int w9] : List Value)) (show (15 ||| 16 : Int32) = 31 by decide +kernel)) ?_
  refine z_istore_n (lv' := [(2, .int 31), (3, .int 4), (0, .ref y), (1, .int 0)]) B dX12_fieldsOf_23 rfl (Nat.le_of_ble_eq_true rfl) rfl ?_
  refine z_iinc (k := 1) (v := 5) (lv' := [(3, .int 5), (2, .int 31), (0, .ref y), (1, .int 0)]) B dX12_fieldsOf_24 rfl rfl (Nat.le_of_ble_eq_true rfl) rfl ?_
  refine z_goto (tgt := 4) B dX12_fieldsOf_27 rfl ?_
  refine z_iload_n B dX12_fieldsOf_4 rfl 0 rfl ?_
  refine z_aload_n B dX12_fieldsOf_5 rfl 2 rfl ?_
  refine z_iload_n B dX12_fieldsOf_6 rfl 3 rfl ?_
  have h_19 : Φ10 y = some (o_ 14 [.int 0, .ref (y + 1), .ref (y + 2), .int 0, .int 1, .int 1, .int 0, .int 0, .ref (y + 3), .ref (y + 4), .int 0, .long 0, .ref (y + 5), .int 0, .int 0, .long 0, .long 0, .long 0, .long 0, .ref (y + 6), .ref (y + 7), .int 0, .ref (y + 8), .int 0, .ref (y + 9), .ref (y + 10), .int 0, .ref (y + 11), .ref (y + 12), .ref (y + 13), .ref (y + 14), .ref (y + 15), .ref (y + 16), .int 0, .long (-1), .ref (y + 17), .ref (y + 18), .ref (y + 19), .ref (y + 20), .ref (y + 21), .ref (y + 22), .int 0, .ref (y + 23), .ref (y + 24), .int 0, .ref (y + 25), .int 0, .int 0, .int 0, .int (-1), .int 0, .int 0, .int 0, .long 0]) := ((fr10 y).trans h_17)
  have h_20 : Φ10 (y + 2) = some (ai_ G 307 (upd (upd (upd (upd (upd (upd (upd (upd (upd (upd (upd (upd (upd (upd (upd (upd (upd (upd (upd (upd (upd (fun _ => 0) (0 : Int32).toNatClampNeg 1) (1 : Int32).toNatClampNeg 100) (2 : Int32).toNatClampNeg 1000) (3 : Int32).toNatClampNeg 100) (4 : Int32).toNatClampNeg 20) (5 : Int32).toNatClampNeg 1000) (6 : Int32).toNatClampNeg 5000) (7 : Int32).toNatClampNeg 512) (8 : Int32).toNatClampNeg 1) (9 : Int32).toNatClampNeg 511) (10 : Int32).toNatClampNeg 1) (11 : Int32).toNatClampNeg 9) (15 : Int32).toNatClampNeg 0) (16 : Int32).toNatClampNeg 1) (17 : Int32).toNatClampNeg 2) (18 : Int32).toNatClampNeg 3) (19 : Int32).toNatClampNeg 4) (20 : Int32).toNatClampNeg 5) (21 : Int32).toNatClampNeg 6) (22 : Int32).toNatClampNeg 7) (23 : Int32).toNatClampNeg 8)) := ((fr10 (y + 2)).trans h_18)
  refine z_callV (As := [.int 0]) (rest := [.int 5]) B (m_sizeOf_0 G l Φ10 sz y h_19 h_20) (cwV 1 B.1.2.2.2.2 gX12_fieldsOf_X12_sizeOf rfl rfl rfl (by decide +kernel) ⟨Nat.le_of_ble_eq_true rfl, Nat.le_of_ble_eq_true rfl⟩) h_19 rfl rfl rfl rfl (Nat.le_of_ble_eq_true rfl) dX12_fieldsOf_7 ⟨Nat.le_of_ble_eq_true rfl, Nat.le_of_ble_eq_true rfl⟩ (fun v11 Φ11 sz11 st11 hp11 hs11 => ?_)
  obtain ⟨rfl, hq11, fr11⟩ := hp11
  replace hq11 : sz11 = sz := hq11
  subst sz11
  replace hs11 : st11 = [.int 9, .int 5] := hs11
  subst st11
  refine z_icmp_ge (tgt := 30) B dX12_fieldsOf_10 rfl (fun h9 => absurd h9 (by decide)) (fun c_6 => ?_)
  refine z_iload_n B dX12_fieldsOf_13 rfl 1 rfl ?_
  refine z_iconst (v := 1) B dX12_fieldsOf_14 rfl ?_
  refine z_aload_n B dX12_fieldsOf_15 rfl 2 rfl ?_
  refine z_iload_n B dX12_fieldsOf_16 rfl 3 rfl ?_
  refine z_iload_n B dX12_fieldsOf_17 rfl 0 rfl ?_
  have h_21 : Φ11 y = some (o_ 14 [.int 0, .ref (y + 1), .ref (y + 2), .int 0, .int 1, .int 1, .int 0, .int 0, .ref (y + 3), .ref (y + 4), .int 0, .long 0, .ref (y + 5), .int 0, .int 0, .long 0, .long 0, .long 0, .long 0, .ref (y + 6), .ref (y + 7), .int 0, .ref (y + 8), .int 0, .ref (y + 9), .ref (y + 10), .int 0, .ref (y + 11), .ref (y + 12), .ref (y + 13), .ref (y + 14), .ref (y + 15), .ref (y + 16), .int 0, .long (-1), .ref (y + 17), .ref (y + 18), .ref (y + 19), .ref (y + 20), .ref (y + 21), .ref (y + 22), .int 0, .ref (y + 23), .ref (y + 24), .int 0, .ref (y + 25), .int 0, .int 0, .int 0, .int (-1), .int 0, .int 0, .int 0, .long 0]) := ((fr11 y).trans h_19)
  have h_22 : Φ11 (y + 2) = some (ai_ G 307 (upd (upd (upd (upd (upd (upd (upd (upd (upd (upd (upd (upd (upd (upd (upd (upd (upd (upd (upd (upd (upd (fun _ => 0) (0 : Int32).toNatClampNeg 1) (1 : Int32).toNatClampNeg 100) (2 : Int32).toNatClampNeg 1000) (3 : Int32).toNatClampNeg 100) (4 : Int32).toNatClampNeg 20) (5 : Int32).toNatClampNeg 1000) (6 : Int32).toNatClampNeg 5000) (7 : Int32).toNatClampNeg 512) (8 : Int32).toNatClampNeg 1) (9 : Int32).toNatClampNeg 511) (10 : Int32).toNatClampNeg 1) (11 : Int32).toNatClampNeg 9) (15 : Int32).toNatClampNeg 0) (16 : Int32).toNatClampNeg 1) (17 : Int32).toNatClampNeg 2) (18 : Int32).toNatClampNeg 3) (19 : Int32).toNatClampNeg 4) (20 : Int32).toNatClampNeg 5) (21 : Int32).toNatClampNeg 6) (22 : Int32).toNatClampNeg 7) (23 : Int32).toNatClampNeg 8)) := ((fr11 (y + 2)).trans h_20)
  refine z_callV (As := [.int 0, .int 5]) (rest := [.int 1, .int 31]) B (m_fieldOf_5 G l Φ11 sz y h_21 h_22) (cwV 2 B.1.2.2.2.2 gX12_fieldsOf_X12_fieldOf rfl rfl rfl (by decide +kernel) ⟨Nat.le_of_ble_eq_true rfl, Nat.le_of_ble_eq_true rfl⟩) h_21 rfl rfl rfl rfl (Nat.le_of_ble_eq_true rfl) dX12_fieldsOf_18 ⟨Nat.le_of_ble_eq_true rfl, Nat.le_of_ble_eq_true rfl⟩ (fun v12 Φ12 sz12 st12 hp12 hs12 => ?_)
  obtain ⟨rfl, hq12, fr12⟩ := hp12
  replace hq12 : sz12 = sz := hq12
  subst sz12
  replace hs12 : st12 = [.int 5, .int 1, .int 31] := hs12
  subst st12
  refine z_ishl B dX12_fieldsOf_21 ?_
  refine z_top (st1 := [.int 32, .int 31]) (congrArg (fun w9 : Int32 => ([.int w9, .int 31] : List Value)) (show ((1 : Int32) <<< ((5 : Int32) &&& (31 : Int32)) : Int32) = 32 by decide +kernel)) ?_
  refine z_ior B dX12_fieldsOf_22 ?_
  refine z_top (st1 := [.int 63]) (congrArg (fun w9 : Int32 => ([.int w9] : List Value)) (show (31 ||| 32 : Int32) = 63 by decide +kernel)) ?_
  refine z_istore_n (lv' := [(2, .int 63), (3, .int 5), (0, .ref y), (1, .int 0)]) B dX12_fieldsOf_23 rfl (Nat.le_of_ble_eq_true rfl) rfl ?_
  refine z_iinc (k := 1) (v := 6) (lv' := [(3, .int 6), (2, .int 63), (0, .ref y), (1, .int 0)]) B dX12_fieldsOf_24 rfl rfl (Nat.le_of_ble_eq_true rfl) rfl ?_
  refine z_goto (tgt := 4) B dX12_fieldsOf_27 rfl ?_
  refine z_iload_n B dX12_fieldsOf_4 rfl 0 rfl ?_
  refine z_aload_n B dX12_fieldsOf_5 rfl 2 rfl ?_
  refine z_iload_n B dX12_fieldsOf_6 rfl 3 rfl ?_
  have h_23 : Φ12 y = some (o_ 14 [.int 0, .ref (y + 1), .ref (y + 2), .int 0, .int 1, .int 1, .int 0, .int 0, .ref (y + 3), .ref (y + 4), .int 0, .long 0, .ref (y + 5), .int 0, .int 0, .long 0, .long 0, .long 0, .long 0, .ref (y + 6), .ref (y + 7), .int 0, .ref (y + 8), .int 0, .ref (y + 9), .ref (y + 10), .int 0, .ref (y + 11), .ref (y + 12), .ref (y + 13), .ref (y + 14), .ref (y + 15), .ref (y + 16), .int 0, .long (-1), .ref (y + 17), .ref (y + 18), .ref (y + 19), .ref (y + 20), .ref (y + 21), .ref (y + 22), .int 0, .ref (y + 23), .ref (y + 24), .int 0, .ref (y + 25), .int 0, .int 0, .int 0, .int (-1), .int 0, .int 0, .int 0, .long 0]) := ((fr12 y).trans h_21)
  have h_24 : Φ12 (y + 2) = some (ai_ G 307 (upd (upd (upd (upd (upd (upd (upd (upd (upd (upd (upd (upd (upd (upd (upd (upd (upd (upd (upd (upd (upd (fun _ => 0) (0 : Int32).toNatClampNeg 1) (1 : Int32).toNatClampNeg 100) (2 : Int32).toNatClampNeg 1000) (3 : Int32).toNatClampNeg 100) (4 : Int32).toNatClampNeg 20) (5 : Int32).toNatClampNeg 1000) (6 : Int32).toNatClampNeg 5000) (7 : Int32).toNatClampNeg 512) (8 : Int32).toNatClampNeg 1) (9 : Int32).toNatClampNeg 511) (10 : Int32).toNatClampNeg 1) (11 : Int32).toNatClampNeg 9) (15 : Int32).toNatClampNeg 0) (16 : Int32).toNatClampNeg 1) (17 : Int32).toNatClampNeg 2) (18 : Int32).toNatClampNeg 3) (19 : Int32).toNatClampNeg 4) (20 : Int32).toNatClampNeg 5) (21 : Int32).toNatClampNeg 6) (22 : Int32).toNatClampNeg 7) (23 : Int32).toNatClampNeg 8)) := ((fr12 (y + 2)).trans h_22)
  refine z_callV (As := [.int 0]) (rest := [.int 6]) B (m_sizeOf_0 G l Φ12 sz y h_23 h_24) (cwV 1 B.1.2.2.2.2 gX12_fieldsOf_X12_sizeOf rfl rfl rfl (by decide +kernel) ⟨Nat.le_of_ble_eq_true rfl, Nat.le_of_ble_eq_true rfl⟩) h_23 rfl rfl rfl rfl (Nat.le_of_ble_eq_true rfl) dX12_fieldsOf_7 ⟨Nat.le_of_ble_eq_true rfl, Nat.le_of_ble_eq_true rfl⟩ (fun v13 Φ13 sz13 st13 hp13 hs13 => ?_)
  obtain ⟨rfl, hq13, fr13⟩ := hp13
  replace hq13 : sz13 = sz := hq13
  subst sz13
  replace hs13 : st13 = [.int 9, .int 6] := hs13
  subst st13
  refine z_icmp_ge (tgt := 30) B dX12_fieldsOf_10 rfl (fun h9 => absurd h9 (by decide)) (fun c_7 => ?_)
  refine z_iload_n B dX12_fieldsOf_13 rfl 1 rfl ?_
  refine z_iconst (v := 1) B dX12_fieldsOf_14 rfl ?_
  refine z_aload_n B dX12_fieldsOf_15 rfl 2 rfl ?_
  refine z_iload_n B dX12_fieldsOf_16 rfl 3 rfl ?_
  refine z_iload_n B dX12_fieldsOf_17 rfl 0 rfl ?_
  have h_25 : Φ13 y = some (o_ 14 [.int 0, .ref (y + 1), .ref (y + 2), .int 0, .int 1, .int 1, .int 0, .int 0, .ref (y + 3), .ref (y + 4), .int 0, .long 0, .ref (y + 5), .int 0, .int 0, .long 0, .long 0, .long 0, .long 0, .ref (y + 6), .ref (y + 7), .int 0, .ref (y + 8), .int 0, .ref (y + 9), .ref (y + 10), .int 0, .ref (y + 11), .ref (y + 12), .ref (y + 13), .ref (y + 14), .ref (y + 15), .ref (y + 16), .int 0, .long (-1), .ref (y + 17), .ref (y + 18), .ref (y + 19), .ref (y + 20), .ref (y + 21), .ref (y + 22), .int 0, .ref (y + 23), .ref (y + 24), .int 0, .ref (y + 25), .int 0, .int 0, .int 0, .int (-1), .int 0, .int 0, .int 0, .long 0]) := ((fr13 y).trans h_23)
  have h_26 : Φ13 (y + 2) = some (ai_ G 307 (upd (upd (upd (upd (upd (upd (upd (upd (upd (upd (upd (upd (upd (upd (upd (upd (upd (upd (upd (upd (upd (fun _ => 0) (0 : Int32).toNatClampNeg 1) (1 : Int32).toNatClampNeg 100) (2 : Int32).toNatClampNeg 1000) (3 : Int32).toNatClampNeg 100) (4 : Int32).toNatClampNeg 20) (5 : Int32).toNatClampNeg 1000) (6 : Int32).toNatClampNeg 5000) (7 : Int32).toNatClampNeg 512) (8 : Int32).toNatClampNeg 1) (9 : Int32).toNatClampNeg 511) (10 : Int32).toNatClampNeg 1) (11 : Int32).toNatClampNeg 9) (15 : Int32).toNatClampNeg 0) (16 : Int32).toNatClampNeg 1) (17 : Int32).toNatClampNeg 2) (18 : Int32).toNatClampNeg 3) (19 : Int32).toNatClampNeg 4) (20 : Int32).toNatClampNeg 5) (21 : Int32).toNatClampNeg 6) (22 : Int32).toNatClampNeg 7) (23 : Int32).toNatClampNeg 8)) := ((fr13 (y + 2)).trans h_24)
  refine z_callV (As := [.int 0, .int 6]) (rest := [.int 1, .int 63]) B (m_fieldOf_6 G l Φ13 sz y h_25 h_26) (cwV 2 B.1.2.2.2.2 gX12_fieldsOf_X12_fieldOf rfl rfl rfl (by decide +kernel) ⟨Nat.le_of_ble_eq_true rfl, Nat.le_of_ble_eq_true rfl⟩) h_25 rfl rfl rfl rfl (Nat.le_of_ble_eq_true rfl) dX12_fieldsOf_18 ⟨Nat.le_of_ble_eq_true rfl, Nat.le_of_ble_eq_true rfl⟩ (fun v14 Φ14 sz14 st14 hp14 hs14 => ?_)
  obtain ⟨rfl, hq14, fr14⟩ := hp14
  replace hq14 : sz14 = sz := hq14
  subst sz14
  replace hs14 : st14 = [.int 6, .int 1, .int 63] := hs14
  subst st14
  refine z_ishl B dX12_fieldsOf_21 ?_
  refine z_top (st1 := [.int 64, .int 63]) (congrArg (fun w9 : Int32 => ([.int w9, .int 63] : List Value)) (show ((1 : Int32) <<< ((6 : Int32) &&& (31 : Int32)) : Int32) = 64 by decide +kernel)) ?_
  refine z_ior B dX12_fieldsOf_22 ?_
  refine z_top (st1 := [.int 127]) (congrArg (fun w9 : Int32 => ([.int w9] : List Value)) (show (63 ||| 64 : Int32) = 127 by decide +kernel)) ?_
  refine z_istore_n (lv' := [(2, .int 127), (3, .int 6), (0, .ref y), (1, .int 0)]) B dX12_fieldsOf_23 rfl (Nat.le_of_ble_eq_true rfl) rfl ?_
  refine z_iinc (k := 1) (v := 7) (lv' := [(3, .int 7), (2, .int 127), (0, .ref y), (1, .int 0)]) B dX12_fieldsOf_24 rfl rfl (Nat.le_of_ble_eq_true rfl) rfl ?_
  refine z_goto (tgt := 4) B dX12_fieldsOf_27 rfl ?_
  refine z_iload_n B dX12_fieldsOf_4 rfl 0 rfl ?_
  refine z_aload_n B dX12_fieldsOf_5 rfl 2 rfl ?_
  refine z_iload_n B dX12_fieldsOf_6 rfl 3 rfl ?_
  have h_27 : Φ14 y = some (o_ 14 [.int 0, .ref (y + 1), .ref (y + 2), .int 0, .int 1, .int 1, .int 0, .int 0, .ref (y + 3), .ref (y + 4), .int 0, .long 0, .ref (y + 5), .int 0, .int 0, .long 0, .long 0, .long 0, .long 0, .ref (y + 6), .ref (y + 7), .int 0, .ref (y + 8), .int 0, .ref (y + 9), .ref (y + 10), .int 0, .ref (y + 11), .ref (y + 12), .ref (y + 13), .ref (y + 14), .ref (y + 15), .ref (y + 16), .int 0, .long (-1), .ref (y + 17), .ref (y + 18), .ref (y + 19), .ref (y + 20), .ref (y + 21), .ref (y + 22), .int 0, .ref (y + 23), .ref (y + 24), .int 0, .ref (y + 25), .int 0, .int 0, .int 0, .int (-1), .int 0, .int 0, .int 0, .long 0]) := ((fr14 y).trans h_25)
  have h_28 : Φ14 (y + 2) = some (ai_ G 307 (upd (upd (upd (upd (upd (upd (upd (upd (upd (upd (upd (upd (upd (upd (upd (upd (upd (upd (upd (upd (upd (fun _ => 0) (0 : Int32).toNatClampNeg 1) (1 : Int32).toNatClampNeg 100) (2 : Int32).toNatClampNeg 1000) (3 : Int32).toNatClampNeg 100) (4 : Int32).toNatClampNeg 20) (5 : Int32).toNatClampNeg 1000) (6 : Int32).toNatClampNeg 5000) (7 : Int32).toNatClampNeg 512) (8 : Int32).toNatClampNeg 1) (9 : Int32).toNatClampNeg 511) (10 : Int32).toNatClampNeg 1) (11 : Int32).toNatClampNeg 9) (15 : Int32).toNatClampNeg 0) (16 : Int32).toNatClampNeg 1) (17 : Int32).toNatClampNeg 2) (18 : Int32).toNatClampNeg 3) (19 : Int32).toNatClampNeg 4) (20 : Int32).toNatClampNeg 5) (21 : Int32).toNatClampNeg 6) (22 : Int32).toNatClampNeg 7) (23 : Int32).toNatClampNeg 8)) := ((fr14 (y + 2)).trans h_26)
  refine z_callV (As := [.int 0]) (rest := [.int 7]) B (m_sizeOf_0 G l Φ14 sz y h_27 h_28) (cwV 1 B.1.2.2.2.2 gX12_fieldsOf_X12_sizeOf rfl rfl rfl (by decide +kernel) ⟨Nat.le_of_ble_eq_true rfl, Nat.le_of_ble_eq_true rfl⟩) h_27 rfl rfl rfl rfl (Nat.le_of_ble_eq_true rfl) dX12_fieldsOf_7 ⟨Nat.le_of_ble_eq_true rfl, Nat.le_of_ble_eq_true rfl⟩ (fun v15 Φ15 sz15 st15 hp15 hs15 => ?_)
  obtain ⟨rfl, hq15, fr15⟩ := hp15
  replace hq15 : sz15 = sz := hq15
  subst sz15
  replace hs15 : st15 = [.int 9, .int 7] := hs15
  subst st15
  refine z_icmp_ge (tgt := 30) B dX12_fieldsOf_10 rfl (fun h9 => absurd h9 (by decide)) (fun c_8 => ?_)
  refine z_iload_n B dX12_fieldsOf_13 rfl 1 rfl ?_
  refine z_iconst (v := 1) B dX12_fieldsOf_14 rfl ?_
  refine z_aload_n B dX12_fieldsOf_15 rfl 2 rfl ?_
  refine z_iload_n B dX12_fieldsOf_16 rfl 3 rfl ?_
  refine z_iload_n B dX12_fieldsOf_17 rfl 0 rfl ?_
  have h_29 : Φ15 y = some (o_ 14 [.int 0, .ref (y + 1), .ref (y + 2), .int 0, .int 1, .int 1, .int 0, .int 0, .ref (y + 3), .ref (y + 4), .int 0, .long 0, .ref (y + 5), .int 0, .int 0, .long 0, .long 0, .long 0, .long 0, .ref (y + 6), .ref (y + 7), .int 0, .ref (y + 8), .int 0, .ref (y + 9), .ref (y + 10), .int 0, .ref (y + 11), .ref (y + 12), .ref (y + 13), .ref (y + 14), .ref (y + 15), .ref (y + 16), .int 0, .long (-1), .ref (y + 17), .ref (y + 18), .ref (y + 19), .ref (y + 20), .ref (y + 21), .ref (y + 22), .int 0, .ref (y + 23), .ref (y + 24), .int 0, .ref (y + 25), .int 0, .int 0, .int 0, .int (-1), .int 0, .int 0, .int 0, .long 0]) := ((fr15 y).trans h_27)
  have h_30 : Φ15 (y + 2) = some (ai_ G 307 (upd (upd (upd (upd (upd (upd (upd (upd (upd (upd (upd (upd (upd (upd (upd (upd (upd (upd (upd (upd (upd (fun _ => 0) (0 : Int32).toNatClampNeg 1) (1 : Int32).toNatClampNeg 100) (2 : Int32).toNatClampNeg 1000) (3 : Int32).toNatClampNeg 100) (4 : Int32).toNatClampNeg 20) (5 : Int32).toNatClampNeg 1000) (6 : Int32).toNatClampNeg 5000) (7 : Int32).toNatClampNeg 512) (8 : Int32).toNatClampNeg 1) (9 : Int32).toNatClampNeg 511) (10 : Int32).toNatClampNeg 1) (11 : Int32).toNatClampNeg 9) (15 : Int32).toNatClampNeg 0) (16 : Int32).toNatClampNeg 1) (17 : Int32).toNatClampNeg 2) (18 : Int32).toNatClampNeg 3) (19 : Int32).toNatClampNeg 4) (20 : Int32).toNatClampNeg 5) (21 : Int32).toNatClampNeg 6) (22 : Int32).toNatClampNeg 7) (23 : Int32).toNatClampNeg 8)) := ((fr15 (y + 2)).trans h_28)
  refine z_callV (As := [.int 0, .int 7]) (rest := [.int 1, .int 127]) B (m_fieldOf_7 G l Φ15 sz y h_29 h_30) (cwV 2 B.1.2.2.2.2 gX12_fieldsOf_X12_fieldOf rfl rfl rfl (by decide +kernel) ⟨Nat.le_of_ble_eq_true rfl, Nat.le_of_ble_eq_true rfl⟩) h_29 rfl rfl rfl rfl (Nat.le_of_ble_eq_true rfl) dX12_fieldsOf_18 ⟨Nat.le_of_ble_eq_true rfl, Nat.le_of_ble_eq_true rfl⟩ (fun v16 Φ16 sz16 st16 hp16 hs16 => ?_)
  obtain ⟨rfl, hq16, fr16⟩ := hp16
  replace hq16 : sz16 = sz := hq16
  subst sz16
  replace hs16 : st16 = [.int 7, .int 1, .int 127] := hs16
  subst st16
  refine z_ishl B dX12_fieldsOf_21 ?_
  refine z_top (st1 := [.int 128, .int 127]) (congrArg (fun w9 : Int32 => ([.int w9, .int 127] : List Value)) (show ((1 : Int32) <<< ((7 : Int32) &&& (31 : Int32)) : Int32) = 128 by decide +kernel)) ?_
  refine z_ior B dX12_fieldsOf_22 ?_
  refine z_top (st1 := [.int 255]) (congrArg (fun w9 : Int32 => ([.int w9] : List Value)) (show (127 ||| 128 : Int32) = 255 by decide +kernel)) ?_
  refine z_istore_n (lv' := [(2, .int 255), (3, .int 7), (0, .ref y), (1, .int 0)]) B dX12_fieldsOf_23 rfl (Nat.le_of_ble_eq_true rfl) rfl ?_
  refine z_iinc (k := 1) (v := 8) (lv' := [(3, .int 8), (2, .int 255), (0, .ref y), (1, .int 0)]) B dX12_fieldsOf_24 rfl rfl (Nat.le_of_ble_eq_true rfl) rfl ?_
  refine z_goto (tgt := 4) B dX12_fieldsOf_27 rfl ?_
  refine z_iload_n B dX12_fieldsOf_4 rfl 0 rfl ?_
  refine z_aload_n B dX12_fieldsOf_5 rfl 2 rfl ?_
  refine z_iload_n B dX12_fieldsOf_6 rfl 3 rfl ?_
  have h_31 : Φ16 y = some (o_ 14 [.int 0, .ref (y + 1), .ref (y + 2), .int 0, .int 1, .int 1, .int 0, .int 0, .ref (y + 3), .ref (y + 4), .int 0, .long 0, .ref (y + 5), .int 0, .int 0, .long 0, .long 0, .long 0, .long 0, .ref (y + 6), .ref (y + 7), .int 0, .ref (y + 8), .int 0, .ref (y + 9), .ref (y + 10), .int 0, .ref (y + 11), .ref (y + 12), .ref (y + 13), .ref (y + 14), .ref (y + 15), .ref (y + 16), .int 0, .long (-1), .ref (y + 17), .ref (y + 18), .ref (y + 19), .ref (y + 20), .ref (y + 21), .ref (y + 22), .int 0, .ref (y + 23), .ref (y + 24), .int 0, .ref (y + 25), .int 0, .int 0, .int 0, .int (-1), .int 0, .int 0, .int 0, .long 0]) := ((fr16 y).trans h_29)
  have h_32 : Φ16 (y + 2) = some (ai_ G 307 (upd (upd (upd (upd (upd (upd (upd (upd (upd (upd (upd (upd (upd (upd (upd (upd (upd (upd (upd (upd (upd (fun _ => 0) (0 : Int32).toNatClampNeg 1) (1 : Int32).toNatClampNeg 100) (2 : Int32).toNatClampNeg 1000) (3 : Int32).toNatClampNeg 100) (4 : Int32).toNatClampNeg 20) (5 : Int32).toNatClampNeg 1000) (6 : Int32).toNatClampNeg 5000) (7 : Int32).toNatClampNeg 512) (8 : Int32).toNatClampNeg 1) (9 : Int32).toNatClampNeg 511) (10 : Int32).toNatClampNeg 1) (11 : Int32).toNatClampNeg 9) (15 : Int32).toNatClampNeg 0) (16 : Int32).toNatClampNeg 1) (17 : Int32).toNatClampNeg 2) (18 : Int32).toNatClampNeg 3) (19 : Int32).toNatClampNeg 4) (20 : Int32).toNatClampNeg 5) (21 : Int32).toNatClampNeg 6) (22 : Int32).toNatClampNeg 7) (23 : Int32).toNatClampNeg 8)) := ((fr16 (y + 2)).trans h_30)
  refine z_callV (As := [.int 0]) (rest := [.int 8]) B (m_sizeOf_0 G l Φ16 sz y h_31 h_32) (cwV 1 B.1.2.2.2.2 gX12_fieldsOf_X12_sizeOf rfl rfl rfl (by decide +kernel) ⟨Nat.le_of_ble_eq_true rfl, Nat.le_of_ble_eq_true rfl⟩) h_31 rfl rfl rfl rfl (Nat.le_of_ble_eq_true rfl) dX12_fieldsOf_7 ⟨Nat.le_of_ble_eq_true rfl, Nat.le_of_ble_eq_true rfl⟩ (fun v17 Φ17 sz17 st17 hp17 hs17 => ?_)
  obtain ⟨rfl, hq17, fr17⟩ := hp17
  replace hq17 : sz17 = sz := hq17
  subst sz17
  replace hs17 : st17 = [.int 9, .int 8] := hs17
  subst st17
  refine z_icmp_ge (tgt := 30) B dX12_fieldsOf_10 rfl (fun h9 => absurd h9 (by decide)) (fun c_9 => ?_)
  refine z_iload_n B dX12_fieldsOf_13 rfl 1 rfl ?_
  refine z_iconst (v := 1) B dX12_fieldsOf_14 rfl ?_
  refine z_aload_n B dX12_fieldsOf_15 rfl 2 rfl ?_
  refine z_iload_n B dX12_fieldsOf_16 rfl 3 rfl ?_
  refine z_iload_n B dX12_fieldsOf_17 rfl 0 rfl ?_
  have h_33 : Φ17 y = some (o_ 14 [.int 0, .ref (y + 1), .ref (y + 2), .int 0, .int 1, .int 1, .int 0, .int 0, .ref (y + 3), .ref (y + 4), .int 0, .long 0, .ref (y + 5), .int 0, .int 0, .long 0, .long 0, .long 0, .long 0, .ref (y + 6), .ref (y + 7), .int 0, .ref (y + 8), .int 0, .ref (y + 9), .ref (y + 10), .int 0, .ref (y + 11), .ref (y + 12), .ref (y + 13), .ref (y + 14), .ref (y + 15), .ref (y + 16), .int 0, .long (-1), .ref (y + 17), .ref (y + 18), .ref (y + 19), .ref (y + 20), .ref (y + 21), .ref (y + 22), .int 0, .ref (y + 23), .ref (y + 24), .int 0, .ref (y + 25), .int 0, .int 0, .int 0, .int (-1), .int 0, .int 0, .int 0, .long 0]) := ((fr17 y).trans h_31)
  have h_34 : Φ17 (y + 2) = some (ai_ G 307 (upd (upd (upd (upd (upd (upd (upd (upd (upd (upd (upd (upd (upd (upd (upd (upd (upd (upd (upd (upd (upd (fun _ => 0) (0 : Int32).toNatClampNeg 1) (1 : Int32).toNatClampNeg 100) (2 : Int32).toNatClampNeg 1000) (3 : Int32).toNatClampNeg 100) (4 : Int32).toNatClampNeg 20) (5 : Int32).toNatClampNeg 1000) (6 : Int32).toNatClampNeg 5000) (7 : Int32).toNatClampNeg 512) (8 : Int32).toNatClampNeg 1) (9 : Int32).toNatClampNeg 511) (10 : Int32).toNatClampNeg 1) (11 : Int32).toNatClampNeg 9) (15 : Int32).toNatClampNeg 0) (16 : Int32).toNatClampNeg 1) (17 : Int32).toNatClampNeg 2) (18 : Int32).toNatClampNeg 3) (19 : Int32).toNatClampNeg 4) (20 : Int32).toNatClampNeg 5) (21 : Int32).toNatClampNeg 6) (22 : Int32).toNatClampNeg 7) (23 : Int32).toNatClampNeg 8)) := ((fr17 (y + 2)).trans h_32)
  refine z_callV (As := [.int 0, .int 8]) (rest := [.int 1, .int 255]) B (m_fieldOf_8 G l Φ17 sz y h_33 h_34) (cwV 2 B.1.2.2.2.2 gX12_fieldsOf_X12_fieldOf rfl rfl rfl (by decide +kernel) ⟨Nat.le_of_ble_eq_true rfl, Nat.le_of_ble_eq_true rfl⟩) h_33 rfl rfl rfl rfl (Nat.le_of_ble_eq_true rfl) dX12_fieldsOf_18 ⟨Nat.le_of_ble_eq_true rfl, Nat.le_of_ble_eq_true rfl⟩ (fun v18 Φ18 sz18 st18 hp18 hs18 => ?_)
  obtain ⟨rfl, hq18, fr18⟩ := hp18
  replace hq18 : sz18 = sz := hq18
  subst sz18
  replace hs18 : st18 = [.int 8, .int 1, .int 255] := hs18
  subst st18
  refine z_ishl B dX12_fieldsOf_21 ?_
  refine z_top (st1 := [.int 256, .int 255]) (congrArg (fun w9 : Int32 => ([.int w9, .int 255] : List Value)) (show ((1 : Int32) <<< ((8 : Int32) &&& (31 : Int32)) : Int32) = 256 by decide +kernel)) ?_
  refine z_ior B dX12_fieldsOf_22 ?_
  refine z_top (st1 := [.int 511]) (congrArg (fun w9 : Int32 => ([.int w9] : List Value)) (show (255 ||| 256 : Int32) = 511 by decide +kernel)) ?_
  refine z_istore_n (lv' := [(2, .int 511), (3, .int 8), (0, .ref y), (1, .int 0)]) B dX12_fieldsOf_23 rfl (Nat.le_of_ble_eq_true rfl) rfl ?_
  refine z_iinc (k := 1) (v := 9) (lv' := [(3, .int 9), (2, .int 511), (0, .ref y), (1, .int 0)]) B dX12_fieldsOf_24 rfl rfl (Nat.le_of_ble_eq_true rfl) rfl ?_
  refine z_goto (tgt := 4) B dX12_fieldsOf_27 rfl ?_
  refine z_iload_n B dX12_fieldsOf_4 rfl 0 rfl ?_
  refine z_aload_n B dX12_fieldsOf_5 rfl 2 rfl ?_
  refine z_iload_n B dX12_fieldsOf_6 rfl 3 rfl ?_
  have h_35 : Φ18 y = some (o_ 14 [.int 0, .ref (y + 1), .ref (y + 2), .int 0, .int 1, .int 1, .int 0, .int 0, .ref (y + 3), .ref (y + 4), .int 0, .long 0, .ref (y + 5), .int 0, .int 0, .long 0, .long 0, .long 0, .long 0, .ref (y + 6), .ref (y + 7), .int 0, .ref (y + 8), .int 0, .ref (y + 9), .ref (y + 10), .int 0, .ref (y + 11), .ref (y + 12), .ref (y + 13), .ref (y + 14), .ref (y + 15), .ref (y + 16), .int 0, .long (-1), .ref (y + 17), .ref (y + 18), .ref (y + 19), .ref (y + 20), .ref (y + 21), .ref (y + 22), .int 0, .ref (y + 23), .ref (y + 24), .int 0, .ref (y + 25), .int 0, .int 0, .int 0, .int (-1), .int 0, .int 0, .int 0, .long 0]) := ((fr18 y).trans h_33)
  have h_36 : Φ18 (y + 2) = some (ai_ G 307 (upd (upd (upd (upd (upd (upd (upd (upd (upd (upd (upd (upd (upd (upd (upd (upd (upd (upd (upd (upd (upd (fun _ => 0) (0 : Int32).toNatClampNeg 1) (1 : Int32).toNatClampNeg 100) (2 : Int32).toNatClampNeg 1000) (3 : Int32).toNatClampNeg 100) (4 : Int32).toNatClampNeg 20) (5 : Int32).toNatClampNeg 1000) (6 : Int32).toNatClampNeg 5000) (7 : Int32).toNatClampNeg 512) (8 : Int32).toNatClampNeg 1) (9 : Int32).toNatClampNeg 511) (10 : Int32).toNatClampNeg 1) (11 : Int32).toNatClampNeg 9) (15 : Int32).toNatClampNeg 0) (16 : Int32).toNatClampNeg 1) (17 : Int32).toNatClampNeg 2) (18 : Int32).toNatClampNeg 3) (19 : Int32).toNatClampNeg 4) (20 : Int32).toNatClampNeg 5) (21 : Int32).toNatClampNeg 6) (22 : Int32).toNatClampNeg 7) (23 : Int32).toNatClampNeg 8)) := ((fr18 (y + 2)).trans h_34)
  refine z_callV (As := [.int 0]) (rest := [.int 9]) B (m_sizeOf_0 G l Φ18 sz y h_35 h_36) (cwV 1 B.1.2.2.2.2 gX12_fieldsOf_X12_sizeOf rfl rfl rfl (by decide +kernel) ⟨Nat.le_of_ble_eq_true rfl, Nat.le_of_ble_eq_true rfl⟩) h_35 rfl rfl rfl rfl (Nat.le_of_ble_eq_true rfl) dX12_fieldsOf_7 ⟨Nat.le_of_ble_eq_true rfl, Nat.le_of_ble_eq_true rfl⟩ (fun v19 Φ19 sz19 st19 hp19 hs19 => ?_)
  obtain ⟨rfl, hq19, fr19⟩ := hp19
  replace hq19 : sz19 = sz := hq19
  subst sz19
  replace hs19 : st19 = [.int 9, .int 9] := hs19
  subst st19
  refine z_icmp_ge (tgt := 30) B dX12_fieldsOf_10 rfl (fun c_10 => ?_) (fun h9 => absurd (by decide) h9)
  refine z_iload_n B dX12_fieldsOf_30 rfl 1 rfl ?_
  exact z_ret_i B dX12_fieldsOf_31 ⟨rfl, rfl, (fun b9 => ((fr19 b9).trans ((fr18 b9).trans ((fr17 b9).trans ((fr16 b9).trans ((fr15 b9).trans ((fr14 b9).trans ((fr13 b9).trans ((fr12 b9).trans ((fr11 b9).trans ((fr10 b9).trans ((fr9 b9).trans ((fr8 b9).trans ((fr7 b9).trans ((fr6 b9).trans ((fr5 b9).trans ((fr4 b9).trans ((fr3 b9).trans ((fr2 b9).trans ((fr1 b9).trans rfl))))))))))))))))))))⟩

set_option maxHeartbeats 4000000 in
set_option maxRecDepth 100000 in
theorem m_effective_0 (G : EnvG) (l : Launch) (Φ : Hm) (sz : Nat) (y : Nat) (hc0_ : Φ y = some (o_ 14 [.int 0, .ref (y + 1), .ref (y + 2), .int 0, .int 1, .int 1, .int 0, .int 0, .ref (y + 3), .ref (y + 4), .int 0, .long 0, .ref (y + 5), .int 0, .int 0, .long 0, .long 0, .long 0, .long 0, .ref (y + 6), .ref (y + 7), .int 0, .ref (y + 8), .int 0, .ref (y + 9), .ref (y + 10), .int 0, .ref (y + 11), .ref (y + 12), .ref (y + 13), .ref (y + 14), .ref (y + 15), .ref (y + 16), .int 0, .long (-1), .ref (y + 17), .ref (y + 18), .ref (y + 19), .ref (y + 20), .ref (y + 21), .ref (y + 22), .int 0, .ref (y + 23), .ref (y + 24), .int 0, .ref (y + 25), .int 0, .int 0, .int 0, .int (-1), .int 0, .int 0, .int 0, .long 0])) (hc2_ : Φ (y + 2) = some (ai_ G 307 (upd (upd (upd (upd (upd (upd (upd (upd (upd (upd (upd (upd (upd (upd (upd (upd (upd (upd (upd (upd (upd (fun _ => 0) (0 : Int32).toNatClampNeg 1) (1 : Int32).toNatClampNeg 100) (2 : Int32).toNatClampNeg 1000) (3 : Int32).toNatClampNeg 100) (4 : Int32).toNatClampNeg 20) (5 : Int32).toNatClampNeg 1000) (6 : Int32).toNatClampNeg 5000) (7 : Int32).toNatClampNeg 512) (8 : Int32).toNatClampNeg 1) (9 : Int32).toNatClampNeg 511) (10 : Int32).toNatClampNeg 1) (11 : Int32).toNatClampNeg 9) (15 : Int32).toNatClampNeg 0) (16 : Int32).toNatClampNeg 1) (17 : Int32).toNatClampNeg 2) (18 : Int32).toNatClampNeg 3) (19 : Int32).toNatClampNeg 4) (20 : Int32).toNatClampNeg 5) (21 : Int32).toNatClampNeg 6) (22 : Int32).toNatClampNeg 7) (23 : Int32).toNatClampNeg 8))) : Ct G l yX12_effective wsX12_effective ({ frames := 2, cells := 0, slots := 0, locals := 45 }) 0 0 [.ref y, .int 0] Φ sz (fun v Φ1 sz1 => v = some (.int 511) ∧ sz1 = sz ∧ (∀ b9 : Nat, Φ1 b9 = Φ b9)) := by
  refine Ct.of (cc := cX12_effective) (maxL := 2) (ret := (some .int)) (by decide) rfl (Nat.le_of_ble_eq_true rfl) ?_
  intro p9 e9 s9 m9 w9 t9 k9 B
  show Z p9 l e9 _ s9 m9 _ w9 t9 k9 _ G 2 0 [(0, .ref y), (1, .int 0)] [] Φ sz 0 0
  refine z_aload_n B dX12_effective_0 rfl 0 rfl ?_
  refine z_iload_n B dX12_effective_1 rfl 1 rfl ?_
  refine z_callV (As := [.int 0]) (rest := []) B (m_fieldsOf_0 G l Φ sz y hc0_ hc2_) (cwV 1 B.1.2.2.2.2 gX12_effective_X12_fieldsOf rfl rfl rfl (by decide +kernel) ⟨Nat.le_of_ble_eq_true rfl, Nat.le_of_ble_eq_true rfl⟩) hc0_ rfl rfl rfl rfl (Nat.le_of_ble_eq_true rfl) dX12_effective_2 ⟨Nat.le_of_ble_eq_true rfl, Nat.le_of_ble_eq_true rfl⟩ (fun v1 Φ1 sz1 st1 hp1 hs1 => ?_)
  obtain ⟨rfl, hq1, fr1⟩ := hp1
  replace hq1 : sz1 = sz := hq1
  subst sz1
  replace hs1 : st1 = [.int 511] := hs1
  subst st1
  refine z_aload_n B dX12_effective_5 rfl 0 rfl ?_
  have h_1 : Φ1 y = some (o_ 14 [.int 0, .ref (y + 1), .ref (y + 2), .int 0, .int 1, .int 1, .int 0, .int 0, .ref (y + 3), .ref (y + 4), .int 0, .long 0, .ref (y + 5), .int 0, .int 0, .long 0, .long 0, .long 0, .long 0, .ref (y + 6), .ref (y + 7), .int 0, .ref (y + 8), .int 0, .ref (y + 9), .ref (y + 10), .int 0, .ref (y + 11), .ref (y + 12), .ref (y + 13), .ref (y + 14), .ref (y + 15), .ref (y + 16), .int 0, .long (-1), .ref (y + 17), .ref (y + 18), .ref (y + 19), .ref (y + 20), .ref (y + 21), .ref (y + 22), .int 0, .ref (y + 23), .ref (y + 24), .int 0, .ref (y + 25), .int 0, .int 0, .int 0, .int (-1), .int 0, .int 0, .int 0, .long 0]) := ((fr1 y).trans hc0_)
  refine z_get (ref := "FlowExporterModel") (C := RX12) (T := TX12) (N := 54) (ci := 14) (v := .ref (y + 2)) B (by decide +kernel) rfl 2 (by decide) (by decide +kernel) rfl h_1 rfl dX12_effective_6 ?_
  refine z_bipush (v := 9) B dX12_effective_9 rfl ?_
  have h_2 : Φ1 (y + 2) = some (ai_ G 307 (upd (upd (upd (upd (upd (upd (upd (upd (upd (upd (upd (upd (upd (upd (upd (upd (upd (upd (upd (upd (upd (fun _ => 0) (0 : Int32).toNatClampNeg 1) (1 : Int32).toNatClampNeg 100) (2 : Int32).toNatClampNeg 1000) (3 : Int32).toNatClampNeg 100) (4 : Int32).toNatClampNeg 20) (5 : Int32).toNatClampNeg 1000) (6 : Int32).toNatClampNeg 5000) (7 : Int32).toNatClampNeg 512) (8 : Int32).toNatClampNeg 1) (9 : Int32).toNatClampNeg 511) (10 : Int32).toNatClampNeg 1) (11 : Int32).toNatClampNeg 9) (15 : Int32).toNatClampNeg 0) (16 : Int32).toNatClampNeg 1) (17 : Int32).toNatClampNeg 2) (18 : Int32).toNatClampNeg 3) (19 : Int32).toNatClampNeg 4) (20 : Int32).toNatClampNeg 5) (21 : Int32).toNatClampNeg 6) (22 : Int32).toNatClampNeg 7) (23 : Int32).toNatClampNeg 8)) := ((fr1 (y + 2)).trans hc2_)
  refine z_iald B h_2 (vin rfl) dX12_effective_11 ?_
  refine z_top (st1 := [.int 511, .int 511]) (by rfl) ?_
  refine z_iand B dX12_effective_12 ?_
  refine z_top (st1 := [.int 511]) (congrArg (fun w9 : Int32 => ([.int w9] : List Value)) (show (511 &&& 511 : Int32) = 511 by decide +kernel)) ?_
  exact z_ret_i B dX12_effective_13 ⟨rfl, rfl, (fun b9 => ((fr1 b9).trans rfl))⟩

set_option maxHeartbeats 4000000 in
set_option maxRecDepth 100000 in
theorem m_lengthOf_0 (G : EnvG) (l : Launch) (Φ : Hm) (sz : Nat) (y : Nat)  : Ct G l yX12_lengthOf wsX12_lengthOf ({ frames := 0, cells := 0, slots := 0, locals := 0 }) 0 0 [.int 0] Φ sz (fun v Φ1 sz1 => v = some (.int 1) ∧ sz1 = sz ∧ (∀ b9 : Nat, Φ1 b9 = Φ b9)) := by
  refine Ct.of (cc := cX12_lengthOf) (maxL := 1) (ret := (some .int)) (by decide) rfl (Nat.le_of_ble_eq_true rfl) ?_
  intro p9 e9 s9 m9 w9 t9 k9 B
  show Z p9 l e9 _ s9 m9 _ w9 t9 k9 _ G 1 0 [(0, .int 0)] [] Φ sz 0 0
  refine z_iload_n B dX12_lengthOf_0 rfl 0 rfl ?_
  refine z_tableIn (off := 39) (tgt := 40) B dX12_lengthOf_1 (by decide) (by decide) (by decide) rfl ?_
  refine z_iconst (v := 1) B dX12_lengthOf_40 rfl ?_
  exact z_ret_i B dX12_lengthOf_41 ⟨rfl, rfl, (fun b9 => rfl)⟩

set_option maxHeartbeats 4000000 in
set_option maxRecDepth 100000 in
theorem m_lengthOf_1 (G : EnvG) (l : Launch) (Φ : Hm) (sz : Nat) (y : Nat)  : Ct G l yX12_lengthOf wsX12_lengthOf ({ frames := 0, cells := 0, slots := 0, locals := 0 }) 0 0 [.int 1] Φ sz (fun v Φ1 sz1 => v = some (.int 1) ∧ sz1 = sz ∧ (∀ b9 : Nat, Φ1 b9 = Φ b9)) := by
  refine Ct.of (cc := cX12_lengthOf) (maxL := 1) (ret := (some .int)) (by decide) rfl (Nat.le_of_ble_eq_true rfl) ?_
  intro p9 e9 s9 m9 w9 t9 k9 B
  show Z p9 l e9 _ s9 m9 _ w9 t9 k9 _ G 1 0 [(0, .int 1)] [] Φ sz 0 0
  refine z_iload_n B dX12_lengthOf_0 rfl 0 rfl ?_
  refine z_tableIn (off := 39) (tgt := 40) B dX12_lengthOf_1 (by decide) (by decide) (by decide) rfl ?_
  refine z_iconst (v := 1) B dX12_lengthOf_40 rfl ?_
  exact z_ret_i B dX12_lengthOf_41 ⟨rfl, rfl, (fun b9 => rfl)⟩

set_option maxHeartbeats 4000000 in
set_option maxRecDepth 100000 in
theorem m_lengthOf_2 (G : EnvG) (l : Launch) (Φ : Hm) (sz : Nat) (y : Nat)  : Ct G l yX12_lengthOf wsX12_lengthOf ({ frames := 0, cells := 0, slots := 0, locals := 0 }) 0 0 [.int 2] Φ sz (fun v Φ1 sz1 => v = some (.int 2) ∧ sz1 = sz ∧ (∀ b9 : Nat, Φ1 b9 = Φ b9)) := by
  refine Ct.of (cc := cX12_lengthOf) (maxL := 1) (ret := (some .int)) (by decide) rfl (Nat.le_of_ble_eq_true rfl) ?_
  intro p9 e9 s9 m9 w9 t9 k9 B
  show Z p9 l e9 _ s9 m9 _ w9 t9 k9 _ G 1 0 [(0, .int 2)] [] Φ sz 0 0
  refine z_iload_n B dX12_lengthOf_0 rfl 0 rfl ?_
  refine z_tableIn (off := 41) (tgt := 42) B dX12_lengthOf_1 (by decide) (by decide) (by decide) rfl ?_
  refine z_iconst (v := 2) B dX12_lengthOf_42 rfl ?_
  exact z_ret_i B dX12_lengthOf_43 ⟨rfl, rfl, (fun b9 => rfl)⟩

set_option maxHeartbeats 4000000 in
set_option maxRecDepth 100000 in
theorem m_lengthOf_3 (G : EnvG) (l : Launch) (Φ : Hm) (sz : Nat) (y : Nat)  : Ct G l yX12_lengthOf wsX12_lengthOf ({ frames := 0, cells := 0, slots := 0, locals := 0 }) 0 0 [.int 3] Φ sz (fun v Φ1 sz1 => v = some (.int 1) ∧ sz1 = sz ∧ (∀ b9 : Nat, Φ1 b9 = Φ b9)) := by
  refine Ct.of (cc := cX12_lengthOf) (maxL := 1) (ret := (some .int)) (by decide) rfl (Nat.le_of_ble_eq_true rfl) ?_
  intro p9 e9 s9 m9 w9 t9 k9 B
  show Z p9 l e9 _ s9 m9 _ w9 t9 k9 _ G 1 0 [(0, .int 3)] [] Φ sz 0 0
  refine z_iload_n B dX12_lengthOf_0 rfl 0 rfl ?_
  refine z_tableIn (off := 39) (tgt := 40) B dX12_lengthOf_1 (by decide) (by decide) (by decide) rfl ?_
  refine z_iconst (v := 1) B dX12_lengthOf_40 rfl ?_
  exact z_ret_i B dX12_lengthOf_41 ⟨rfl, rfl, (fun b9 => rfl)⟩

set_option maxHeartbeats 4000000 in
set_option maxRecDepth 100000 in
theorem m_lengthOf_4 (G : EnvG) (l : Launch) (Φ : Hm) (sz : Nat) (y : Nat)  : Ct G l yX12_lengthOf wsX12_lengthOf ({ frames := 0, cells := 0, slots := 0, locals := 0 }) 0 0 [.int 4] Φ sz (fun v Φ1 sz1 => v = some (.int 4) ∧ sz1 = sz ∧ (∀ b9 : Nat, Φ1 b9 = Φ b9)) := by
  refine Ct.of (cc := cX12_lengthOf) (maxL := 1) (ret := (some .int)) (by decide) rfl (Nat.le_of_ble_eq_true rfl) ?_
  intro p9 e9 s9 m9 w9 t9 k9 B
  show Z p9 l e9 _ s9 m9 _ w9 t9 k9 _ G 1 0 [(0, .int 4)] [] Φ sz 0 0
  refine z_iload_n B dX12_lengthOf_0 rfl 0 rfl ?_
  refine z_tableIn (off := 46) (tgt := 47) B dX12_lengthOf_1 (by decide) (by decide) (by decide) rfl ?_
  refine z_iconst (v := 4) B dX12_lengthOf_47 rfl ?_
  exact z_ret_i B dX12_lengthOf_48 ⟨rfl, rfl, (fun b9 => rfl)⟩

set_option maxHeartbeats 4000000 in
set_option maxRecDepth 100000 in
theorem m_lengthOf_5 (G : EnvG) (l : Launch) (Φ : Hm) (sz : Nat) (y : Nat)  : Ct G l yX12_lengthOf wsX12_lengthOf ({ frames := 0, cells := 0, slots := 0, locals := 0 }) 0 0 [.int 5] Φ sz (fun v Φ1 sz1 => v = some (.int 8) ∧ sz1 = sz ∧ (∀ b9 : Nat, Φ1 b9 = Φ b9)) := by
  refine Ct.of (cc := cX12_lengthOf) (maxL := 1) (ret := (some .int)) (by decide) rfl (Nat.le_of_ble_eq_true rfl) ?_
  intro p9 e9 s9 m9 w9 t9 k9 B
  show Z p9 l e9 _ s9 m9 _ w9 t9 k9 _ G 1 0 [(0, .int 5)] [] Φ sz 0 0
  refine z_iload_n B dX12_lengthOf_0 rfl 0 rfl ?_
  refine z_tableIn (off := 43) (tgt := 44) B dX12_lengthOf_1 (by decide) (by decide) (by decide) rfl ?_
  refine z_bipush (v := 8) B dX12_lengthOf_44 rfl ?_
  exact z_ret_i B dX12_lengthOf_46 ⟨rfl, rfl, (fun b9 => rfl)⟩

set_option maxHeartbeats 4000000 in
set_option maxRecDepth 100000 in
theorem m_lengthOf_6 (G : EnvG) (l : Launch) (Φ : Hm) (sz : Nat) (y : Nat)  : Ct G l yX12_lengthOf wsX12_lengthOf ({ frames := 0, cells := 0, slots := 0, locals := 0 }) 0 0 [.int 6] Φ sz (fun v Φ1 sz1 => v = some (.int 4) ∧ sz1 = sz ∧ (∀ b9 : Nat, Φ1 b9 = Φ b9)) := by
  refine Ct.of (cc := cX12_lengthOf) (maxL := 1) (ret := (some .int)) (by decide) rfl (Nat.le_of_ble_eq_true rfl) ?_
  intro p9 e9 s9 m9 w9 t9 k9 B
  show Z p9 l e9 _ s9 m9 _ w9 t9 k9 _ G 1 0 [(0, .int 6)] [] Φ sz 0 0
  refine z_iload_n B dX12_lengthOf_0 rfl 0 rfl ?_
  refine z_tableOut (tgt := 47) B dX12_lengthOf_1 (by decide) rfl ?_
  refine z_iconst (v := 4) B dX12_lengthOf_47 rfl ?_
  exact z_ret_i B dX12_lengthOf_48 ⟨rfl, rfl, (fun b9 => rfl)⟩

set_option maxHeartbeats 4000000 in
set_option maxRecDepth 100000 in
theorem m_lengthOf_7 (G : EnvG) (l : Launch) (Φ : Hm) (sz : Nat) (y : Nat)  : Ct G l yX12_lengthOf wsX12_lengthOf ({ frames := 0, cells := 0, slots := 0, locals := 0 }) 0 0 [.int 7] Φ sz (fun v Φ1 sz1 => v = some (.int 4) ∧ sz1 = sz ∧ (∀ b9 : Nat, Φ1 b9 = Φ b9)) := by
  refine Ct.of (cc := cX12_lengthOf) (maxL := 1) (ret := (some .int)) (by decide) rfl (Nat.le_of_ble_eq_true rfl) ?_
  intro p9 e9 s9 m9 w9 t9 k9 B
  show Z p9 l e9 _ s9 m9 _ w9 t9 k9 _ G 1 0 [(0, .int 7)] [] Φ sz 0 0
  refine z_iload_n B dX12_lengthOf_0 rfl 0 rfl ?_
  refine z_tableOut (tgt := 47) B dX12_lengthOf_1 (by decide) rfl ?_
  refine z_iconst (v := 4) B dX12_lengthOf_47 rfl ?_
  exact z_ret_i B dX12_lengthOf_48 ⟨rfl, rfl, (fun b9 => rfl)⟩

set_option maxHeartbeats 4000000 in
set_option maxRecDepth 100000 in
theorem m_lengthOf_8 (G : EnvG) (l : Launch) (Φ : Hm) (sz : Nat) (y : Nat)  : Ct G l yX12_lengthOf wsX12_lengthOf ({ frames := 0, cells := 0, slots := 0, locals := 0 }) 0 0 [.int 8] Φ sz (fun v Φ1 sz1 => v = some (.int 4) ∧ sz1 = sz ∧ (∀ b9 : Nat, Φ1 b9 = Φ b9)) := by
  refine Ct.of (cc := cX12_lengthOf) (maxL := 1) (ret := (some .int)) (by decide) rfl (Nat.le_of_ble_eq_true rfl) ?_
  intro p9 e9 s9 m9 w9 t9 k9 B
  show Z p9 l e9 _ s9 m9 _ w9 t9 k9 _ G 1 0 [(0, .int 8)] [] Φ sz 0 0
  refine z_iload_n B dX12_lengthOf_0 rfl 0 rfl ?_
  refine z_tableOut (tgt := 47) B dX12_lengthOf_1 (by decide) rfl ?_
  refine z_iconst (v := 4) B dX12_lengthOf_47 rfl ?_
  exact z_ret_i B dX12_lengthOf_48 ⟨rfl, rfl, (fun b9 => rfl)⟩

set_option maxHeartbeats 4000000 in
set_option maxRecDepth 100000 in
theorem m_recordLengthOf_0 (G : EnvG) (l : Launch) (Φ : Hm) (sz : Nat) (y : Nat) (hc0_ : Φ y = some (o_ 14 [.int 0, .ref (y + 1), .ref (y + 2), .int 0, .int 1, .int 1, .int 0, .int 0, .ref (y + 3), .ref (y + 4), .int 0, .long 0, .ref (y + 5), .int 0, .int 0, .long 0, .long 0, .long 0, .long 0, .ref (y + 6), .ref (y + 7), .int 0, .ref (y + 8), .int 0, .ref (y + 9), .ref (y + 10), .int 0, .ref (y + 11), .ref (y + 12), .ref (y + 13), .ref (y + 14), .ref (y + 15), .ref (y + 16), .int 0, .long (-1), .ref (y + 17), .ref (y + 18), .ref (y + 19), .ref (y + 20), .ref (y + 21), .ref (y + 22), .int 0, .ref (y + 23), .ref (y + 24), .int 0, .ref (y + 25), .int 0, .int 0, .int 0, .int (-1), .int 0, .int 0, .int 0, .long 0])) (hc2_ : Φ (y + 2) = some (ai_ G 307 (upd (upd (upd (upd (upd (upd (upd (upd (upd (upd (upd (upd (upd (upd (upd (upd (upd (upd (upd (upd (upd (fun _ => 0) (0 : Int32).toNatClampNeg 1) (1 : Int32).toNatClampNeg 100) (2 : Int32).toNatClampNeg 1000) (3 : Int32).toNatClampNeg 100) (4 : Int32).toNatClampNeg 20) (5 : Int32).toNatClampNeg 1000) (6 : Int32).toNatClampNeg 5000) (7 : Int32).toNatClampNeg 512) (8 : Int32).toNatClampNeg 1) (9 : Int32).toNatClampNeg 511) (10 : Int32).toNatClampNeg 1) (11 : Int32).toNatClampNeg 9) (15 : Int32).toNatClampNeg 0) (16 : Int32).toNatClampNeg 1) (17 : Int32).toNatClampNeg 2) (18 : Int32).toNatClampNeg 3) (19 : Int32).toNatClampNeg 4) (20 : Int32).toNatClampNeg 5) (21 : Int32).toNatClampNeg 6) (22 : Int32).toNatClampNeg 7) (23 : Int32).toNatClampNeg 8))) : Ct G l yX12_recordLengthOf wsX12_recordLengthOf ({ frames := 3, cells := 0, slots := 0, locals := 66 }) 0 0 [.ref y, .int 0] Φ sz (fun v Φ1 sz1 => v = some (.int 29) ∧ sz1 = sz ∧ (∀ b9 : Nat, Φ1 b9 = Φ b9)) := by
  refine Ct.of (cc := cX12_recordLengthOf) (maxL := 4) (ret := (some .int)) (by decide) rfl (Nat.le_of_ble_eq_true rfl) ?_
  intro p9 e9 s9 m9 w9 t9 k9 B
  show Z p9 l e9 _ s9 m9 _ w9 t9 k9 _ G 4 0 [(0, .ref y), (1, .int 0)] [] Φ sz 0 0
  refine z_iconst (v := 0) B dX12_recordLengthOf_0 rfl ?_
  refine z_istore_n (lv' := [(2, .int 0), (0, .ref y), (1, .int 0)]) B dX12_recordLengthOf_1 rfl (Nat.le_of_ble_eq_true rfl) rfl ?_
  refine z_iconst (v := 0) B dX12_recordLengthOf_2 rfl ?_
  refine z_istore_n (lv' := [(3, .int 0), (2, .int 0), (0, .ref y), (1, .int 0)]) B dX12_recordLengthOf_3 rfl (Nat.le_of_ble_eq_true rfl) rfl ?_
  refine z_iload_n B dX12_recordLengthOf_4 rfl 0 rfl ?_
  refine z_bipush (v := 9) B dX12_recordLengthOf_5 rfl ?_
  refine z_icmp_ge (tgt := 36) B dX12_recordLengthOf_7 rfl (fun h9 => absurd h9 (by decide)) (fun c_1 => ?_)
  refine z_aload_n B dX12_recordLengthOf_10 rfl 2 rfl ?_
  refine z_iload_n B dX12_recordLengthOf_11 rfl 3 rfl ?_
  refine z_callV (As := [.int 0]) (rest := []) B (m_effective_0 G l Φ sz y hc0_ hc2_) (cwV 1 B.1.2.2.2.2 gX12_recordLengthOf_X12_effective rfl rfl rfl (by decide +kernel) ⟨Nat.le_of_ble_eq_true rfl, Nat.le_of_ble_eq_true rfl⟩) hc0_ rfl rfl rfl rfl (Nat.le_of_ble_eq_true rfl) dX12_recordLengthOf_12 ⟨Nat.le_of_ble_eq_true rfl, Nat.le_of_ble_eq_true rfl⟩ (fun v1 Φ1 sz1 st1 hp1 hs1 => ?_)
  obtain ⟨rfl, hq1, fr1⟩ := hp1
  replace hq1 : sz1 = sz := hq1
  subst sz1
  replace hs1 : st1 = [.int 511] := hs1
  subst st1
  refine z_iload_n B dX12_recordLengthOf_15 rfl 0 rfl ?_
  refine z_ishr B dX12_recordLengthOf_16 ?_
  refine z_top (st1 := [.int 511]) (congrArg (fun w9 : Int32 => ([.int w9] : List Value)) (show ((511 : Int32) >>> ((0 : Int32) &&& (31 : Int32)) : Int32) = 511 by decide +kernel)) ?_
  refine z_iconst (v := 1) B dX12_recordLengthOf_17 rfl ?_
  refine z_iand B dX12_recordLengthOf_18 ?_
  refine z_top (st1 := [.int 1]) (congrArg (fun w9 : Int32 => ([.int w9] : List Value)) (show (511 &&& 1 : Int32) = 1 by decide +kernel)) ?_
  refine z_iconst (v := 1) B dX12_recordLengthOf_19 rfl ?_
  refine z_icmp_ne (tgt := 30) B dX12_recordLengthOf_20 rfl (fun h9 => absurd (by decide) h9) (fun c_2 => ?_)
  refine z_iload_n B dX12_recordLengthOf_23 rfl 1 rfl ?_
  refine z_iload_n B dX12_recordLengthOf_24 rfl 0 rfl ?_
  refine z_callS (As := [.int 0]) (rest := [.int 0]) B (m_lengthOf_0 G l Φ1 sz y ) (va_cwS 1 B.1.2.2.2.2 gX12_recordLengthOf_X12_lengthOf rfl rfl rfl (by decide +kernel) ⟨Nat.le_of_ble_eq_true rfl, Nat.le_of_ble_eq_true rfl⟩) rfl rfl (Nat.le_of_ble_eq_true rfl) dX12_recordLengthOf_25 ⟨Nat.le_of_ble_eq_true rfl, Nat.le_of_ble_eq_true rfl⟩ (fun v2 Φ2 sz2 st2 hp2 hs2 => ?_)
  obtain ⟨rfl, hq2, fr2⟩ := hp2
  replace hq2 : sz2 = sz := hq2
  subst sz2
  replace hs2 : st2 = [.int 1, .int 0] := hs2
  subst st2
  refine z_iadd B dX12_recordLengthOf_28 ?_
  refine z_top (st1 := [.int 1]) (congrArg (fun w9 : Int32 => ([.int w9] : List Value)) (show (0 + 1 : Int32) = 1 by decide +kernel)) ?_
  refine z_istore_n (lv' := [(2, .int 1), (3, .int 0), (0, .ref y), (1, .int 0)]) B dX12_recordLengthOf_29 rfl (Nat.le_of_ble_eq_true rfl) rfl ?_
  refine z_iinc (k := 1) (v := 1) (lv' := [(3, .int 1), (2, .int 1), (0, .ref y), (1, .int 0)]) B dX12_recordLengthOf_30 rfl rfl (Nat.le_of_ble_eq_true rfl) rfl ?_
  refine z_goto (tgt := 4) B dX12_recordLengthOf_33 rfl ?_
  refine z_iload_n B dX12_recordLengthOf_4 rfl 0 rfl ?_
  refine z_bipush (v := 9) B dX12_recordLengthOf_5 rfl ?_
  refine z_icmp_ge (tgt := 36) B dX12_recordLengthOf_7 rfl (fun h9 => absurd h9 (by decide)) (fun c_3 => ?_)
  refine z_aload_n B dX12_recordLengthOf_10 rfl 2 rfl ?_
  refine z_iload_n B dX12_recordLengthOf_11 rfl 3 rfl ?_
  have h_1 : Φ2 y = some (o_ 14 [.int 0, .ref (y + 1), .ref (y + 2), .int 0, .int 1, .int 1, .int 0, .int 0, .ref (y + 3), .ref (y + 4), .int 0, .long 0, .ref (y + 5), .int 0, .int 0, .long 0, .long 0, .long 0, .long 0, .ref (y + 6), .ref (y + 7), .int 0, .ref (y + 8), .int 0, .ref (y + 9), .ref (y + 10), .int 0, .ref (y + 11), .ref (y + 12), .ref (y + 13), .ref (y + 14), .ref (y + 15), .ref (y + 16), .int 0, .long (-1), .ref (y + 17), .ref (y + 18), .ref (y + 19), .ref (y + 20), .ref (y + 21), .ref (y + 22), .int 0, .ref (y + 23), .ref (y + 24), .int 0, .ref (y + 25), .int 0, .int 0, .int 0, .int (-1), .int 0, .int 0, .int 0, .long 0]) := ((fr2 y).trans ((fr1 y).trans hc0_))
  have h_2 : Φ2 (y + 2) = some (ai_ G 307 (upd (upd (upd (upd (upd (upd (upd (upd (upd (upd (upd (upd (upd (upd (upd (upd (upd (upd (upd (upd (upd (fun _ => 0) (0 : Int32).toNatClampNeg 1) (1 : Int32).toNatClampNeg 100) (2 : Int32).toNatClampNeg 1000) (3 : Int32).toNatClampNeg 100) (4 : Int32).toNatClampNeg 20) (5 : Int32).toNatClampNeg 1000) (6 : Int32).toNatClampNeg 5000) (7 : Int32).toNatClampNeg 512) (8 : Int32).toNatClampNeg 1) (9 : Int32).toNatClampNeg 511) (10 : Int32).toNatClampNeg 1) (11 : Int32).toNatClampNeg 9) (15 : Int32).toNatClampNeg 0) (16 : Int32).toNatClampNeg 1) (17 : Int32).toNatClampNeg 2) (18 : Int32).toNatClampNeg 3) (19 : Int32).toNatClampNeg 4) (20 : Int32).toNatClampNeg 5) (21 : Int32).toNatClampNeg 6) (22 : Int32).toNatClampNeg 7) (23 : Int32).toNatClampNeg 8)) := ((fr2 (y + 2)).trans ((fr1 (y + 2)).trans hc2_))
  refine z_callV (As := [.int 0]) (rest := []) B (m_effective_0 G l Φ2 sz y h_1 h_2) (cwV 1 B.1.2.2.2.2 gX12_recordLengthOf_X12_effective rfl rfl rfl (by decide +kernel) ⟨Nat.le_of_ble_eq_true rfl, Nat.le_of_ble_eq_true rfl⟩) h_1 rfl rfl rfl rfl (Nat.le_of_ble_eq_true rfl) dX12_recordLengthOf_12 ⟨Nat.le_of_ble_eq_true rfl, Nat.le_of_ble_eq_true rfl⟩ (fun v3 Φ3 sz3 st3 hp3 hs3 => ?_)
  obtain ⟨rfl, hq3, fr3⟩ := hp3
  replace hq3 : sz3 = sz := hq3
  subst sz3
  replace hs3 : st3 = [.int 511] := hs3
  subst st3
  refine z_iload_n B dX12_recordLengthOf_15 rfl 0 rfl ?_
  refine z_ishr B dX12_recordLengthOf_16 ?_
  refine z_top (st1 := [.int 255]) (congrArg (fun w9 : Int32 => ([.int w9] : List Value)) (show ((511 : Int32) >>> ((1 : Int32) &&& (31 : Int32)) : Int32) = 255 by decide +kernel)) ?_
  refine z_iconst (v := 1) B dX12_recordLengthOf_17 rfl ?_
  refine z_iand B dX12_recordLengthOf_18 ?_
  refine z_top (st1 := [.int 1]) (congrArg (fun w9 : Int32 => ([.int w9] : List Value)) (show (255 &&& 1 : Int32) = 1 by decide +kernel)) ?_
  refine z_iconst (v := 1) B dX12_recordLengthOf_19 rfl ?_
  refine z_icmp_ne (tgt := 30) B dX12_recordLengthOf_20 rfl (fun h9 => absurd (by decide) h9) (fun c_4 => ?_)
  refine z_iload_n B dX12_recordLengthOf_23 rfl 1 rfl ?_
  refine z_iload_n B dX12_recordLengthOf_24 rfl 0 rfl ?_
  refine z_callS (As := [.int 1]) (rest := [.int 1]) B (m_lengthOf_1 G l Φ3 sz y ) (va_cwS 1 B.1.2.2.2.2 gX12_recordLengthOf_X12_lengthOf rfl rfl rfl (by decide +kernel) ⟨Nat.le_of_ble_eq_true rfl, Nat.le_of_ble_eq_true rfl⟩) rfl rfl (Nat.le_of_ble_eq_true rfl) dX12_recordLengthOf_25 ⟨Nat.le_of_ble_eq_true rfl, Nat.le_of_ble_eq_true rfl⟩ (fun v4 Φ4 sz4 st4 hp4 hs4 => ?_)
  obtain ⟨rfl, hq4, fr4⟩ := hp4
  replace hq4 : sz4 = sz := hq4
  subst sz4
  replace hs4 : st4 = [.int 1, .int 1] := hs4
  subst st4
  refine z_iadd B dX12_recordLengthOf_28 ?_
  refine z_top (st1 := [.int 2]) (congrArg (fun w9 : Int32 => ([.int w9] : List Value)) (show (1 + 1 : Int32) = 2 by decide +kernel)) ?_
  refine z_istore_n (lv' := [(2, .int 2), (3, .int 1), (0, .ref y), (1, .int 0)]) B dX12_recordLengthOf_29 rfl (Nat.le_of_ble_eq_true rfl) rfl ?_
  refine z_iinc (k := 1) (v := 2) (lv' := [(3, .int 2), (2, .int 2), (0, .ref y), (1, .int 0)]) B dX12_recordLengthOf_30 rfl rfl (Nat.le_of_ble_eq_true rfl) rfl ?_
  refine z_goto (tgt := 4) B dX12_recordLengthOf_33 rfl ?_
  refine z_iload_n B dX12_recordLengthOf_4 rfl 0 rfl ?_
  refine z_bipush (v := 9) B dX12_recordLengthOf_5 rfl ?_
  refine z_icmp_ge (tgt := 36) B dX12_recordLengthOf_7 rfl (fun h9 => absurd h9 (by decide)) (fun c_5 => ?_)
  refine z_aload_n B dX12_recordLengthOf_10 rfl 2 rfl ?_
  refine z_iload_n B dX12_recordLengthOf_11 rfl 3 rfl ?_
  have h_3 : Φ4 y = some (o_ 14 [.int 0, .ref (y + 1), .ref (y + 2), .int 0, .int 1, .int 1, .int 0, .int 0, .ref (y + 3), .ref (y + 4), .int 0, .long 0, .ref (y + 5), .int 0, .int 0, .long 0, .long 0, .long 0, .long 0, .ref (y + 6), .ref (y + 7), .int 0, .ref (y + 8), .int 0, .ref (y + 9), .ref (y + 10), .int 0, .ref (y + 11), .ref (y + 12), .ref (y + 13), .ref (y + 14), .ref (y + 15), .ref (y + 16), .int 0, .long (-1), .ref (y + 17), .ref (y + 18), .ref (y + 19), .ref (y + 20), .ref (y + 21), .ref (y + 22), .int 0, .ref (y + 23), .ref (y + 24), .int 0, .ref (y + 25), .int 0, .int 0, .int 0, .int (-1), .int 0, .int 0, .int 0, .long 0]) := ((fr4 y).trans ((fr3 y).trans h_1))
  have h_4 : Φ4 (y + 2) = some (ai_ G 307 (upd (upd (upd (upd (upd (upd (upd (upd (upd (upd (upd (upd (upd (upd (upd (upd (upd (upd (upd (upd (upd (fun _ => 0) (0 : Int32).toNatClampNeg 1) (1 : Int32).toNatClampNeg 100) (2 : Int32).toNatClampNeg 1000) (3 : Int32).toNatClampNeg 100) (4 : Int32).toNatClampNeg 20) (5 : Int32).toNatClampNeg 1000) (6 : Int32).toNatClampNeg 5000) (7 : Int32).toNatClampNeg 512) (8 : Int32).toNatClampNeg 1) (9 : Int32).toNatClampNeg 511) (10 : Int32).toNatClampNeg 1) (11 : Int32).toNatClampNeg 9) (15 : Int32).toNatClampNeg 0) (16 : Int32).toNatClampNeg 1) (17 : Int32).toNatClampNeg 2) (18 : Int32).toNatClampNeg 3) (19 : Int32).toNatClampNeg 4) (20 : Int32).toNatClampNeg 5) (21 : Int32).toNatClampNeg 6) (22 : Int32).toNatClampNeg 7) (23 : Int32).toNatClampNeg 8)) := ((fr4 (y + 2)).trans ((fr3 (y + 2)).trans h_2))
  refine z_callV (As := [.int 0]) (rest := []) B (m_effective_0 G l Φ4 sz y h_3 h_4) (cwV 1 B.1.2.2.2.2 gX12_recordLengthOf_X12_effective rfl rfl rfl (by decide +kernel) ⟨Nat.le_of_ble_eq_true rfl, Nat.le_of_ble_eq_true rfl⟩) h_3 rfl rfl rfl rfl (Nat.le_of_ble_eq_true rfl) dX12_recordLengthOf_12 ⟨Nat.le_of_ble_eq_true rfl, Nat.le_of_ble_eq_true rfl⟩ (fun v5 Φ5 sz5 st5 hp5 hs5 => ?_)
  obtain ⟨rfl, hq5, fr5⟩ := hp5
  replace hq5 : sz5 = sz := hq5
  subst sz5
  replace hs5 : st5 = [.int 511] := hs5
  subst st5
  refine z_iload_n B dX12_recordLengthOf_15 rfl 0 rfl ?_
  refine z_ishr B dX12_recordLengthOf_16 ?_
  refine z_top (st1 := [.int 127]) (congrArg (fun w9 : Int32 => ([.int w9] : List Value)) (show ((511 : Int32) >>> ((2 : Int32) &&& (31 : Int32)) : Int32) = 127 by decide +kernel)) ?_
  refine z_iconst (v := 1) B dX12_recordLengthOf_17 rfl ?_
  refine z_iand B dX12_recordLengthOf_18 ?_
  refine z_top (st1 := [.int 1]) (congrArg (fun w9 : Int32 => ([.int w9] : List Value)) (show (127 &&& 1 : Int32) = 1 by decide +kernel)) ?_
  refine z_iconst (v := 1) B dX12_recordLengthOf_19 rfl ?_
  refine z_icmp_ne (tgt := 30) B dX12_recordLengthOf_20 rfl (fun h9 => absurd (by decide) h9) (fun c_6 => ?_)
  refine z_iload_n B dX12_recordLengthOf_23 rfl 1 rfl ?_
  refine z_iload_n B dX12_recordLengthOf_24 rfl 0 rfl ?_
  refine z_callS (As := [.int 2]) (rest := [.int 2]) B (m_lengthOf_2 G l Φ5 sz y ) (va_cwS 1 B.1.2.2.2.2 gX12_recordLengthOf_X12_lengthOf rfl rfl rfl (by decide +kernel) ⟨Nat.le_of_ble_eq_true rfl, Nat.le_of_ble_eq_true rfl⟩) rfl rfl (Nat.le_of_ble_eq_true rfl) dX12_recordLengthOf_25 ⟨Nat.le_of_ble_eq_true rfl, Nat.le_of_ble_eq_true rfl⟩ (fun v6 Φ6 sz6 st6 hp6 hs6 => ?_)
  obtain ⟨rfl, hq6, fr6⟩ := hp6
  replace hq6 : sz6 = sz := hq6
  subst sz6
  replace hs6 : st6 = [.int 2, .int 2] := hs6
  subst st6
  refine z_iadd B dX12_recordLengthOf_28 ?_
  refine z_top (st1 := [.int 4]) (congrArg (fun w9 : Int32 => ([.int w9] : List Value)) (show (2 + 2 : Int32) = 4 by decide +kernel)) ?_
  refine z_istore_n (lv' := [(2, .int 4), (3, .int 2), (0, .ref y), (1, .int 0)]) B dX12_recordLengthOf_29 rfl (Nat.le_of_ble_eq_true rfl) rfl ?_
  refine z_iinc (k := 1) (v := 3) (lv' := [(3, .int 3), (2, .int 4), (0, .ref y), (1, .int 0)]) B dX12_recordLengthOf_30 rfl rfl (Nat.le_of_ble_eq_true rfl) rfl ?_
  refine z_goto (tgt := 4) B dX12_recordLengthOf_33 rfl ?_
  refine z_iload_n B dX12_recordLengthOf_4 rfl 0 rfl ?_
  refine z_bipush (v := 9) B dX12_recordLengthOf_5 rfl ?_
  refine z_icmp_ge (tgt := 36) B dX12_recordLengthOf_7 rfl (fun h9 => absurd h9 (by decide)) (fun c_7 => ?_)
  refine z_aload_n B dX12_recordLengthOf_10 rfl 2 rfl ?_
  refine z_iload_n B dX12_recordLengthOf_11 rfl 3 rfl ?_
  have h_5 : Φ6 y = some (o_ 14 [.int 0, .ref (y + 1), .ref (y + 2), .int 0, .int 1, .int 1, .int 0, .int 0, .ref (y + 3), .ref (y + 4), .int 0, .long 0, .ref (y + 5), .int 0, .int 0, .long 0, .long 0, .long 0, .long 0, .ref (y + 6), .ref (y + 7), .int 0, .ref (y + 8), .int 0, .ref (y + 9), .ref (y + 10), .int 0, .ref (y + 11), .ref (y + 12), .ref (y + 13), .ref (y + 14), .ref (y + 15), .ref (y + 16), .int 0, .long (-1), .ref (y + 17), .ref (y + 18), .ref (y + 19), .ref (y + 20), .ref (y + 21), .ref (y + 22), .int 0, .ref (y + 23), .ref (y + 24), .int 0, .ref (y + 25), .int 0, .int 0, .int 0, .int (-1), .int 0, .int 0, .int 0, .long 0]) := ((fr6 y).trans ((fr5 y).trans h_3))
  have h_6 : Φ6 (y + 2) = some (ai_ G 307 (upd (upd (upd (upd (upd (upd (upd (upd (upd (upd (upd (upd (upd (upd (upd (upd (upd (upd (upd (upd (upd (fun _ => 0) (0 : Int32).toNatClampNeg 1) (1 : Int32).toNatClampNeg 100) (2 : Int32).toNatClampNeg 1000) (3 : Int32).toNatClampNeg 100) (4 : Int32).toNatClampNeg 20) (5 : Int32).toNatClampNeg 1000) (6 : Int32).toNatClampNeg 5000) (7 : Int32).toNatClampNeg 512) (8 : Int32).toNatClampNeg 1) (9 : Int32).toNatClampNeg 511) (10 : Int32).toNatClampNeg 1) (11 : Int32).toNatClampNeg 9) (15 : Int32).toNatClampNeg 0) (16 : Int32).toNatClampNeg 1) (17 : Int32).toNatClampNeg 2) (18 : Int32).toNatClampNeg 3) (19 : Int32).toNatClampNeg 4) (20 : Int32).toNatClampNeg 5) (21 : Int32).toNatClampNeg 6) (22 : Int32).toNatClampNeg 7) (23 : Int32).toNatClampNeg 8)) := ((fr6 (y + 2)).trans ((fr5 (y + 2)).trans h_4))
  refine z_callV (As := [.int 0]) (rest := []) B (m_effective_0 G l Φ6 sz y h_5 h_6) (cwV 1 B.1.2.2.2.2 gX12_recordLengthOf_X12_effective rfl rfl rfl (by decide +kernel) ⟨Nat.le_of_ble_eq_true rfl, Nat.le_of_ble_eq_true rfl⟩) h_5 rfl rfl rfl rfl (Nat.le_of_ble_eq_true rfl) dX12_recordLengthOf_12 ⟨Nat.le_of_ble_eq_true rfl, Nat.le_of_ble_eq_true rfl⟩ (fun v7 Φ7 sz7 st7 hp7 hs7 => ?_)
  obtain ⟨rfl, hq7, fr7⟩ := hp7
  replace hq7 : sz7 = sz := hq7
  subst sz7
  replace hs7 : st7 = [.int 511] := hs7
  subst st7
  refine z_iload_n B dX12_recordLengthOf_15 rfl 0 rfl ?_
  refine z_ishr B dX12_recordLengthOf_16 ?_
  refine z_top (st1 := [.int 63]) (congrArg (fun w9 : Int32 => ([.int w9] : List Value)) (show ((511 : Int32) >>> ((3 : Int32) &&& (31 : Int32)) : Int32) = 63 by decide +kernel)) ?_
  refine z_iconst (v := 1) B dX12_recordLengthOf_17 rfl ?_
  refine z_iand B dX12_recordLengthOf_18 ?_
  refine z_top (st1 := [.int 1]) (congrArg (fun w9 : Int32 => ([.int w9] : List Value)) (show (63 &&& 1 : Int32) = 1 by decide +kernel)) ?_
  refine z_iconst (v := 1) B dX12_recordLengthOf_19 rfl ?_
  refine z_icmp_ne (tgt := 30) B dX12_recordLengthOf_20 rfl (fun h9 => absurd (by decide) h9) (fun c_8 => ?_)
  refine z_iload_n B dX12_recordLengthOf_23 rfl 1 rfl ?_
  refine z_iload_n B dX12_recordLengthOf_24 rfl 0 rfl ?_
  refine z_callS (As := [.int 3]) (rest := [.int 4]) B (m_lengthOf_3 G l Φ7 sz y ) (va_cwS 1 B.1.2.2.2.2 gX12_recordLengthOf_X12_lengthOf rfl rfl rfl (by decide +kernel) ⟨Nat.le_of_ble_eq_true rfl, Nat.le_of_ble_eq_true rfl⟩) rfl rfl (Nat.le_of_ble_eq_true rfl) dX12_recordLengthOf_25 ⟨Nat.le_of_ble_eq_true rfl, Nat.le_of_ble_eq_true rfl⟩ (fun v8 Φ8 sz8 st8 hp8 hs8 => ?_)
  obtain ⟨rfl, hq8, fr8⟩ := hp8
  replace hq8 : sz8 = sz := hq8
  subst sz8
  replace hs8 : st8 = [.int 1, .int 4] := hs8
  subst st8
  refine z_iadd B dX12_recordLengthOf_28 ?_
  refine z_top (st1 := [.int 5]) (congrArg (fun w9 : Int32 => ([.int w9] : List Value)) (show (4 + 1 : Int32) = 5 by decide +kernel)) ?_
  refine z_istore_n (lv' := [(2, .int 5), (3, .int 3), (0, .ref y), (1, .int 0)]) B dX12_recordLengthOf_29 rfl (Nat.le_of_ble_eq_true rfl) rfl ?_
  refine z_iinc (k := 1) (v := 4) (lv' := [(3, .int 4), (2, .int 5), (0, .ref y), (1, .int 0)]) B dX12_recordLengthOf_30 rfl rfl (Nat.le_of_ble_eq_true rfl) rfl ?_
  refine z_goto (tgt := 4) B dX12_recordLengthOf_33 rfl ?_
  refine z_iload_n B dX12_recordLengthOf_4 rfl 0 rfl ?_
  refine z_bipush (v := 9) B dX12_recordLengthOf_5 rfl ?_
  refine z_icmp_ge (tgt := 36) B dX12_recordLengthOf_7 rfl (fun h9 => absurd h9 (by decide)) (fun c_9 => ?_)
  refine z_aload_n B dX12_recordLengthOf_10 rfl 2 rfl ?_
  refine z_iload_n B dX12_recordLengthOf_11 rfl 3 rfl ?_
  have h_7 : Φ8 y = some (o_ 14 [.int 0, .ref (y + 1), .ref (y + 2), .int 0, .int 1, .int 1, .int 0, .int 0, .ref (y + 3), .ref (y + 4), .int 0, .long 0, .ref (y + 5), .int 0, .int 0, .long 0, .long 0, .long 0, .long 0, .ref (y + 6), .ref (y + 7), .int 0, .ref (y + 8), .int 0, .ref (y + 9), .ref (y + 10), .int 0, .ref (y + 11), .ref (y + 12), .ref (y + 13), .ref (y + 14), .ref (y + 15), .ref (y + 16), .int 0, .long (-1), .ref (y + 17), .ref (y + 18), .ref (y + 19), .ref (y + 20), .ref (y + 21), .ref (y + 22), .int 0, .ref (y + 23), .ref (y + 24), .int 0, .ref (y + 25), .int 0, .int 0, .int 0, .int (-1), .int 0, .int 0, .int 0, .long 0]) := ((fr8 y).trans ((fr7 y).trans h_5))
  have h_8 : Φ8 (y + 2) = some (ai_ G 307 (upd (upd (upd (upd (upd (upd (upd (upd (upd (upd (upd (upd (upd (upd (upd (upd (upd (upd (upd (upd (upd (fun _ => 0) (0 : Int32).toNatClampNeg 1) (1 : Int32).toNatClampNeg 100) (2 : Int32).toNatClampNeg 1000) (3 : Int32).toNatClampNeg 100) (4 : Int32).toNatClampNeg 20) (5 : Int32).toNatClampNeg 1000) (6 : Int32).toNatClampNeg 5000) (7 : Int32).toNatClampNeg 512) (8 : Int32).toNatClampNeg 1) (9 : Int32).toNatClampNeg 511) (10 : Int32).toNatClampNeg 1) (11 : Int32).toNatClampNeg 9) (15 : Int32).toNatClampNeg 0) (16 : Int32).toNatClampNeg 1) (17 : Int32).toNatClampNeg 2) (18 : Int32).toNatClampNeg 3) (19 : Int32).toNatClampNeg 4) (20 : Int32).toNatClampNeg 5) (21 : Int32).toNatClampNeg 6) (22 : Int32).toNatClampNeg 7) (23 : Int32).toNatClampNeg 8)) := ((fr8 (y + 2)).trans ((fr7 (y + 2)).trans h_6))
  refine z_callV (As := [.int 0]) (rest := []) B (m_effective_0 G l Φ8 sz y h_7 h_8) (cwV 1 B.1.2.2.2.2 gX12_recordLengthOf_X12_effective rfl rfl rfl (by decide +kernel) ⟨Nat.le_of_ble_eq_true rfl, Nat.le_of_ble_eq_true rfl⟩) h_7 rfl rfl rfl rfl (Nat.le_of_ble_eq_true rfl) dX12_recordLengthOf_12 ⟨Nat.le_of_ble_eq_true rfl, Nat.le_of_ble_eq_true rfl⟩ (fun v9 Φ9 sz9 st9 hp9 hs9 => ?_)
  obtain ⟨rfl, hq9, fr9⟩ := hp9
  replace hq9 : sz9 = sz := hq9
  subst sz9
  replace hs9 : st9 = [.int 511] := hs9
  subst st9
  refine z_iload_n B dX12_recordLengthOf_15 rfl 0 rfl ?_
  refine z_ishr B dX12_recordLengthOf_16 ?_
  refine z_top (st1 := [.int 31]) (congrArg (fun w9 : Int32 => ([.int w9] : List Value)) (show ((511 : Int32) >>> ((4 : Int32) &&& (31 : Int32)) : Int32) = 31 by decide +kernel)) ?_
  refine z_iconst (v := 1) B dX12_recordLengthOf_17 rfl ?_
  refine z_iand B dX12_recordLengthOf_18 ?_
  refine z_top (st1 := [.int 1]) (congrArg (fun w9 : Int32 => ([.int w9] : List Value)) (show (31 &&& 1 : Int32) = 1 by decide +kernel)) ?_
  refine z_iconst (v := 1) B dX12_recordLengthOf_19 rfl ?_
  refine z_icmp_ne (tgt := 30) B dX12_recordLengthOf_20 rfl (fun h9 => absurd (by decide) h9) (fun c_10 => ?_)
  refine z_iload_n B dX12_recordLengthOf_23 rfl 1 rfl ?_
  refine z_iload_n B dX12_recordLengthOf_24 rfl 0 rfl ?_
  refine z_callS (As := [.int 4]) (rest := [.int 5]) B (m_lengthOf_4 G l Φ9 sz y ) (va_cwS 1 B.1.2.2.2.2 gX12_recordLengthOf_X12_lengthOf rfl rfl rfl (by decide +kernel) ⟨Nat.le_of_ble_eq_true rfl, Nat.le_of_ble_eq_true rfl⟩) rfl rfl (Nat.le_of_ble_eq_true rfl) dX12_recordLengthOf_25 ⟨Nat.le_of_ble_eq_true rfl, Nat.le_of_ble_eq_true rfl⟩ (fun v10 Φ10 sz10 st10 hp10 hs10 => ?_)
  obtain ⟨rfl, hq10, fr10⟩ := hp10
  replace hq10 : sz10 = sz := hq10
  subst sz10
  replace hs10 : st10 = [.int 4, .int 5] := hs10
  subst st10
  refine z_iadd B dX12_recordLengthOf_28 ?_
  refine z_top (st1 := [.int 9]) (congrArg (fun w9 : Int32 => ([.int w9] : List Value)) (show (5 + 4 : Int32) = 9 by decide +kernel)) ?_
  refine z_istore_n (lv' := [(2, .int 9), (3, .int 4), (0, .ref y), (1, .int 0)]) B dX12_recordLengthOf_29 rfl (Nat.le_of_ble_eq_true rfl) rfl ?_
  refine z_iinc (k := 1) (v := 5) (lv' := [(3, .int 5), (2, .int 9), (0, .ref y), (1, .int 0)]) B dX12_recordLengthOf_30 rfl rfl (Nat.le_of_ble_eq_true rfl) rfl ?_
  refine z_goto (tgt := 4) B dX12_recordLengthOf_33 rfl ?_
  refine z_iload_n B dX12_recordLengthOf_4 rfl 0 rfl ?_
  refine z_bipush (v := 9) B dX12_recordLengthOf_5 rfl ?_
  refine z_icmp_ge (tgt := 36) B dX12_recordLengthOf_7 rfl (fun h9 => absurd h9 (by decide)) (fun c_11 => ?_)
  refine z_aload_n B dX12_recordLengthOf_10 rfl 2 rfl ?_
  refine z_iload_n B dX12_recordLengthOf_11 rfl 3 rfl ?_
  have h_9 : Φ10 y = some (o_ 14 [.int 0, .ref (y + 1), .ref (y + 2), .int 0, .int 1, .int 1, .int 0, .int 0, .ref (y + 3), .ref (y + 4), .int 0, .long 0, .ref (y + 5), .int 0, .int 0, .long 0, .long 0, .long 0, .long 0, .ref (y + 6), .ref (y + 7), .int 0, .ref (y + 8), .int 0, .ref (y + 9), .ref (y + 10), .int 0, .ref (y + 11), .ref (y + 12), .ref (y + 13), .ref (y + 14), .ref (y + 15), .ref (y + 16), .int 0, .long (-1), .ref (y + 17), .ref (y + 18), .ref (y + 19), .ref (y + 20), .ref (y + 21), .ref (y + 22), .int 0, .ref (y + 23), .ref (y + 24), .int 0, .ref (y + 25), .int 0, .int 0, .int 0, .int (-1), .int 0, .int 0, .int 0, .long 0]) := ((fr10 y).trans ((fr9 y).trans h_7))
  have h_10 : Φ10 (y + 2) = some (ai_ G 307 (upd (upd (upd (upd (upd (upd (upd (upd (upd (upd (upd (upd (upd (upd (upd (upd (upd (upd (upd (upd (upd (fun _ => 0) (0 : Int32).toNatClampNeg 1) (1 : Int32).toNatClampNeg 100) (2 : Int32).toNatClampNeg 1000) (3 : Int32).toNatClampNeg 100) (4 : Int32).toNatClampNeg 20) (5 : Int32).toNatClampNeg 1000) (6 : Int32).toNatClampNeg 5000) (7 : Int32).toNatClampNeg 512) (8 : Int32).toNatClampNeg 1) (9 : Int32).toNatClampNeg 511) (10 : Int32).toNatClampNeg 1) (11 : Int32).toNatClampNeg 9) (15 : Int32).toNatClampNeg 0) (16 : Int32).toNatClampNeg 1) (17 : Int32).toNatClampNeg 2) (18 : Int32).toNatClampNeg 3) (19 : Int32).toNatClampNeg 4) (20 : Int32).toNatClampNeg 5) (21 : Int32).toNatClampNeg 6) (22 : Int32).toNatClampNeg 7) (23 : Int32).toNatClampNeg 8)) := ((fr10 (y + 2)).trans ((fr9 (y + 2)).trans h_8))
  refine z_callV (As := [.int 0]) (rest := []) B (m_effective_0 G l Φ10 sz y h_9 h_10) (cwV 1 B.1.2.2.2.2 gX12_recordLengthOf_X12_effective rfl rfl rfl (by decide +kernel) ⟨Nat.le_of_ble_eq_true rfl, Nat.le_of_ble_eq_true rfl⟩) h_9 rfl rfl rfl rfl (Nat.le_of_ble_eq_true rfl) dX12_recordLengthOf_12 ⟨Nat.le_of_ble_eq_true rfl, Nat.le_of_ble_eq_true rfl⟩ (fun v11 Φ11 sz11 st11 hp11 hs11 => ?_)
  obtain ⟨rfl, hq11, fr11⟩ := hp11
  replace hq11 : sz11 = sz := hq11
  subst sz11
  replace hs11 : st11 = [.int 511] := hs11
  subst st11
  refine z_iload_n B dX12_recordLengthOf_15 rfl 0 rfl ?_
  refine z_ishr B dX12_recordLengthOf_16 ?_
  refine z_top (st1 := [.int 15]) (congrArg (fun w9 : Int32 => ([.int w9] : List Value)) (show ((511 : Int32) >>> ((5 : Int32) &&& (31 : Int32)) : Int32) = 15 by decide +kernel)) ?_
  refine z_iconst (v := 1) B dX12_recordLengthOf_17 rfl ?_
  refine z_iand B dX12_recordLengthOf_18 ?_
  refine z_top (st1 := [.int 1]) (congrArg (fun w9 : Int32 => ([.int w9] : List Value)) (show (15 &&& 1 : Int32) = 1 by decide +kernel)) ?_
  refine z_iconst (v := 1) B dX12_recordLengthOf_19 rfl ?_
  refine z_icmp_ne (tgt := 30) B dX12_recordLengthOf_20 rfl (fun h9 => absurd (by decide) h9) (fun c_12 => ?_)
  refine z_iload_n B dX12_recordLengthOf_23 rfl 1 rfl ?_
  refine z_iload_n B dX12_recordLengthOf_24 rfl 0 rfl ?_
  refine z_callS (As := [.int 5]) (rest := [.int 9]) B (m_lengthOf_5 G l Φ11 sz y ) (va_cwS 1 B.1.2.2.2.2 gX12_recordLengthOf_X12_lengthOf rfl rfl rfl (by decide +kernel) ⟨Nat.le_of_ble_eq_true rfl, Nat.le_of_ble_eq_true rfl⟩) rfl rfl (Nat.le_of_ble_eq_true rfl) dX12_recordLengthOf_25 ⟨Nat.le_of_ble_eq_true rfl, Nat.le_of_ble_eq_true rfl⟩ (fun v12 Φ12 sz12 st12 hp12 hs12 => ?_)
  obtain ⟨rfl, hq12, fr12⟩ := hp12
  replace hq12 : sz12 = sz := hq12
  subst sz12
  replace hs12 : st12 = [.int 8, .int 9] := hs12
  subst st12
  refine z_iadd B dX12_recordLengthOf_28 ?_
  refine z_top (st1 := [.int 17]) (congrArg (fun w9 : Int32 => ([.int w9] : List Value)) (show (9 + 8 : Int32) = 17 by decide +kernel)) ?_
  refine z_istore_n (lv' := [(2, .int 17), (3, .int 5), (0, .ref y), (1, .int 0)]) B dX12_recordLengthOf_29 rfl (Nat.le_of_ble_eq_true rfl) rfl ?_
  refine z_iinc (k := 1) (v := 6) (lv' := [(3, .int 6), (2, .int 17), (0, .ref y), (1, .int 0)]) B dX12_recordLengthOf_30 rfl rfl (Nat.le_of_ble_eq_true rfl) rfl ?_
  refine z_goto (tgt := 4) B dX12_recordLengthOf_33 rfl ?_
  refine z_iload_n B dX12_recordLengthOf_4 rfl 0 rfl ?_
  refine z_bipush (v := 9) B dX12_recordLengthOf_5 rfl ?_
  refine z_icmp_ge (tgt := 36) B dX12_recordLengthOf_7 rfl (fun h9 => absurd h9 (by decide)) (fun c_13 => ?_)
  refine z_aload_n B dX12_recordLengthOf_10 rfl 2 rfl ?_
  refine z_iload_n B dX12_recordLengthOf_11 rfl 3 rfl ?_
  have h_11 : Φ12 y = some (o_ 14 [.int 0, .ref (y + 1), .ref (y + 2), .int 0, .int 1, .int 1, .int 0, .int 0, .ref (y + 3), .ref (y + 4), .int 0, .long 0, .ref (y + 5), .int 0, .int 0, .long 0, .long 0, .long 0, .long 0, .ref (y + 6), .ref (y + 7), .int 0, .ref (y + 8), .int 0, .ref (y + 9), .ref (y + 10), .int 0, .ref (y + 11), .ref (y + 12), .ref (y + 13), .ref (y + 14), .ref (y + 15), .ref (y + 16), .int 0, .long (-1), .ref (y + 17), .ref (y + 18), .ref (y + 19), .ref (y + 20), .ref (y + 21), .ref (y + 22), .int 0, .ref (y + 23), .ref (y + 24), .int 0, .ref (y + 25), .int 0, .int 0, .int 0, .int (-1), .int 0, .int 0, .int 0, .long 0]) := ((fr12 y).trans ((fr11 y).trans h_9))
  have h_12 : Φ12 (y + 2) = some (ai_ G 307 (upd (upd (upd (upd (upd (upd (upd (upd (upd (upd (upd (upd (upd (upd (upd (upd (upd (upd (upd (upd (upd (fun _ => 0) (0 : Int32).toNatClampNeg 1) (1 : Int32).toNatClampNeg 100) (2 : Int32).toNatClampNeg 1000) (3 : Int32).toNatClampNeg 100) (4 : Int32).toNatClampNeg 20) (5 : Int32).toNatClampNeg 1000) (6 : Int32).toNatClampNeg 5000) (7 : Int32).toNatClampNeg 512) (8 : Int32).toNatClampNeg 1) (9 : Int32).toNatClampNeg 511) (10 : Int32).toNatClampNeg 1) (11 : Int32).toNatClampNeg 9) (15 : Int32).toNatClampNeg 0) (16 : Int32).toNatClampNeg 1) (17 : Int32).toNatClampNeg 2) (18 : Int32).toNatClampNeg 3) (19 : Int32).toNatClampNeg 4) (20 : Int32).toNatClampNeg 5) (21 : Int32).toNatClampNeg 6) (22 : Int32).toNatClampNeg 7) (23 : Int32).toNatClampNeg 8)) := ((fr12 (y + 2)).trans ((fr11 (y + 2)).trans h_10))
  refine z_callV (As := [.int 0]) (rest := []) B (m_effective_0 G l Φ12 sz y h_11 h_12) (cwV 1 B.1.2.2.2.2 gX12_recordLengthOf_X12_effective rfl rfl rfl (by decide +kernel) ⟨Nat.le_of_ble_eq_true rfl, Nat.le_of_ble_eq_true rfl⟩) h_11 rfl rfl rfl rfl (Nat.le_of_ble_eq_true rfl) dX12_recordLengthOf_12 ⟨Nat.le_of_ble_eq_true rfl, Nat.le_of_ble_eq_true rfl⟩ (fun v13 Φ13 sz13 st13 hp13 hs13 => ?_)
  obtain ⟨rfl, hq13, fr13⟩ := hp13
  replace hq13 : sz13 = sz := hq13
  subst sz13
  replace hs13 : st13 = [.int 511] := hs13
  subst st13
  refine z_iload_n B dX12_recordLengthOf_15 rfl 0 rfl ?_
  refine z_ishr B dX12_recordLengthOf_16 ?_
  refine z_top (st1 := [.int 7]) (congrArg (fun w9 : Int32 => ([.int w9] : List Value)) (show ((511 : Int32) >>> ((6 : Int32) &&& (31 : Int32)) : Int32) = 7 by decide +kernel)) ?_
  refine z_iconst (v := 1) B dX12_recordLengthOf_17 rfl ?_
  refine z_iand B dX12_recordLengthOf_18 ?_
  refine z_top (st1 := [.int 1]) (congrArg (fun w9 : Int32 => ([.int w9] : List Value)) (show (7 &&& 1 : Int32) = 1 by decide +kernel)) ?_
  refine z_iconst (v := 1) B dX12_recordLengthOf_19 rfl ?_
  refine z_icmp_ne (tgt := 30) B dX12_recordLengthOf_20 rfl (fun h9 => absurd (by decide) h9) (fun c_14 => ?_)
  refine z_iload_n B dX12_recordLengthOf_23 rfl 1 rfl ?_
  refine z_iload_n B dX12_recordLengthOf_24 rfl 0 rfl ?_
  refine z_callS (As := [.int 6]) (rest := [.int 17]) B (m_lengthOf_6 G l Φ13 sz y ) (va_cwS 1 B.1.2.2.2.2 gX12_recordLengthOf_X12_lengthOf rfl rfl rfl (by decide +kernel) ⟨Nat.le_of_ble_eq_true rfl, Nat.le_of_ble_eq_true rfl⟩) rfl rfl (Nat.le_of_ble_eq_true rfl) dX12_recordLengthOf_25 ⟨Nat.le_of_ble_eq_true rfl, Nat.le_of_ble_eq_true rfl⟩ (fun v14 Φ14 sz14 st14 hp14 hs14 => ?_)
  obtain ⟨rfl, hq14, fr14⟩ := hp14
  replace hq14 : sz14 = sz := hq14
  subst sz14
  replace hs14 : st14 = [.int 4, .int 17] := hs14
  subst st14
  refine z_iadd B dX12_recordLengthOf_28 ?_
  refine z_top (st1 := [.int 21]) (congrArg (fun w9 : Int32 => ([.int w9] : List Value)) (show (17 + 4 : Int32) = 21 by decide +kernel)) ?_
  refine z_istore_n (lv' := [(2, .int 21), (3, .int 6), (0, .ref y), (1, .int 0)]) B dX12_recordLengthOf_29 rfl (Nat.le_of_ble_eq_true rfl) rfl ?_
  refine z_iinc (k := 1) (v := 7) (lv' := [(3, .int 7), (2, .int 21), (0, .ref y), (1, .int 0)]) B dX12_recordLengthOf_30 rfl rfl (Nat.le_of_ble_eq_true rfl) rfl ?_
  refine z_goto (tgt := 4) B dX12_recordLengthOf_33 rfl ?_
  refine z_iload_n B dX12_recordLengthOf_4 rfl 0 rfl ?_
  refine z_bipush (v := 9) B dX12_recordLengthOf_5 rfl ?_
  refine z_icmp_ge (tgt := 36) B dX12_recordLengthOf_7 rfl (fun h9 => absurd h9 (by decide)) (fun c_15 => ?_)
  refine z_aload_n B dX12_recordLengthOf_10 rfl 2 rfl ?_
  refine z_iload_n B dX12_recordLengthOf_11 rfl 3 rfl ?_
  have h_13 : Φ14 y = some (o_ 14 [.int 0, .ref (y + 1), .ref (y + 2), .int 0, .int 1, .int 1, .int 0, .int 0, .ref (y + 3), .ref (y + 4), .int 0, .long 0, .ref (y + 5), .int 0, .int 0, .long 0, .long 0, .long 0, .long 0, .ref (y + 6), .ref (y + 7), .int 0, .ref (y + 8), .int 0, .ref (y + 9), .ref (y + 10), .int 0, .ref (y + 11), .ref (y + 12), .ref (y + 13), .ref (y + 14), .ref (y + 15), .ref (y + 16), .int 0, .long (-1), .ref (y + 17), .ref (y + 18), .ref (y + 19), .ref (y + 20), .ref (y + 21), .ref (y + 22), .int 0, .ref (y + 23), .ref (y + 24), .int 0, .ref (y + 25), .int 0, .int 0, .int 0, .int (-1), .int 0, .int 0, .int 0, .long 0]) := ((fr14 y).trans ((fr13 y).trans h_11))
  have h_14 : Φ14 (y + 2) = some (ai_ G 307 (upd (upd (upd (upd (upd (upd (upd (upd (upd (upd (upd (upd (upd (upd (upd (upd (upd (upd (upd (upd (upd (fun _ => 0) (0 : Int32).toNatClampNeg 1) (1 : Int32).toNatClampNeg 100) (2 : Int32).toNatClampNeg 1000) (3 : Int32).toNatClampNeg 100) (4 : Int32).toNatClampNeg 20) (5 : Int32).toNatClampNeg 1000) (6 : Int32).toNatClampNeg 5000) (7 : Int32).toNatClampNeg 512) (8 : Int32).toNatClampNeg 1) (9 : Int32).toNatClampNeg 511) (10 : Int32).toNatClampNeg 1) (11 : Int32).toNatClampNeg 9) (15 : Int32).toNatClampNeg 0) (16 : Int32).toNatClampNeg 1) (17 : Int32).toNatClampNeg 2) (18 : Int32).toNatClampNeg 3) (19 : Int32).toNatClampNeg 4) (20 : Int32).toNatClampNeg 5) (21 : Int32).toNatClampNeg 6) (22 : Int32).toNatClampNeg 7) (23 : Int32).toNatClampNeg 8)) := ((fr14 (y + 2)).trans ((fr13 (y + 2)).trans h_12))
  refine z_callV (As := [.int 0]) (rest := []) B (m_effective_0 G l Φ14 sz y h_13 h_14) (cwV 1 B.1.2.2.2.2 gX12_recordLengthOf_X12_effective rfl rfl rfl (by decide +kernel) ⟨Nat.le_of_ble_eq_true rfl, Nat.le_of_ble_eq_true rfl⟩) h_13 rfl rfl rfl rfl (Nat.le_of_ble_eq_true rfl) dX12_recordLengthOf_12 ⟨Nat.le_of_ble_eq_true rfl, Nat.le_of_ble_eq_true rfl⟩ (fun v15 Φ15 sz15 st15 hp15 hs15 => ?_)
  obtain ⟨rfl, hq15, fr15⟩ := hp15
  replace hq15 : sz15 = sz := hq15
  subst sz15
  replace hs15 : st15 = [.int 511] := hs15
  subst st15
  refine z_iload_n B dX12_recordLengthOf_15 rfl 0 rfl ?_
  refine z_ishr B dX12_recordLengthOf_16 ?_
  refine z_top (st1 := [.int 3]) (congrArg (fun w9 : Int32 => ([.int w9] : List Value)) (show ((511 : Int32) >>> ((7 : Int32) &&& (31 : Int32)) : Int32) = 3 by decide +kernel)) ?_
  refine z_iconst (v := 1) B dX12_recordLengthOf_17 rfl ?_
  refine z_iand B dX12_recordLengthOf_18 ?_
  refine z_top (st1 := [.int 1]) (congrArg (fun w9 : Int32 => ([.int w9] : List Value)) (show (3 &&& 1 : Int32) = 1 by decide +kernel)) ?_
  refine z_iconst (v := 1) B dX12_recordLengthOf_19 rfl ?_
  refine z_icmp_ne (tgt := 30) B dX12_recordLengthOf_20 rfl (fun h9 => absurd (by decide) h9) (fun c_16 => ?_)
  refine z_iload_n B dX12_recordLengthOf_23 rfl 1 rfl ?_
  refine z_iload_n B dX12_recordLengthOf_24 rfl 0 rfl ?_
  refine z_callS (As := [.int 7]) (rest := [.int 21]) B (m_lengthOf_7 G l Φ15 sz y ) (va_cwS 1 B.1.2.2.2.2 gX12_recordLengthOf_X12_lengthOf rfl rfl rfl (by decide +kernel) ⟨Nat.le_of_ble_eq_true rfl, Nat.le_of_ble_eq_true rfl⟩) rfl rfl (Nat.le_of_ble_eq_true rfl) dX12_recordLengthOf_25 ⟨Nat.le_of_ble_eq_true rfl, Nat.le_of_ble_eq_true rfl⟩ (fun v16 Φ16 sz16 st16 hp16 hs16 => ?_)
  obtain ⟨rfl, hq16, fr16⟩ := hp16
  replace hq16 : sz16 = sz := hq16
  subst sz16
  replace hs16 : st16 = [.int 4, .int 21] := hs16
  subst st16
  refine z_iadd B dX12_recordLengthOf_28 ?_
  refine z_top (st1 := [.int 25]) (congrArg (fun w9 : Int32 => ([.int w9] : List Value)) (show (21 + 4 : Int32) = 25 by decide +kernel)) ?_
  refine z_istore_n (lv' := [(2, .int 25), (3, .int 7), (0, .ref y), (1, .int 0)]) B dX12_recordLengthOf_29 rfl (Nat.le_of_ble_eq_true rfl) rfl ?_
  refine z_iinc (k := 1) (v := 8) (lv' := [(3, .int 8), (2, .int 25), (0, .ref y), (1, .int 0)]) B dX12_recordLengthOf_30 rfl rfl (Nat.le_of_ble_eq_true rfl) rfl ?_
  refine z_goto (tgt := 4) B dX12_recordLengthOf_33 rfl ?_
  refine z_iload_n B dX12_recordLengthOf_4 rfl 0 rfl ?_
  refine z_bipush (v := 9) B dX12_recordLengthOf_5 rfl ?_
  refine z_icmp_ge (tgt := 36) B dX12_recordLengthOf_7 rfl (fun h9 => absurd h9 (by decide)) (fun c_17 => ?_)
  refine z_aload_n B dX12_recordLengthOf_10 rfl 2 rfl ?_
  refine z_iload_n B dX12_recordLengthOf_11 rfl 3 rfl ?_
  have h_15 : Φ16 y = some (o_ 14 [.int 0, .ref (y + 1), .ref (y + 2), .int 0, .int 1, .int 1, .int 0, .int 0, .ref (y + 3), .ref (y + 4), .int 0, .long 0, .ref (y + 5), .int 0, .int 0, .long 0, .long 0, .long 0, .long 0, .ref (y + 6), .ref (y + 7), .int 0, .ref (y + 8), .int 0, .ref (y + 9), .ref (y + 10), .int 0, .ref (y + 11), .ref (y + 12), .ref (y + 13), .ref (y + 14), .ref (y + 15), .ref (y + 16), .int 0, .long (-1), .ref (y + 17), .ref (y + 18), .ref (y + 19), .ref (y + 20), .ref (y + 21), .ref (y + 22), .int 0, .ref (y + 23), .ref (y + 24), .int 0, .ref (y + 25), .int 0, .int 0, .int 0, .int (-1), .int 0, .int 0, .int 0, .long 0]) := ((fr16 y).trans ((fr15 y).trans h_13))
  have h_16 : Φ16 (y + 2) = some (ai_ G 307 (upd (upd (upd (upd (upd (upd (upd (upd (upd (upd (upd (upd (upd (upd (upd (upd (upd (upd (upd (upd (upd (fun _ => 0) (0 : Int32).toNatClampNeg 1) (1 : Int32).toNatClampNeg 100) (2 : Int32).toNatClampNeg 1000) (3 : Int32).toNatClampNeg 100) (4 : Int32).toNatClampNeg 20) (5 : Int32).toNatClampNeg 1000) (6 : Int32).toNatClampNeg 5000) (7 : Int32).toNatClampNeg 512) (8 : Int32).toNatClampNeg 1) (9 : Int32).toNatClampNeg 511) (10 : Int32).toNatClampNeg 1) (11 : Int32).toNatClampNeg 9) (15 : Int32).toNatClampNeg 0) (16 : Int32).toNatClampNeg 1) (17 : Int32).toNatClampNeg 2) (18 : Int32).toNatClampNeg 3) (19 : Int32).toNatClampNeg 4) (20 : Int32).toNatClampNeg 5) (21 : Int32).toNatClampNeg 6) (22 : Int32).toNatClampNeg 7) (23 : Int32).toNatClampNeg 8)) := ((fr16 (y + 2)).trans ((fr15 (y + 2)).trans h_14))
  refine z_callV (As := [.int 0]) (rest := []) B (m_effective_0 G l Φ16 sz y h_15 h_16) (cwV 1 B.1.2.2.2.2 gX12_recordLengthOf_X12_effective rfl rfl rfl (by decide +kernel) ⟨Nat.le_of_ble_eq_true rfl, Nat.le_of_ble_eq_true rfl⟩) h_15 rfl rfl rfl rfl (Nat.le_of_ble_eq_true rfl) dX12_recordLengthOf_12 ⟨Nat.le_of_ble_eq_true rfl, Nat.le_of_ble_eq_true rfl⟩ (fun v17 Φ17 sz17 st17 hp17 hs17 => ?_)
  obtain ⟨rfl, hq17, fr17⟩ := hp17
  replace hq17 : sz17 = sz := hq17
  subst sz17
  replace hs17 : st17 = [.int 511] := hs17
  subst st17
  refine z_iload_n B dX12_recordLengthOf_15 rfl 0 rfl ?_
  refine z_ishr B dX12_recordLengthOf_16 ?_
  refine z_top (st1 := [.int 1]) (congrArg (fun w9 : Int32 => ([.int w9] : List Value)) (show ((511 : Int32) >>> ((8 : Int32) &&& (31 : Int32)) : Int32) = 1 by decide +kernel)) ?_
  refine z_iconst (v := 1) B dX12_recordLengthOf_17 rfl ?_
  refine z_iand B dX12_recordLengthOf_18 ?_
  refine z_top (st1 := [.int 1]) (congrArg (fun w9 : Int32 => ([.int w9] : List Value)) (show (1 &&& 1 : Int32) = 1 by decide +kernel)) ?_
  refine z_iconst (v := 1) B dX12_recordLengthOf_19 rfl ?_
  refine z_icmp_ne (tgt := 30) B dX12_recordLengthOf_20 rfl (fun h9 => absurd (by decide) h9) (fun c_18 => ?_)
  refine z_iload_n B dX12_recordLengthOf_23 rfl 1 rfl ?_
  refine z_iload_n B dX12_recordLengthOf_24 rfl 0 rfl ?_
  refine z_callS (As := [.int 8]) (rest := [.int 25]) B (m_lengthOf_8 G l Φ17 sz y ) (va_cwS 1 B.1.2.2.2.2 gX12_recordLengthOf_X12_lengthOf rfl rfl rfl (by decide +kernel) ⟨Nat.le_of_ble_eq_true rfl, Nat.le_of_ble_eq_true rfl⟩) rfl rfl (Nat.le_of_ble_eq_true rfl) dX12_recordLengthOf_25 ⟨Nat.le_of_ble_eq_true rfl, Nat.le_of_ble_eq_true rfl⟩ (fun v18 Φ18 sz18 st18 hp18 hs18 => ?_)
  obtain ⟨rfl, hq18, fr18⟩ := hp18
  replace hq18 : sz18 = sz := hq18
  subst sz18
  replace hs18 : st18 = [.int 4, .int 25] := hs18
  subst st18
  refine z_iadd B dX12_recordLengthOf_28 ?_
  refine z_top (st1 := [.int 29]) (congrArg (fun w9 : Int32 => ([.int w9] : List Value)) (show (25 + 4 : Int32) = 29 by decide +kernel)) ?_
  refine z_istore_n (lv' := [(2, .int 29), (3, .int 8), (0, .ref y), (1, .int 0)]) B dX12_recordLengthOf_29 rfl (Nat.le_of_ble_eq_true rfl) rfl ?_
  refine z_iinc (k := 1) (v := 9) (lv' := [(3, .int 9), (2, .int 29), (0, .ref y), (1, .int 0)]) B dX12_recordLengthOf_30 rfl rfl (Nat.le_of_ble_eq_true rfl) rfl ?_
  refine z_goto (tgt := 4) B dX12_recordLengthOf_33 rfl ?_
  refine z_iload_n B dX12_recordLengthOf_4 rfl 0 rfl ?_
  refine z_bipush (v := 9) B dX12_recordLengthOf_5 rfl ?_
  refine z_icmp_ge (tgt := 36) B dX12_recordLengthOf_7 rfl (fun c_19 => ?_) (fun h9 => absurd (by decide) h9)
  refine z_iload_n B dX12_recordLengthOf_36 rfl 1 rfl ?_
  exact z_ret_i B dX12_recordLengthOf_37 ⟨rfl, rfl, (fun b9 => ((fr18 b9).trans ((fr17 b9).trans ((fr16 b9).trans ((fr15 b9).trans ((fr14 b9).trans ((fr13 b9).trans ((fr12 b9).trans ((fr11 b9).trans ((fr10 b9).trans ((fr9 b9).trans ((fr8 b9).trans ((fr7 b9).trans ((fr6 b9).trans ((fr5 b9).trans ((fr4 b9).trans ((fr3 b9).trans ((fr2 b9).trans ((fr1 b9).trans rfl)))))))))))))))))))⟩

set_option maxHeartbeats 4000000 in
set_option maxRecDepth 100000 in
theorem m_due_0 (G : EnvG) (l : Launch) (Φ : Hm) (sz : Nat) (y : Nat) (hc0_ : Φ y = some (o_ 14 [.int 0, .ref (y + 1), .ref (y + 2), .int 0, .int 1, .int 1, .int 0, .int 0, .ref (y + 3), .ref (y + 4), .int 0, .long 0, .ref (y + 5), .int 0, .int 0, .long 0, .long 0, .long 0, .long 0, .ref (y + 6), .ref (y + 7), .int 0, .ref (y + 8), .int 0, .ref (y + 9), .ref (y + 10), .int 0, .ref (y + 11), .ref (y + 12), .ref (y + 13), .ref (y + 14), .ref (y + 15), .ref (y + 16), .int 0, .long (-1), .ref (y + 17), .ref (y + 18), .ref (y + 19), .ref (y + 20), .ref (y + 21), .ref (y + 22), .int 0, .ref (y + 23), .ref (y + 24), .int 0, .ref (y + 25), .int 0, .int 0, .int 0, .int (-1), .int 0, .int 0, .int 0, .long 0])) (hc2_ : Φ (y + 2) = some (ai_ G 307 (upd (upd (upd (upd (upd (upd (upd (upd (upd (upd (upd (upd (upd (upd (upd (upd (upd (upd (upd (upd (upd (fun _ => 0) (0 : Int32).toNatClampNeg 1) (1 : Int32).toNatClampNeg 100) (2 : Int32).toNatClampNeg 1000) (3 : Int32).toNatClampNeg 100) (4 : Int32).toNatClampNeg 20) (5 : Int32).toNatClampNeg 1000) (6 : Int32).toNatClampNeg 5000) (7 : Int32).toNatClampNeg 512) (8 : Int32).toNatClampNeg 1) (9 : Int32).toNatClampNeg 511) (10 : Int32).toNatClampNeg 1) (11 : Int32).toNatClampNeg 9) (15 : Int32).toNatClampNeg 0) (16 : Int32).toNatClampNeg 1) (17 : Int32).toNatClampNeg 2) (18 : Int32).toNatClampNeg 3) (19 : Int32).toNatClampNeg 4) (20 : Int32).toNatClampNeg 5) (21 : Int32).toNatClampNeg 6) (22 : Int32).toNatClampNeg 7) (23 : Int32).toNatClampNeg 8))) (hc3_ : Φ (y + 3) = some (ai_ G 4 (upd (upd (upd (upd (fun _ => 0) (0 : Int32).toNatClampNeg (-1)) (1 : Int32).toNatClampNeg (-1)) (2 : Int32).toNatClampNeg (-1)) (3 : Int32).toNatClampNeg (-1)))) : Ct G l yX12_due wsX12_due ({ frames := 3, cells := 0, slots := 0, locals := 66 }) 0 0 [.ref y, .int 0] Φ sz (fun v Φ1 sz1 => v = some (.int 1) ∧ sz1 = sz ∧ (∀ b9 : Nat, Φ1 b9 = Φ b9)) := by
  refine Ct.of (cc := cX12_due) (maxL := 2) (ret := (some .boolean)) (by decide) rfl (Nat.le_of_ble_eq_true rfl) ?_
  intro p9 e9 s9 m9 w9 t9 k9 B
  show Z p9 l e9 _ s9 m9 _ w9 t9 k9 _ G 2 0 [(0, .ref y), (1, .int 0)] [] Φ sz 0 0
  refine z_aload_n B dX12_due_0 rfl 0 rfl ?_
  refine z_iload_n B dX12_due_1 rfl 1 rfl ?_
  refine z_callV (As := [.int 0]) (rest := []) B (m_effective_0 G l Φ sz y hc0_ hc2_) (cwV 1 B.1.2.2.2.2 gX12_due_X12_effective rfl rfl rfl (by decide +kernel) ⟨Nat.le_of_ble_eq_true rfl, Nat.le_of_ble_eq_true rfl⟩) hc0_ rfl rfl rfl rfl (Nat.le_of_ble_eq_true rfl) dX12_due_2 ⟨Nat.le_of_ble_eq_true rfl, Nat.le_of_ble_eq_true rfl⟩ (fun v1 Φ1 sz1 st1 hp1 hs1 => ?_)
  obtain ⟨rfl, hq1, fr1⟩ := hp1
  replace hq1 : sz1 = sz := hq1
  subst sz1
  replace hs1 : st1 = [.int 511] := hs1
  subst st1
  refine z_if_ne (tgt := 10) B dX12_due_5 rfl (fun c_1 => ?_) (fun h9 => absurd h9 (by decide))
  refine z_aload_n B dX12_due_10 rfl 0 rfl ?_
  have h_1 : Φ1 y = some (o_ 14 [.int 0, .ref (y + 1), .ref (y + 2), .int 0, .int 1, .int 1, .int 0, .int 0, .ref (y + 3), .ref (y + 4), .int 0, .long 0, .ref (y + 5), .int 0, .int 0, .long 0, .long 0, .long 0, .long 0, .ref (y + 6), .ref (y + 7), .int 0, .ref (y + 8), .int 0, .ref (y + 9), .ref (y + 10), .int 0, .ref (y + 11), .ref (y + 12), .ref (y + 13), .ref (y + 14), .ref (y + 15), .ref (y + 16), .int 0, .long (-1), .ref (y + 17), .ref (y + 18), .ref (y + 19), .ref (y + 20), .ref (y + 21), .ref (y + 22), .int 0, .ref (y + 23), .ref (y + 24), .int 0, .ref (y + 25), .int 0, .int 0, .int 0, .int (-1), .int 0, .int 0, .int 0, .long 0]) := ((fr1 y).trans hc0_)
  refine z_get (ref := "FlowExporterModel") (C := RX12) (T := TX12) (N := 54) (ci := 14) (v := .ref (y + 3)) B (by decide +kernel) rfl 8 (by decide) (by decide +kernel) rfl h_1 rfl dX12_due_11 ?_
  refine z_iload_n B dX12_due_14 rfl 1 rfl ?_
  have h_2 : Φ1 (y + 3) = some (ai_ G 4 (upd (upd (upd (upd (fun _ => 0) (0 : Int32).toNatClampNeg (-1)) (1 : Int32).toNatClampNeg (-1)) (2 : Int32).toNatClampNeg (-1)) (3 : Int32).toNatClampNeg (-1))) := ((fr1 (y + 3)).trans hc3_)
  refine z_iald B h_2 (vin rfl) dX12_due_15 ?_
  refine z_top (st1 := [.int (-1)]) (by rfl) ?_
  refine z_iconst (v := (-1)) B dX12_due_16 rfl ?_
  refine z_icmp_eq (tgt := 62) B dX12_due_17 rfl (fun c_2 => ?_) (fun h9 => absurd (by decide) h9)
  refine z_iconst (v := 1) B dX12_due_62 rfl ?_
  refine z_goto (tgt := 67) B dX12_due_63 rfl ?_
  exact z_ret_z B dX12_due_67 (by decide) ⟨rfl, rfl, (fun b9 => ((fr1 b9).trans rfl))⟩

set_option maxHeartbeats 4000000 in
set_option maxRecDepth 100000 in
theorem m_exportAll (G : EnvG) (l : Launch) (Φ : Hm) (sz : Nat) (y : Nat) (hc0_ : Φ y = some (o_ 14 [.int 0, .ref (y + 1), .ref (y + 2), .int 0, .int 1, .int 1, .int 0, .int 0, .ref (y + 3), .ref (y + 4), .int 0, .long 0, .ref (y + 5), .int 0, .int 0, .long 0, .long 0, .long 0, .long 0, .ref (y + 6), .ref (y + 7), .int 0, .ref (y + 8), .int 0, .ref (y + 9), .ref (y + 10), .int 0, .ref (y + 11), .ref (y + 12), .ref (y + 13), .ref (y + 14), .ref (y + 15), .ref (y + 16), .int 0, .long (-1), .ref (y + 17), .ref (y + 18), .ref (y + 19), .ref (y + 20), .ref (y + 21), .ref (y + 22), .int 0, .ref (y + 23), .ref (y + 24), .int 0, .ref (y + 25), .int 0, .int 0, .int 0, .int (-1), .int 0, .int 0, .int 0, .long 0])) : Ct G l yX12_exportAll wsX12_exportAll ({ frames := 0, cells := 0, slots := 0, locals := 0 }) 0 0 [.ref y] Φ sz (fun v Φ1 sz1 => v = some (.int 0) ∧ sz1 = sz ∧ (∀ b9 : Nat, Φ1 b9 = Φ b9)) := by
  refine Ct.of (cc := cX12_exportAll) (maxL := 2) (ret := (some .int)) (by decide) rfl (Nat.le_of_ble_eq_true rfl) ?_
  intro p9 e9 s9 m9 w9 t9 k9 B
  show Z p9 l e9 _ s9 m9 _ w9 t9 k9 _ G 2 0 [(0, .ref y)] [] Φ sz 0 0
  refine z_aload_n B dX12_exportAll_0 rfl 0 rfl ?_
  refine z_get (ref := "FlowExporterModel") (C := RX12) (T := TX12) (N := 54) (ci := 14) (v := .int 0) B (by decide +kernel) rfl 13 (by decide) (by decide +kernel) rfl hc0_ rfl dX12_exportAll_1 ?_
  refine z_istore_n (lv' := [(1, .int 0), (0, .ref y)]) B dX12_exportAll_4 rfl (Nat.le_of_ble_eq_true rfl) rfl ?_
  refine z_aload_n B dX12_exportAll_5 rfl 1 rfl ?_
  refine z_get (ref := "FlowExporterModel") (C := RX12) (T := TX12) (N := 54) (ci := 14) (v := .int 0) B (by decide +kernel) rfl 13 (by decide) (by decide +kernel) rfl hc0_ rfl dX12_exportAll_6 ?_
  refine z_if_le (tgt := 20) B dX12_exportAll_9 rfl (fun c_1 => ?_) (fun h9 => absurd (by decide) h9)
  refine z_iload_n B dX12_exportAll_20 rfl 0 rfl ?_
  exact z_ret_i B dX12_exportAll_21 ⟨rfl, rfl, (fun b9 => rfl)⟩

set_option maxHeartbeats 4000000 in
set_option maxRecDepth 100000 in
theorem m_sendPending (G : EnvG) (l : Launch) (Φ : Hm) (sz : Nat) (y : Nat) (hc0_ : Φ y = some (o_ 14 [.int 0, .ref (y + 1), .ref (y + 2), .int 0, .int 1, .int 1, .int 0, .int 0, .ref (y + 3), .ref (y + 4), .int 0, .long 0, .ref (y + 5), .int 0, .int 0, .long 0, .long 0, .long 0, .long 0, .ref (y + 6), .ref (y + 7), .int 0, .ref (y + 8), .int 0, .ref (y + 9), .ref (y + 10), .int 0, .ref (y + 11), .ref (y + 12), .ref (y + 13), .ref (y + 14), .ref (y + 15), .ref (y + 16), .int 0, .long (-1), .ref (y + 17), .ref (y + 18), .ref (y + 19), .ref (y + 20), .ref (y + 21), .ref (y + 22), .int 0, .ref (y + 23), .ref (y + 24), .int 0, .ref (y + 25), .int 0, .int 0, .int 0, .int (-1), .int 0, .int 0, .int 0, .long 0])) (hna : G.2.2.2 ≤ y) : Ct G l yX12_sendPending wsX12_sendPending ({ frames := 0, cells := 0, slots := 0, locals := 0 }) 0 0 [.ref y] Φ sz (fun v Φ1 sz1 => v = none ∧ sz1 = sz ∧ (∀ b9 : Nat, b9 ≠ y → Φ1 b9 = Φ b9) ∧ Φ1 y = some (o_ 14 [.int 0, .ref (y + 1), .ref (y + 2), .int 0, .int 1, .int 1, .int 0, .int 0, .ref (y + 3), .ref (y + 4), .int 0, .long 0, .ref (y + 5), .int 0, .int 0, .long 0, .long 0, .long 0, .long 0, .ref (y + 6), .ref (y + 7), .int 0, .ref (y + 8), .int 0, .ref (y + 9), .ref (y + 10), .int 0, .ref (y + 11), .ref (y + 12), .ref (y + 13), .ref (y + 14), .ref (y + 15), .ref (y + 16), .int 0, .long (-1), .ref (y + 17), .ref (y + 18), .ref (y + 19), .ref (y + 20), .ref (y + 21), .ref (y + 22), .int 0, .ref (y + 23), .ref (y + 24), .int 0, .ref (y + 25), .int 0, .int 0, .int 0, .int (-1), .int 0, .int 0, .int 0, .long 0])) := by
  refine Ct.of (cc := cX12_sendPending) (maxL := 3) (ret := none) (by decide) rfl (Nat.le_of_ble_eq_true rfl) ?_
  intro p9 e9 s9 m9 w9 t9 k9 B
  show Z p9 l e9 _ s9 m9 _ w9 t9 k9 _ G 3 0 [(0, .ref y)] [] Φ sz 0 0
  refine z_iconst (v := 0) B dX12_sendPending_0 rfl ?_
  refine z_istore_n (lv' := [(1, .int 0), (0, .ref y)]) B dX12_sendPending_1 rfl (Nat.le_of_ble_eq_true rfl) rfl ?_
  refine z_iload_n B dX12_sendPending_2 rfl 0 rfl ?_
  refine z_aload_n B dX12_sendPending_3 rfl 1 rfl ?_
  refine z_get (ref := "FlowExporterModel") (C := RX12) (T := TX12) (N := 54) (ci := 14) (v := .int 0) B (by decide +kernel) rfl 21 (by decide) (by decide +kernel) rfl hc0_ rfl dX12_sendPending_4 ?_
  refine z_icmp_ge (tgt := 132) B dX12_sendPending_7 rfl (fun c_1 => ?_) (fun h9 => absurd (by decide) h9)
  refine z_aload_n B dX12_sendPending_132 rfl 1 rfl ?_
  refine z_iconst (v := 0) B dX12_sendPending_133 rfl ?_
  refine z_put (ref := "FlowExporterModel") (C := RX12) (T := TX12) (N := 54) (ci := 14) (v := .int 0) B (by decide +kernel) tyX12 tyX12_ok nmX12 rfl 21 (by decide) (by decide +kernel) rfl (Or.inl rfl) hc0_ hna rfl rfl (Nat.le_of_ble_eq_true rfl) dX12_sendPending_134 (fun Φ1 hΦ1 => ?_)
  have h_1 : Φ1 y = some (o_ 14 [.int 0, .ref (y + 1), .ref (y + 2), .int 0, .int 1, .int 1, .int 0, .int 0, .ref (y + 3), .ref (y + 4), .int 0, .long 0, .ref (y + 5), .int 0, .int 0, .long 0, .long 0, .long 0, .long 0, .ref (y + 6), .ref (y + 7), .int 0, .ref (y + 8), .int 0, .ref (y + 9), .ref (y + 10), .int 0, .ref (y + 11), .ref (y + 12), .ref (y + 13), .ref (y + 14), .ref (y + 15), .ref (y + 16), .int 0, .long (-1), .ref (y + 17), .ref (y + 18), .ref (y + 19), .ref (y + 20), .ref (y + 21), .ref (y + 22), .int 0, .ref (y + 23), .ref (y + 24), .int 0, .ref (y + 25), .int 0, .int 0, .int 0, .int (-1), .int 0, .int 0, .int 0, .long 0]) := fset_at hΦ1
  exact z_ret_v B dX12_sendPending_137 ⟨rfl, rfl, (fun b9 h9a => ((fset_fr hΦ1 h9a).trans rfl)), h_1⟩

set_option maxHeartbeats 4000000 in
set_option maxRecDepth 100000 in
theorem m_X12_templateFields (G : EnvG) (l : Launch) (Φ : Hm) (sz : Nat) (y : Nat) (hc0_ : Φ y = some (o_ 14 [.int 0, .ref (y + 1), .ref (y + 2), .int 0, .int 1, .int 1, .int 0, .int 0, .ref (y + 3), .ref (y + 4), .int 0, .long 0, .ref (y + 5), .int 0, .int 0, .long 0, .long 0, .long 0, .long 0, .ref (y + 6), .ref (y + 7), .int 0, .ref (y + 8), .int 0, .ref (y + 9), .ref (y + 10), .int 0, .ref (y + 11), .ref (y + 12), .ref (y + 13), .ref (y + 14), .ref (y + 15), .ref (y + 16), .int 0, .long (-1), .ref (y + 17), .ref (y + 18), .ref (y + 19), .ref (y + 20), .ref (y + 21), .ref (y + 22), .int 0, .ref (y + 23), .ref (y + 24), .int 0, .ref (y + 25), .int 0, .int 0, .int 0, .int (-1), .int 0, .int 0, .int 0, .long 0])) (hc2_ : Φ (y + 2) = some (ai_ G 307 (upd (upd (upd (upd (upd (upd (upd (upd (upd (upd (upd (upd (upd (upd (upd (upd (upd (upd (upd (upd (upd (fun _ => 0) (0 : Int32).toNatClampNeg 1) (1 : Int32).toNatClampNeg 100) (2 : Int32).toNatClampNeg 1000) (3 : Int32).toNatClampNeg 100) (4 : Int32).toNatClampNeg 20) (5 : Int32).toNatClampNeg 1000) (6 : Int32).toNatClampNeg 5000) (7 : Int32).toNatClampNeg 512) (8 : Int32).toNatClampNeg 1) (9 : Int32).toNatClampNeg 511) (10 : Int32).toNatClampNeg 1) (11 : Int32).toNatClampNeg 9) (15 : Int32).toNatClampNeg 0) (16 : Int32).toNatClampNeg 1) (17 : Int32).toNatClampNeg 2) (18 : Int32).toNatClampNeg 3) (19 : Int32).toNatClampNeg 4) (20 : Int32).toNatClampNeg 5) (21 : Int32).toNatClampNeg 6) (22 : Int32).toNatClampNeg 7) (23 : Int32).toNatClampNeg 8))) (hna : G.2.2.2 ≤ y) : Ct G l yX12_templateFields wsX12_templateFields ({ frames := 2, cells := 0, slots := 0, locals := 46 }) 0 0 [.ref y, .int 0] Φ sz (fun v Φ1 sz1 => v = some (.int 511) ∧ (∃ fs : List Value, Φ1 y = some (o_ 14 fs) ∧ fs[0]? = some (.int 0)) ∧ ∀ b9 : Nat, y + 26 ≤ b9 → Φ1 b9 = Φ b9) := by
  refine Ct.of (cc := cX12_templateFields) (maxL := 2) (ret := (some .int)) (by decide) rfl (Nat.le_of_ble_eq_true rfl) ?_
  intro p9 e9 s9 m9 w9 t9 k9 B
  show Z p9 l e9 _ s9 m9 _ w9 t9 k9 _ G 2 0 [(0, .ref y), (1, .int 0)] [] Φ sz 0 0
  refine z_aload_n B dX12_templateFields_0 rfl 0 rfl ?_
  refine z_iconst (v := 0) B dX12_templateFields_1 rfl ?_
  refine z_put (ref := "FlowExporterModel") (C := RX12) (T := TX12) (N := 54) (ci := 14) (v := .int 0) B (by decide +kernel) tyX12 tyX12_ok nmX12 rfl 0 (by decide) (by decide +kernel) rfl (Or.inl rfl) hc0_ hna rfl rfl (Nat.le_of_ble_eq_true rfl) dX12_templateFields_2 (fun Φ1 hΦ1 => ?_)
  have h_1 : Φ1 y = some (o_ 14 [.int 0, .ref (y + 1), .ref (y + 2), .int 0, .int 1, .int 1, .int 0, .int 0, .ref (y + 3), .ref (y + 4), .int 0, .long 0, .ref (y + 5), .int 0, .int 0, .long 0, .long 0, .long 0, .long 0, .ref (y + 6), .ref (y + 7), .int 0, .ref (y + 8), .int 0, .ref (y + 9), .ref (y + 10), .int 0, .ref (y + 11), .ref (y + 12), .ref (y + 13), .ref (y + 14), .ref (y + 15), .ref (y + 16), .int 0, .long (-1), .ref (y + 17), .ref (y + 18), .ref (y + 19), .ref (y + 20), .ref (y + 21), .ref (y + 22), .int 0, .ref (y + 23), .ref (y + 24), .int 0, .ref (y + 25), .int 0, .int 0, .int 0, .int (-1), .int 0, .int 0, .int 0, .long 0]) := fset_at hΦ1
  refine z_aload_n B dX12_templateFields_5 rfl 0 rfl ?_
  refine z_aload_n B dX12_templateFields_6 rfl 0 rfl ?_
  refine z_iload_n B dX12_templateFields_7 rfl 1 rfl ?_
  have h_2 : Φ1 (y + 2) = some (ai_ G 307 (upd (upd (upd (upd (upd (upd (upd (upd (upd (upd (upd (upd (upd (upd (upd (upd (upd (upd (upd (upd (upd (fun _ => 0) (0 : Int32).toNatClampNeg 1) (1 : Int32).toNatClampNeg 100) (2 : Int32).toNatClampNeg 1000) (3 : Int32).toNatClampNeg 100) (4 : Int32).toNatClampNeg 20) (5 : Int32).toNatClampNeg 1000) (6 : Int32).toNatClampNeg 5000) (7 : Int32).toNatClampNeg 512) (8 : Int32).toNatClampNeg 1) (9 : Int32).toNatClampNeg 511) (10 : Int32).toNatClampNeg 1) (11 : Int32).toNatClampNeg 9) (15 : Int32).toNatClampNeg 0) (16 : Int32).toNatClampNeg 1) (17 : Int32).toNatClampNeg 2) (18 : Int32).toNatClampNeg 3) (19 : Int32).toNatClampNeg 4) (20 : Int32).toNatClampNeg 5) (21 : Int32).toNatClampNeg 6) (22 : Int32).toNatClampNeg 7) (23 : Int32).toNatClampNeg 8)) := ((fset_fr hΦ1 (ne_off (x := y) (i := 2) (j := 0) rfl)).trans hc2_)
  refine z_callV (As := [.int 0]) (rest := [.ref y]) B (m_isTemplate_0 G l Φ1 sz y h_1 h_2) (cwV 1 B.1.2.2.2.2 gX12_templateFields_X12_isTemplate rfl rfl rfl (by decide +kernel) ⟨Nat.le_of_ble_eq_true rfl, Nat.le_of_ble_eq_true rfl⟩) h_1 rfl rfl rfl rfl (Nat.le_of_ble_eq_true rfl) dX12_templateFields_8 ⟨Nat.le_of_ble_eq_true rfl, Nat.le_of_ble_eq_true rfl⟩ (fun v1 Φ2 sz1 st1 hp1 hs1 => ?_)
  obtain ⟨rfl, hq1, fr1⟩ := hp1
  replace hq1 : sz1 = sz := hq1
  subst sz1
  replace hs1 : st1 = [.int 1, .ref y] := hs1
  subst st1
  refine z_if_ne (tgt := 18) B dX12_templateFields_11 rfl (fun c_1 => ?_) (fun h9 => absurd h9 (by decide))
  refine z_iconst (v := 0) B dX12_templateFields_18 rfl ?_
  refine z_iconst (v := 1) B dX12_templateFields_19 rfl ?_
  have h_3 : Φ2 y = some (o_ 14 [.int 0, .ref (y + 1), .ref (y + 2), .int 0, .int 1, .int 1, .int 0, .int 0, .ref (y + 3), .ref (y + 4), .int 0, .long 0, .ref (y + 5), .int 0, .int 0, .long 0, .long 0, .long 0, .long 0, .ref (y + 6), .ref (y + 7), .int 0, .ref (y + 8), .int 0, .ref (y + 9), .ref (y + 10), .int 0, .ref (y + 11), .ref (y + 12), .ref (y + 13), .ref (y + 14), .ref (y + 15), .ref (y + 16), .int 0, .long (-1), .ref (y + 17), .ref (y + 18), .ref (y + 19), .ref (y + 20), .ref (y + 21), .ref (y + 22), .int 0, .ref (y + 23), .ref (y + 24), .int 0, .ref (y + 25), .int 0, .int 0, .int 0, .int (-1), .int 0, .int 0, .int 0, .long 0]) := ((fr1 y).trans h_1)
  refine z_callV (As := [.int 0, .int 1]) (rest := []) B (c_X12_throwsIf_0 G l Φ2 sz y 0 0 1 1 0 0 0 0 0 0 0 0 0 0 0 0 0 0 (-1) 0 0 0 0 0 (-1) 0 0 0 0 1 h_3 hna) (cwV 2 B.1.2.2.2.2 gX12_templateFields_X12_throwsIf rfl rfl rfl (by decide +kernel) ⟨Nat.le_of_ble_eq_true rfl, Nat.le_of_ble_eq_true rfl⟩) h_3 rfl rfl rfl rfl (Nat.le_of_ble_eq_true rfl) dX12_templateFields_20 ⟨Nat.le_of_ble_eq_true rfl, Nat.le_of_ble_eq_true rfl⟩ (fun v2 Φ3 sz2 st2 hp2 hs2 => ?_)
  obtain ⟨rfl, hq2, fr2⟩ := hp2
  replace hq2 : sz2 = sz := hq2
  subst sz2
  replace hs2 : st2 = [.int 0] := hs2
  subst st2
  refine z_if_eq (tgt := 30) B dX12_templateFields_23 rfl (fun c_2 => ?_) (fun h9 => absurd (by decide) h9)
  refine z_aload_n B dX12_templateFields_30 rfl 0 rfl ?_
  refine z_iload_n B dX12_templateFields_31 rfl 1 rfl ?_
  have h_4 : Φ3 y = some (o_ 14 [.int 0, .ref (y + 1), .ref (y + 2), .int 0, .int 1, .int 1, .int 0, .int 0, .ref (y + 3), .ref (y + 4), .int 0, .long 0, .ref (y + 5), .int 0, .int 0, .long 0, .long 0, .long 0, .long 0, .ref (y + 6), .ref (y + 7), .int 0, .ref (y + 8), .int 0, .ref (y + 9), .ref (y + 10), .int 0, .ref (y + 11), .ref (y + 12), .ref (y + 13), .ref (y + 14), .ref (y + 15), .ref (y + 16), .int 0, .long (-1), .ref (y + 17), .ref (y + 18), .ref (y + 19), .ref (y + 20), .ref (y + 21), .ref (y + 22), .int 0, .ref (y + 23), .ref (y + 24), .int 0, .ref (y + 25), .int 0, .int 0, .int 0, .int (-1), .int 0, .int 0, .int 0, .long 0]) := ((fr2 y).trans h_3)
  have h_5 : Φ3 (y + 2) = some (ai_ G 307 (upd (upd (upd (upd (upd (upd (upd (upd (upd (upd (upd (upd (upd (upd (upd (upd (upd (upd (upd (upd (upd (fun _ => 0) (0 : Int32).toNatClampNeg 1) (1 : Int32).toNatClampNeg 100) (2 : Int32).toNatClampNeg 1000) (3 : Int32).toNatClampNeg 100) (4 : Int32).toNatClampNeg 20) (5 : Int32).toNatClampNeg 1000) (6 : Int32).toNatClampNeg 5000) (7 : Int32).toNatClampNeg 512) (8 : Int32).toNatClampNeg 1) (9 : Int32).toNatClampNeg 511) (10 : Int32).toNatClampNeg 1) (11 : Int32).toNatClampNeg 9) (15 : Int32).toNatClampNeg 0) (16 : Int32).toNatClampNeg 1) (17 : Int32).toNatClampNeg 2) (18 : Int32).toNatClampNeg 3) (19 : Int32).toNatClampNeg 4) (20 : Int32).toNatClampNeg 5) (21 : Int32).toNatClampNeg 6) (22 : Int32).toNatClampNeg 7) (23 : Int32).toNatClampNeg 8)) := ((fr2 (y + 2)).trans ((fr1 (y + 2)).trans h_2))
  refine z_callV (As := [.int 0]) (rest := []) B (m_fieldsOf_0 G l Φ3 sz y h_4 h_5) (cwV 1 B.1.2.2.2.2 gX12_templateFields_X12_fieldsOf rfl rfl rfl (by decide +kernel) ⟨Nat.le_of_ble_eq_true rfl, Nat.le_of_ble_eq_true rfl⟩) h_4 rfl rfl rfl rfl (Nat.le_of_ble_eq_true rfl) dX12_templateFields_32 ⟨Nat.le_of_ble_eq_true rfl, Nat.le_of_ble_eq_true rfl⟩ (fun v3 Φ4 sz3 st3 hp3 hs3 => ?_)
  obtain ⟨rfl, hq3, fr3⟩ := hp3
  replace hq3 : sz3 = sz := hq3
  subst sz3
  replace hs3 : st3 = [.int 511] := hs3
  subst st3
  have h_6 : Φ4 y = some (o_ 14 [.int 0, .ref (y + 1), .ref (y + 2), .int 0, .int 1, .int 1, .int 0, .int 0, .ref (y + 3), .ref (y + 4), .int 0, .long 0, .ref (y + 5), .int 0, .int 0, .long 0, .long 0, .long 0, .long 0, .ref (y + 6), .ref (y + 7), .int 0, .ref (y + 8), .int 0, .ref (y + 9), .ref (y + 10), .int 0, .ref (y + 11), .ref (y + 12), .ref (y + 13), .ref (y + 14), .ref (y + 15), .ref (y + 16), .int 0, .long (-1), .ref (y + 17), .ref (y + 18), .ref (y + 19), .ref (y + 20), .ref (y + 21), .ref (y + 22), .int 0, .ref (y + 23), .ref (y + 24), .int 0, .ref (y + 25), .int 0, .int 0, .int 0, .int (-1), .int 0, .int 0, .int 0, .long 0]) := ((fr3 y).trans h_4)
  exact z_ret_i B dX12_templateFields_35 ⟨rfl, ⟨_, h_6, rfl⟩, fun b9 h9 => ((fr3 b9).trans ((fr2 b9).trans ((fr1 b9).trans ((fset_fr hΦ1 (Nat.ne_of_gt (Nat.lt_of_lt_of_le (lt_off (x := y) (i := 0) (j := 26) rfl) h9))).trans rfl))))⟩

set_option maxHeartbeats 4000000 in
set_option maxRecDepth 100000 in
theorem m_X12_effectiveFields (G : EnvG) (l : Launch) (Φ : Hm) (sz : Nat) (y : Nat) (hc0_ : Φ y = some (o_ 14 [.int 0, .ref (y + 1), .ref (y + 2), .int 0, .int 1, .int 1, .int 0, .int 0, .ref (y + 3), .ref (y + 4), .int 0, .long 0, .ref (y + 5), .int 0, .int 0, .long 0, .long 0, .long 0, .long 0, .ref (y + 6), .ref (y + 7), .int 0, .ref (y + 8), .int 0, .ref (y + 9), .ref (y + 10), .int 0, .ref (y + 11), .ref (y + 12), .ref (y + 13), .ref (y + 14), .ref (y + 15), .ref (y + 16), .int 0, .long (-1), .ref (y + 17), .ref (y + 18), .ref (y + 19), .ref (y + 20), .ref (y + 21), .ref (y + 22), .int 0, .ref (y + 23), .ref (y + 24), .int 0, .ref (y + 25), .int 0, .int 0, .int 0, .int (-1), .int 0, .int 0, .int 0, .long 0])) (hc2_ : Φ (y + 2) = some (ai_ G 307 (upd (upd (upd (upd (upd (upd (upd (upd (upd (upd (upd (upd (upd (upd (upd (upd (upd (upd (upd (upd (upd (fun _ => 0) (0 : Int32).toNatClampNeg 1) (1 : Int32).toNatClampNeg 100) (2 : Int32).toNatClampNeg 1000) (3 : Int32).toNatClampNeg 100) (4 : Int32).toNatClampNeg 20) (5 : Int32).toNatClampNeg 1000) (6 : Int32).toNatClampNeg 5000) (7 : Int32).toNatClampNeg 512) (8 : Int32).toNatClampNeg 1) (9 : Int32).toNatClampNeg 511) (10 : Int32).toNatClampNeg 1) (11 : Int32).toNatClampNeg 9) (15 : Int32).toNatClampNeg 0) (16 : Int32).toNatClampNeg 1) (17 : Int32).toNatClampNeg 2) (18 : Int32).toNatClampNeg 3) (19 : Int32).toNatClampNeg 4) (20 : Int32).toNatClampNeg 5) (21 : Int32).toNatClampNeg 6) (22 : Int32).toNatClampNeg 7) (23 : Int32).toNatClampNeg 8))) (hna : G.2.2.2 ≤ y) : Ct G l yX12_effectiveFields wsX12_effectiveFields ({ frames := 3, cells := 0, slots := 0, locals := 66 }) 0 0 [.ref y, .int 0] Φ sz (fun v Φ1 sz1 => v = some (.int 511) ∧ (∃ fs : List Value, Φ1 y = some (o_ 14 fs) ∧ fs[0]? = some (.int 0)) ∧ ∀ b9 : Nat, y + 26 ≤ b9 → Φ1 b9 = Φ b9) := by
  refine Ct.of (cc := cX12_effectiveFields) (maxL := 2) (ret := (some .int)) (by decide) rfl (Nat.le_of_ble_eq_true rfl) ?_
  intro p9 e9 s9 m9 w9 t9 k9 B
  show Z p9 l e9 _ s9 m9 _ w9 t9 k9 _ G 2 0 [(0, .ref y), (1, .int 0)] [] Φ sz 0 0
  refine z_aload_n B dX12_effectiveFields_0 rfl 0 rfl ?_
  refine z_iconst (v := 0) B dX12_effectiveFields_1 rfl ?_
  refine z_put (ref := "FlowExporterModel") (C := RX12) (T := TX12) (N := 54) (ci := 14) (v := .int 0) B (by decide +kernel) tyX12 tyX12_ok nmX12 rfl 0 (by decide) (by decide +kernel) rfl (Or.inl rfl) hc0_ hna rfl rfl (Nat.le_of_ble_eq_true rfl) dX12_effectiveFields_2 (fun Φ1 hΦ1 => ?_)
  have h_1 : Φ1 y = some (o_ 14 [.int 0, .ref (y + 1), .ref (y + 2), .int 0, .int 1, .int 1, .int 0, .int 0, .ref (y + 3), .ref (y + 4), .int 0, .long 0, .ref (y + 5), .int 0, .int 0, .long 0, .long 0, .long 0, .long 0, .ref (y + 6), .ref (y + 7), .int 0, .ref (y + 8), .int 0, .ref (y + 9), .ref (y + 10), .int 0, .ref (y + 11), .ref (y + 12), .ref (y + 13), .ref (y + 14), .ref (y + 15), .ref (y + 16), .int 0, .long (-1), .ref (y + 17), .ref (y + 18), .ref (y + 19), .ref (y + 20), .ref (y + 21), .ref (y + 22), .int 0, .ref (y + 23), .ref (y + 24), .int 0, .ref (y + 25), .int 0, .int 0, .int 0, .int (-1), .int 0, .int 0, .int 0, .long 0]) := fset_at hΦ1
  refine z_aload_n B dX12_effectiveFields_5 rfl 0 rfl ?_
  refine z_aload_n B dX12_effectiveFields_6 rfl 0 rfl ?_
  refine z_iload_n B dX12_effectiveFields_7 rfl 1 rfl ?_
  have h_2 : Φ1 (y + 2) = some (ai_ G 307 (upd (upd (upd (upd (upd (upd (upd (upd (upd (upd (upd (upd (upd (upd (upd (upd (upd (upd (upd (upd (upd (fun _ => 0) (0 : Int32).toNatClampNeg 1) (1 : Int32).toNatClampNeg 100) (2 : Int32).toNatClampNeg 1000) (3 : Int32).toNatClampNeg 100) (4 : Int32).toNatClampNeg 20) (5 : Int32).toNatClampNeg 1000) (6 : Int32).toNatClampNeg 5000) (7 : Int32).toNatClampNeg 512) (8 : Int32).toNatClampNeg 1) (9 : Int32).toNatClampNeg 511) (10 : Int32).toNatClampNeg 1) (11 : Int32).toNatClampNeg 9) (15 : Int32).toNatClampNeg 0) (16 : Int32).toNatClampNeg 1) (17 : Int32).toNatClampNeg 2) (18 : Int32).toNatClampNeg 3) (19 : Int32).toNatClampNeg 4) (20 : Int32).toNatClampNeg 5) (21 : Int32).toNatClampNeg 6) (22 : Int32).toNatClampNeg 7) (23 : Int32).toNatClampNeg 8)) := ((fset_fr hΦ1 (ne_off (x := y) (i := 2) (j := 0) rfl)).trans hc2_)
  refine z_callV (As := [.int 0]) (rest := [.ref y]) B (m_isTemplate_0 G l Φ1 sz y h_1 h_2) (cwV 1 B.1.2.2.2.2 gX12_effectiveFields_X12_isTemplate rfl rfl rfl (by decide +kernel) ⟨Nat.le_of_ble_eq_true rfl, Nat.le_of_ble_eq_true rfl⟩) h_1 rfl rfl rfl rfl (Nat.le_of_ble_eq_true rfl) dX12_effectiveFields_8 ⟨Nat.le_of_ble_eq_true rfl, Nat.le_of_ble_eq_true rfl⟩ (fun v1 Φ2 sz1 st1 hp1 hs1 => ?_)
  obtain ⟨rfl, hq1, fr1⟩ := hp1
  replace hq1 : sz1 = sz := hq1
  subst sz1
  replace hs1 : st1 = [.int 1, .ref y] := hs1
  subst st1
  refine z_if_ne (tgt := 18) B dX12_effectiveFields_11 rfl (fun c_1 => ?_) (fun h9 => absurd h9 (by decide))
  refine z_iconst (v := 0) B dX12_effectiveFields_18 rfl ?_
  refine z_iconst (v := 1) B dX12_effectiveFields_19 rfl ?_
  have h_3 : Φ2 y = some (o_ 14 [.int 0, .ref (y + 1), .ref (y + 2), .int 0, .int 1, .int 1, .int 0, .int 0, .ref (y + 3), .ref (y + 4), .int 0, .long 0, .ref (y + 5), .int 0, .int 0, .long 0, .long 0, .long 0, .long 0, .ref (y + 6), .ref (y + 7), .int 0, .ref (y + 8), .int 0, .ref (y + 9), .ref (y + 10), .int 0, .ref (y + 11), .ref (y + 12), .ref (y + 13), .ref (y + 14), .ref (y + 15), .ref (y + 16), .int 0, .long (-1), .ref (y + 17), .ref (y + 18), .ref (y + 19), .ref (y + 20), .ref (y + 21), .ref (y + 22), .int 0, .ref (y + 23), .ref (y + 24), .int 0, .ref (y + 25), .int 0, .int 0, .int 0, .int (-1), .int 0, .int 0, .int 0, .long 0]) := ((fr1 y).trans h_1)
  refine z_callV (As := [.int 0, .int 1]) (rest := []) B (c_X12_throwsIf_0 G l Φ2 sz y 0 0 1 1 0 0 0 0 0 0 0 0 0 0 0 0 0 0 (-1) 0 0 0 0 0 (-1) 0 0 0 0 1 h_3 hna) (cwV 2 B.1.2.2.2.2 gX12_effectiveFields_X12_throwsIf rfl rfl rfl (by decide +kernel) ⟨Nat.le_of_ble_eq_true rfl, Nat.le_of_ble_eq_true rfl⟩) h_3 rfl rfl rfl rfl (Nat.le_of_ble_eq_true rfl) dX12_effectiveFields_20 ⟨Nat.le_of_ble_eq_true rfl, Nat.le_of_ble_eq_true rfl⟩ (fun v2 Φ3 sz2 st2 hp2 hs2 => ?_)
  obtain ⟨rfl, hq2, fr2⟩ := hp2
  replace hq2 : sz2 = sz := hq2
  subst sz2
  replace hs2 : st2 = [.int 0] := hs2
  subst st2
  refine z_if_eq (tgt := 30) B dX12_effectiveFields_23 rfl (fun c_2 => ?_) (fun h9 => absurd (by decide) h9)
  refine z_aload_n B dX12_effectiveFields_30 rfl 0 rfl ?_
  refine z_iload_n B dX12_effectiveFields_31 rfl 1 rfl ?_
  have h_4 : Φ3 y = some (o_ 14 [.int 0, .ref (y + 1), .ref (y + 2), .int 0, .int 1, .int 1, .int 0, .int 0, .ref (y + 3), .ref (y + 4), .int 0, .long 0, .ref (y + 5), .int 0, .int 0, .long 0, .long 0, .long 0, .long 0, .ref (y + 6), .ref (y + 7), .int 0, .ref (y + 8), .int 0, .ref (y + 9), .ref (y + 10), .int 0, .ref (y + 11), .ref (y + 12), .ref (y + 13), .ref (y + 14), .ref (y + 15), .ref (y + 16), .int 0, .long (-1), .ref (y + 17), .ref (y + 18), .ref (y + 19), .ref (y + 20), .ref (y + 21), .ref (y + 22), .int 0, .ref (y + 23), .ref (y + 24), .int 0, .ref (y + 25), .int 0, .int 0, .int 0, .int (-1), .int 0, .int 0, .int 0, .long 0]) := ((fr2 y).trans h_3)
  have h_5 : Φ3 (y + 2) = some (ai_ G 307 (upd (upd (upd (upd (upd (upd (upd (upd (upd (upd (upd (upd (upd (upd (upd (upd (upd (upd (upd (upd (upd (fun _ => 0) (0 : Int32).toNatClampNeg 1) (1 : Int32).toNatClampNeg 100) (2 : Int32).toNatClampNeg 1000) (3 : Int32).toNatClampNeg 100) (4 : Int32).toNatClampNeg 20) (5 : Int32).toNatClampNeg 1000) (6 : Int32).toNatClampNeg 5000) (7 : Int32).toNatClampNeg 512) (8 : Int32).toNatClampNeg 1) (9 : Int32).toNatClampNeg 511) (10 : Int32).toNatClampNeg 1) (11 : Int32).toNatClampNeg 9) (15 : Int32).toNatClampNeg 0) (16 : Int32).toNatClampNeg 1) (17 : Int32).toNatClampNeg 2) (18 : Int32).toNatClampNeg 3) (19 : Int32).toNatClampNeg 4) (20 : Int32).toNatClampNeg 5) (21 : Int32).toNatClampNeg 6) (22 : Int32).toNatClampNeg 7) (23 : Int32).toNatClampNeg 8)) := ((fr2 (y + 2)).trans ((fr1 (y + 2)).trans h_2))
  refine z_callV (As := [.int 0]) (rest := []) B (m_effective_0 G l Φ3 sz y h_4 h_5) (cwV 1 B.1.2.2.2.2 gX12_effectiveFields_X12_effective rfl rfl rfl (by decide +kernel) ⟨Nat.le_of_ble_eq_true rfl, Nat.le_of_ble_eq_true rfl⟩) h_4 rfl rfl rfl rfl (Nat.le_of_ble_eq_true rfl) dX12_effectiveFields_32 ⟨Nat.le_of_ble_eq_true rfl, Nat.le_of_ble_eq_true rfl⟩ (fun v3 Φ4 sz3 st3 hp3 hs3 => ?_)
  obtain ⟨rfl, hq3, fr3⟩ := hp3
  replace hq3 : sz3 = sz := hq3
  subst sz3
  replace hs3 : st3 = [.int 511] := hs3
  subst st3
  have h_6 : Φ4 y = some (o_ 14 [.int 0, .ref (y + 1), .ref (y + 2), .int 0, .int 1, .int 1, .int 0, .int 0, .ref (y + 3), .ref (y + 4), .int 0, .long 0, .ref (y + 5), .int 0, .int 0, .long 0, .long 0, .long 0, .long 0, .ref (y + 6), .ref (y + 7), .int 0, .ref (y + 8), .int 0, .ref (y + 9), .ref (y + 10), .int 0, .ref (y + 11), .ref (y + 12), .ref (y + 13), .ref (y + 14), .ref (y + 15), .ref (y + 16), .int 0, .long (-1), .ref (y + 17), .ref (y + 18), .ref (y + 19), .ref (y + 20), .ref (y + 21), .ref (y + 22), .int 0, .ref (y + 23), .ref (y + 24), .int 0, .ref (y + 25), .int 0, .int 0, .int 0, .int (-1), .int 0, .int 0, .int 0, .long 0]) := ((fr3 y).trans h_4)
  exact z_ret_i B dX12_effectiveFields_35 ⟨rfl, ⟨_, h_6, rfl⟩, fun b9 h9 => ((fr3 b9).trans ((fr2 b9).trans ((fr1 b9).trans ((fset_fr hΦ1 (Nat.ne_of_gt (Nat.lt_of_lt_of_le (lt_off (x := y) (i := 0) (j := 26) rfl) h9))).trans rfl))))⟩

set_option maxHeartbeats 4000000 in
set_option maxRecDepth 100000 in
theorem m_X12_recordLength (G : EnvG) (l : Launch) (Φ : Hm) (sz : Nat) (y : Nat) (hc0_ : Φ y = some (o_ 14 [.int 0, .ref (y + 1), .ref (y + 2), .int 0, .int 1, .int 1, .int 0, .int 0, .ref (y + 3), .ref (y + 4), .int 0, .long 0, .ref (y + 5), .int 0, .int 0, .long 0, .long 0, .long 0, .long 0, .ref (y + 6), .ref (y + 7), .int 0, .ref (y + 8), .int 0, .ref (y + 9), .ref (y + 10), .int 0, .ref (y + 11), .ref (y + 12), .ref (y + 13), .ref (y + 14), .ref (y + 15), .ref (y + 16), .int 0, .long (-1), .ref (y + 17), .ref (y + 18), .ref (y + 19), .ref (y + 20), .ref (y + 21), .ref (y + 22), .int 0, .ref (y + 23), .ref (y + 24), .int 0, .ref (y + 25), .int 0, .int 0, .int 0, .int (-1), .int 0, .int 0, .int 0, .long 0])) (hc2_ : Φ (y + 2) = some (ai_ G 307 (upd (upd (upd (upd (upd (upd (upd (upd (upd (upd (upd (upd (upd (upd (upd (upd (upd (upd (upd (upd (upd (fun _ => 0) (0 : Int32).toNatClampNeg 1) (1 : Int32).toNatClampNeg 100) (2 : Int32).toNatClampNeg 1000) (3 : Int32).toNatClampNeg 100) (4 : Int32).toNatClampNeg 20) (5 : Int32).toNatClampNeg 1000) (6 : Int32).toNatClampNeg 5000) (7 : Int32).toNatClampNeg 512) (8 : Int32).toNatClampNeg 1) (9 : Int32).toNatClampNeg 511) (10 : Int32).toNatClampNeg 1) (11 : Int32).toNatClampNeg 9) (15 : Int32).toNatClampNeg 0) (16 : Int32).toNatClampNeg 1) (17 : Int32).toNatClampNeg 2) (18 : Int32).toNatClampNeg 3) (19 : Int32).toNatClampNeg 4) (20 : Int32).toNatClampNeg 5) (21 : Int32).toNatClampNeg 6) (22 : Int32).toNatClampNeg 7) (23 : Int32).toNatClampNeg 8))) (hna : G.2.2.2 ≤ y) : Ct G l yX12_recordLength wsX12_recordLength ({ frames := 4, cells := 0, slots := 0, locals := 89 }) 0 0 [.ref y, .int 0] Φ sz (fun v Φ1 sz1 => v = some (.int 29) ∧ (∃ fs : List Value, Φ1 y = some (o_ 14 fs) ∧ fs[0]? = some (.int 0)) ∧ ∀ b9 : Nat, y + 26 ≤ b9 → Φ1 b9 = Φ b9) := by
  refine Ct.of (cc := cX12_recordLength) (maxL := 2) (ret := (some .int)) (by decide) rfl (Nat.le_of_ble_eq_true rfl) ?_
  intro p9 e9 s9 m9 w9 t9 k9 B
  show Z p9 l e9 _ s9 m9 _ w9 t9 k9 _ G 2 0 [(0, .ref y), (1, .int 0)] [] Φ sz 0 0
  refine z_aload_n B dX12_recordLength_0 rfl 0 rfl ?_
  refine z_iconst (v := 0) B dX12_recordLength_1 rfl ?_
  refine z_put (ref := "FlowExporterModel") (C := RX12) (T := TX12) (N := 54) (ci := 14) (v := .int 0) B (by decide +kernel) tyX12 tyX12_ok nmX12 rfl 0 (by decide) (by decide +kernel) rfl (Or.inl rfl) hc0_ hna rfl rfl (Nat.le_of_ble_eq_true rfl) dX12_recordLength_2 (fun Φ1 hΦ1 => ?_)
  have h_1 : Φ1 y = some (o_ 14 [.int 0, .ref (y + 1), .ref (y + 2), .int 0, .int 1, .int 1, .int 0, .int 0, .ref (y + 3), .ref (y + 4), .int 0, .long 0, .ref (y + 5), .int 0, .int 0, .long 0, .long 0, .long 0, .long 0, .ref (y + 6), .ref (y + 7), .int 0, .ref (y + 8), .int 0, .ref (y + 9), .ref (y + 10), .int 0, .ref (y + 11), .ref (y + 12), .ref (y + 13), .ref (y + 14), .ref (y + 15), .ref (y + 16), .int 0, .long (-1), .ref (y + 17), .ref (y + 18), .ref (y + 19), .ref (y + 20), .ref (y + 21), .ref (y + 22), .int 0, .ref (y + 23), .ref (y + 24), .int 0, .ref (y + 25), .int 0, .int 0, .int 0, .int (-1), .int 0, .int 0, .int 0, .long 0]) := fset_at hΦ1
  refine z_aload_n B dX12_recordLength_5 rfl 0 rfl ?_
  refine z_aload_n B dX12_recordLength_6 rfl 0 rfl ?_
  refine z_iload_n B dX12_recordLength_7 rfl 1 rfl ?_
  have h_2 : Φ1 (y + 2) = some (ai_ G 307 (upd (upd (upd (upd (upd (upd (upd (upd (upd (upd (upd (upd (upd (upd (upd (upd (upd (upd (upd (upd (upd (fun _ => 0) (0 : Int32).toNatClampNeg 1) (1 : Int32).toNatClampNeg 100) (2 : Int32).toNatClampNeg 1000) (3 : Int32).toNatClampNeg 100) (4 : Int32).toNatClampNeg 20) (5 : Int32).toNatClampNeg 1000) (6 : Int32).toNatClampNeg 5000) (7 : Int32).toNatClampNeg 512) (8 : Int32).toNatClampNeg 1) (9 : Int32).toNatClampNeg 511) (10 : Int32).toNatClampNeg 1) (11 : Int32).toNatClampNeg 9) (15 : Int32).toNatClampNeg 0) (16 : Int32).toNatClampNeg 1) (17 : Int32).toNatClampNeg 2) (18 : Int32).toNatClampNeg 3) (19 : Int32).toNatClampNeg 4) (20 : Int32).toNatClampNeg 5) (21 : Int32).toNatClampNeg 6) (22 : Int32).toNatClampNeg 7) (23 : Int32).toNatClampNeg 8)) := ((fset_fr hΦ1 (ne_off (x := y) (i := 2) (j := 0) rfl)).trans hc2_)
  refine z_callV (As := [.int 0]) (rest := [.ref y]) B (m_isTemplate_0 G l Φ1 sz y h_1 h_2) (cwV 1 B.1.2.2.2.2 gX12_recordLength_X12_isTemplate rfl rfl rfl (by decide +kernel) ⟨Nat.le_of_ble_eq_true rfl, Nat.le_of_ble_eq_true rfl⟩) h_1 rfl rfl rfl rfl (Nat.le_of_ble_eq_true rfl) dX12_recordLength_8 ⟨Nat.le_of_ble_eq_true rfl, Nat.le_of_ble_eq_true rfl⟩ (fun v1 Φ2 sz1 st1 hp1 hs1 => ?_)
  obtain ⟨rfl, hq1, fr1⟩ := hp1
  replace hq1 : sz1 = sz := hq1
  subst sz1
  replace hs1 : st1 = [.int 1, .ref y] := hs1
  subst st1
  refine z_if_ne (tgt := 18) B dX12_recordLength_11 rfl (fun c_1 => ?_) (fun h9 => absurd h9 (by decide))
  refine z_iconst (v := 0) B dX12_recordLength_18 rfl ?_
  refine z_iconst (v := 1) B dX12_recordLength_19 rfl ?_
  have h_3 : Φ2 y = some (o_ 14 [.int 0, .ref (y + 1), .ref (y + 2), .int 0, .int 1, .int 1, .int 0, .int 0, .ref (y + 3), .ref (y + 4), .int 0, .long 0, .ref (y + 5), .int 0, .int 0, .long 0, .long 0, .long 0, .long 0, .ref (y + 6), .ref (y + 7), .int 0, .ref (y + 8), .int 0, .ref (y + 9), .ref (y + 10), .int 0, .ref (y + 11), .ref (y + 12), .ref (y + 13), .ref (y + 14), .ref (y + 15), .ref (y + 16), .int 0, .long (-1), .ref (y + 17), .ref (y + 18), .ref (y + 19), .ref (y + 20), .ref (y + 21), .ref (y + 22), .int 0, .ref (y + 23), .ref (y + 24), .int 0, .ref (y + 25), .int 0, .int 0, .int 0, .int (-1), .int 0, .int 0, .int 0, .long 0]) := ((fr1 y).trans h_1)
  refine z_callV (As := [.int 0, .int 1]) (rest := []) B (c_X12_throwsIf_0 G l Φ2 sz y 0 0 1 1 0 0 0 0 0 0 0 0 0 0 0 0 0 0 (-1) 0 0 0 0 0 (-1) 0 0 0 0 1 h_3 hna) (cwV 2 B.1.2.2.2.2 gX12_recordLength_X12_throwsIf rfl rfl rfl (by decide +kernel) ⟨Nat.le_of_ble_eq_true rfl, Nat.le_of_ble_eq_true rfl⟩) h_3 rfl rfl rfl rfl (Nat.le_of_ble_eq_true rfl) dX12_recordLength_20 ⟨Nat.le_of_ble_eq_true rfl, Nat.le_of_ble_eq_true rfl⟩ (fun v2 Φ3 sz2 st2 hp2 hs2 => ?_)
  obtain ⟨rfl, hq2, fr2⟩ := hp2
  replace hq2 : sz2 = sz := hq2
  subst sz2
  replace hs2 : st2 = [.int 0] := hs2
  subst st2
  refine z_if_eq (tgt := 30) B dX12_recordLength_23 rfl (fun c_2 => ?_) (fun h9 => absurd (by decide) h9)
  refine z_aload_n B dX12_recordLength_30 rfl 0 rfl ?_
  refine z_iload_n B dX12_recordLength_31 rfl 1 rfl ?_
  have h_4 : Φ3 y = some (o_ 14 [.int 0, .ref (y + 1), .ref (y + 2), .int 0, .int 1, .int 1, .int 0, .int 0, .ref (y + 3), .ref (y + 4), .int 0, .long 0, .ref (y + 5), .int 0, .int 0, .long 0, .long 0, .long 0, .long 0, .ref (y + 6), .ref (y + 7), .int 0, .ref (y + 8), .int 0, .ref (y + 9), .ref (y + 10), .int 0, .ref (y + 11), .ref (y + 12), .ref (y + 13), .ref (y + 14), .ref (y + 15), .ref (y + 16), .int 0, .long (-1), .ref (y + 17), .ref (y + 18), .ref (y + 19), .ref (y + 20), .ref (y + 21), .ref (y + 22), .int 0, .ref (y + 23), .ref (y + 24), .int 0, .ref (y + 25), .int 0, .int 0, .int 0, .int (-1), .int 0, .int 0, .int 0, .long 0]) := ((fr2 y).trans h_3)
  have h_5 : Φ3 (y + 2) = some (ai_ G 307 (upd (upd (upd (upd (upd (upd (upd (upd (upd (upd (upd (upd (upd (upd (upd (upd (upd (upd (upd (upd (upd (fun _ => 0) (0 : Int32).toNatClampNeg 1) (1 : Int32).toNatClampNeg 100) (2 : Int32).toNatClampNeg 1000) (3 : Int32).toNatClampNeg 100) (4 : Int32).toNatClampNeg 20) (5 : Int32).toNatClampNeg 1000) (6 : Int32).toNatClampNeg 5000) (7 : Int32).toNatClampNeg 512) (8 : Int32).toNatClampNeg 1) (9 : Int32).toNatClampNeg 511) (10 : Int32).toNatClampNeg 1) (11 : Int32).toNatClampNeg 9) (15 : Int32).toNatClampNeg 0) (16 : Int32).toNatClampNeg 1) (17 : Int32).toNatClampNeg 2) (18 : Int32).toNatClampNeg 3) (19 : Int32).toNatClampNeg 4) (20 : Int32).toNatClampNeg 5) (21 : Int32).toNatClampNeg 6) (22 : Int32).toNatClampNeg 7) (23 : Int32).toNatClampNeg 8)) := ((fr2 (y + 2)).trans ((fr1 (y + 2)).trans h_2))
  refine z_callV (As := [.int 0]) (rest := []) B (m_recordLengthOf_0 G l Φ3 sz y h_4 h_5) (cwV 1 B.1.2.2.2.2 gX12_recordLength_X12_recordLengthOf rfl rfl rfl (by decide +kernel) ⟨Nat.le_of_ble_eq_true rfl, Nat.le_of_ble_eq_true rfl⟩) h_4 rfl rfl rfl rfl (Nat.le_of_ble_eq_true rfl) dX12_recordLength_32 ⟨Nat.le_of_ble_eq_true rfl, Nat.le_of_ble_eq_true rfl⟩ (fun v3 Φ4 sz3 st3 hp3 hs3 => ?_)
  obtain ⟨rfl, hq3, fr3⟩ := hp3
  replace hq3 : sz3 = sz := hq3
  subst sz3
  replace hs3 : st3 = [.int 29] := hs3
  subst st3
  have h_6 : Φ4 y = some (o_ 14 [.int 0, .ref (y + 1), .ref (y + 2), .int 0, .int 1, .int 1, .int 0, .int 0, .ref (y + 3), .ref (y + 4), .int 0, .long 0, .ref (y + 5), .int 0, .int 0, .long 0, .long 0, .long 0, .long 0, .ref (y + 6), .ref (y + 7), .int 0, .ref (y + 8), .int 0, .ref (y + 9), .ref (y + 10), .int 0, .ref (y + 11), .ref (y + 12), .ref (y + 13), .ref (y + 14), .ref (y + 15), .ref (y + 16), .int 0, .long (-1), .ref (y + 17), .ref (y + 18), .ref (y + 19), .ref (y + 20), .ref (y + 21), .ref (y + 22), .int 0, .ref (y + 23), .ref (y + 24), .int 0, .ref (y + 25), .int 0, .int 0, .int 0, .int (-1), .int 0, .int 0, .int 0, .long 0]) := ((fr3 y).trans h_4)
  exact z_ret_i B dX12_recordLength_35 ⟨rfl, ⟨_, h_6, rfl⟩, fun b9 h9 => ((fr3 b9).trans ((fr2 b9).trans ((fr1 b9).trans ((fset_fr hΦ1 (Nat.ne_of_gt (Nat.lt_of_lt_of_le (lt_off (x := y) (i := 0) (j := 26) rfl) h9))).trans rfl))))⟩

set_option maxHeartbeats 4000000 in
set_option maxRecDepth 100000 in
theorem m_X12_isDue (G : EnvG) (l : Launch) (Φ : Hm) (sz : Nat) (y : Nat) (hc0_ : Φ y = some (o_ 14 [.int 0, .ref (y + 1), .ref (y + 2), .int 0, .int 1, .int 1, .int 0, .int 0, .ref (y + 3), .ref (y + 4), .int 0, .long 0, .ref (y + 5), .int 0, .int 0, .long 0, .long 0, .long 0, .long 0, .ref (y + 6), .ref (y + 7), .int 0, .ref (y + 8), .int 0, .ref (y + 9), .ref (y + 10), .int 0, .ref (y + 11), .ref (y + 12), .ref (y + 13), .ref (y + 14), .ref (y + 15), .ref (y + 16), .int 0, .long (-1), .ref (y + 17), .ref (y + 18), .ref (y + 19), .ref (y + 20), .ref (y + 21), .ref (y + 22), .int 0, .ref (y + 23), .ref (y + 24), .int 0, .ref (y + 25), .int 0, .int 0, .int 0, .int (-1), .int 0, .int 0, .int 0, .long 0])) (hc2_ : Φ (y + 2) = some (ai_ G 307 (upd (upd (upd (upd (upd (upd (upd (upd (upd (upd (upd (upd (upd (upd (upd (upd (upd (upd (upd (upd (upd (fun _ => 0) (0 : Int32).toNatClampNeg 1) (1 : Int32).toNatClampNeg 100) (2 : Int32).toNatClampNeg 1000) (3 : Int32).toNatClampNeg 100) (4 : Int32).toNatClampNeg 20) (5 : Int32).toNatClampNeg 1000) (6 : Int32).toNatClampNeg 5000) (7 : Int32).toNatClampNeg 512) (8 : Int32).toNatClampNeg 1) (9 : Int32).toNatClampNeg 511) (10 : Int32).toNatClampNeg 1) (11 : Int32).toNatClampNeg 9) (15 : Int32).toNatClampNeg 0) (16 : Int32).toNatClampNeg 1) (17 : Int32).toNatClampNeg 2) (18 : Int32).toNatClampNeg 3) (19 : Int32).toNatClampNeg 4) (20 : Int32).toNatClampNeg 5) (21 : Int32).toNatClampNeg 6) (22 : Int32).toNatClampNeg 7) (23 : Int32).toNatClampNeg 8))) (hc3_ : Φ (y + 3) = some (ai_ G 4 (upd (upd (upd (upd (fun _ => 0) (0 : Int32).toNatClampNeg (-1)) (1 : Int32).toNatClampNeg (-1)) (2 : Int32).toNatClampNeg (-1)) (3 : Int32).toNatClampNeg (-1)))) (hna : G.2.2.2 ≤ y) : Ct G l yX12_isDue wsX12_isDue ({ frames := 4, cells := 0, slots := 0, locals := 87 }) 0 0 [.ref y, .int 0] Φ sz (fun v Φ1 sz1 => v = some (.int 1) ∧ (∃ fs : List Value, Φ1 y = some (o_ 14 fs) ∧ fs[0]? = some (.int 0)) ∧ ∀ b9 : Nat, y + 26 ≤ b9 → Φ1 b9 = Φ b9) := by
  refine Ct.of (cc := cX12_isDue) (maxL := 2) (ret := (some .boolean)) (by decide) rfl (Nat.le_of_ble_eq_true rfl) ?_
  intro p9 e9 s9 m9 w9 t9 k9 B
  show Z p9 l e9 _ s9 m9 _ w9 t9 k9 _ G 2 0 [(0, .ref y), (1, .int 0)] [] Φ sz 0 0
  refine z_aload_n B dX12_isDue_0 rfl 0 rfl ?_
  refine z_iconst (v := 0) B dX12_isDue_1 rfl ?_
  refine z_put (ref := "FlowExporterModel") (C := RX12) (T := TX12) (N := 54) (ci := 14) (v := .int 0) B (by decide +kernel) tyX12 tyX12_ok nmX12 rfl 0 (by decide) (by decide +kernel) rfl (Or.inl rfl) hc0_ hna rfl rfl (Nat.le_of_ble_eq_true rfl) dX12_isDue_2 (fun Φ1 hΦ1 => ?_)
  have h_1 : Φ1 y = some (o_ 14 [.int 0, .ref (y + 1), .ref (y + 2), .int 0, .int 1, .int 1, .int 0, .int 0, .ref (y + 3), .ref (y + 4), .int 0, .long 0, .ref (y + 5), .int 0, .int 0, .long 0, .long 0, .long 0, .long 0, .ref (y + 6), .ref (y + 7), .int 0, .ref (y + 8), .int 0, .ref (y + 9), .ref (y + 10), .int 0, .ref (y + 11), .ref (y + 12), .ref (y + 13), .ref (y + 14), .ref (y + 15), .ref (y + 16), .int 0, .long (-1), .ref (y + 17), .ref (y + 18), .ref (y + 19), .ref (y + 20), .ref (y + 21), .ref (y + 22), .int 0, .ref (y + 23), .ref (y + 24), .int 0, .ref (y + 25), .int 0, .int 0, .int 0, .int (-1), .int 0, .int 0, .int 0, .long 0]) := fset_at hΦ1
  refine z_aload_n B dX12_isDue_5 rfl 0 rfl ?_
  refine z_aload_n B dX12_isDue_6 rfl 0 rfl ?_
  refine z_iload_n B dX12_isDue_7 rfl 1 rfl ?_
  have h_2 : Φ1 (y + 2) = some (ai_ G 307 (upd (upd (upd (upd (upd (upd (upd (upd (upd (upd (upd (upd (upd (upd (upd (upd (upd (upd (upd (upd (upd (fun _ => 0) (0 : Int32).toNatClampNeg 1) (1 : Int32).toNatClampNeg 100) (2 : Int32).toNatClampNeg 1000) (3 : Int32).toNatClampNeg 100) (4 : Int32).toNatClampNeg 20) (5 : Int32).toNatClampNeg 1000) (6 : Int32).toNatClampNeg 5000) (7 : Int32).toNatClampNeg 512) (8 : Int32).toNatClampNeg 1) (9 : Int32).toNatClampNeg 511) (10 : Int32).toNatClampNeg 1) (11 : Int32).toNatClampNeg 9) (15 : Int32).toNatClampNeg 0) (16 : Int32).toNatClampNeg 1) (17 : Int32).toNatClampNeg 2) (18 : Int32).toNatClampNeg 3) (19 : Int32).toNatClampNeg 4) (20 : Int32).toNatClampNeg 5) (21 : Int32).toNatClampNeg 6) (22 : Int32).toNatClampNeg 7) (23 : Int32).toNatClampNeg 8)) := ((fset_fr hΦ1 (ne_off (x := y) (i := 2) (j := 0) rfl)).trans hc2_)
  refine z_callV (As := [.int 0]) (rest := [.ref y]) B (m_isTemplate_0 G l Φ1 sz y h_1 h_2) (cwV 1 B.1.2.2.2.2 gX12_isDue_X12_isTemplate rfl rfl rfl (by decide +kernel) ⟨Nat.le_of_ble_eq_true rfl, Nat.le_of_ble_eq_true rfl⟩) h_1 rfl rfl rfl rfl (Nat.le_of_ble_eq_true rfl) dX12_isDue_8 ⟨Nat.le_of_ble_eq_true rfl, Nat.le_of_ble_eq_true rfl⟩ (fun v1 Φ2 sz1 st1 hp1 hs1 => ?_)
  obtain ⟨rfl, hq1, fr1⟩ := hp1
  replace hq1 : sz1 = sz := hq1
  subst sz1
  replace hs1 : st1 = [.int 1, .ref y] := hs1
  subst st1
  refine z_if_ne (tgt := 18) B dX12_isDue_11 rfl (fun c_1 => ?_) (fun h9 => absurd h9 (by decide))
  refine z_iconst (v := 0) B dX12_isDue_18 rfl ?_
  refine z_iconst (v := 1) B dX12_isDue_19 rfl ?_
  have h_3 : Φ2 y = some (o_ 14 [.int 0, .ref (y + 1), .ref (y + 2), .int 0, .int 1, .int 1, .int 0, .int 0, .ref (y + 3), .ref (y + 4), .int 0, .long 0, .ref (y + 5), .int 0, .int 0, .long 0, .long 0, .long 0, .long 0, .ref (y + 6), .ref (y + 7), .int 0, .ref (y + 8), .int 0, .ref (y + 9), .ref (y + 10), .int 0, .ref (y + 11), .ref (y + 12), .ref (y + 13), .ref (y + 14), .ref (y + 15), .ref (y + 16), .int 0, .long (-1), .ref (y + 17), .ref (y + 18), .ref (y + 19), .ref (y + 20), .ref (y + 21), .ref (y + 22), .int 0, .ref (y + 23), .ref (y + 24), .int 0, .ref (y + 25), .int 0, .int 0, .int 0, .int (-1), .int 0, .int 0, .int 0, .long 0]) := ((fr1 y).trans h_1)
  refine z_callV (As := [.int 0, .int 1]) (rest := []) B (c_X12_throwsIf_0 G l Φ2 sz y 0 0 1 1 0 0 0 0 0 0 0 0 0 0 0 0 0 0 (-1) 0 0 0 0 0 (-1) 0 0 0 0 1 h_3 hna) (cwV 2 B.1.2.2.2.2 gX12_isDue_X12_throwsIf rfl rfl rfl (by decide +kernel) ⟨Nat.le_of_ble_eq_true rfl, Nat.le_of_ble_eq_true rfl⟩) h_3 rfl rfl rfl rfl (Nat.le_of_ble_eq_true rfl) dX12_isDue_20 ⟨Nat.le_of_ble_eq_true rfl, Nat.le_of_ble_eq_true rfl⟩ (fun v2 Φ3 sz2 st2 hp2 hs2 => ?_)
  obtain ⟨rfl, hq2, fr2⟩ := hp2
  replace hq2 : sz2 = sz := hq2
  subst sz2
  replace hs2 : st2 = [.int 0] := hs2
  subst st2
  refine z_if_ne (tgt := 38) B dX12_isDue_23 rfl (fun h9 => absurd (by decide) h9) (fun c_2 => ?_)
  refine z_aload_n B dX12_isDue_26 rfl 0 rfl ?_
  refine z_iload_n B dX12_isDue_27 rfl 1 rfl ?_
  have h_4 : Φ3 y = some (o_ 14 [.int 0, .ref (y + 1), .ref (y + 2), .int 0, .int 1, .int 1, .int 0, .int 0, .ref (y + 3), .ref (y + 4), .int 0, .long 0, .ref (y + 5), .int 0, .int 0, .long 0, .long 0, .long 0, .long 0, .ref (y + 6), .ref (y + 7), .int 0, .ref (y + 8), .int 0, .ref (y + 9), .ref (y + 10), .int 0, .ref (y + 11), .ref (y + 12), .ref (y + 13), .ref (y + 14), .ref (y + 15), .ref (y + 16), .int 0, .long (-1), .ref (y + 17), .ref (y + 18), .ref (y + 19), .ref (y + 20), .ref (y + 21), .ref (y + 22), .int 0, .ref (y + 23), .ref (y + 24), .int 0, .ref (y + 25), .int 0, .int 0, .int 0, .int (-1), .int 0, .int 0, .int 0, .long 0]) := ((fr2 y).trans h_3)
  have h_5 : Φ3 (y + 2) = some (ai_ G 307 (upd (upd (upd (upd (upd (upd (upd (upd (upd (upd (upd (upd (upd (upd (upd (upd (upd (upd (upd (upd (upd (fun _ => 0) (0 : Int32).toNatClampNeg 1) (1 : Int32).toNatClampNeg 100) (2 : Int32).toNatClampNeg 1000) (3 : Int32).toNatClampNeg 100) (4 : Int32).toNatClampNeg 20) (5 : Int32).toNatClampNeg 1000) (6 : Int32).toNatClampNeg 5000) (7 : Int32).toNatClampNeg 512) (8 : Int32).toNatClampNeg 1) (9 : Int32).toNatClampNeg 511) (10 : Int32).toNatClampNeg 1) (11 : Int32).toNatClampNeg 9) (15 : Int32).toNatClampNeg 0) (16 : Int32).toNatClampNeg 1) (17 : Int32).toNatClampNeg 2) (18 : Int32).toNatClampNeg 3) (19 : Int32).toNatClampNeg 4) (20 : Int32).toNatClampNeg 5) (21 : Int32).toNatClampNeg 6) (22 : Int32).toNatClampNeg 7) (23 : Int32).toNatClampNeg 8)) := ((fr2 (y + 2)).trans ((fr1 (y + 2)).trans h_2))
  have h_6 : Φ3 (y + 3) = some (ai_ G 4 (upd (upd (upd (upd (fun _ => 0) (0 : Int32).toNatClampNeg (-1)) (1 : Int32).toNatClampNeg (-1)) (2 : Int32).toNatClampNeg (-1)) (3 : Int32).toNatClampNeg (-1))) := ((fr2 (y + 3)).trans ((fr1 (y + 3)).trans ((fset_fr hΦ1 (ne_off (x := y) (i := 3) (j := 0) rfl)).trans hc3_)))
  refine z_callV (As := [.int 0]) (rest := []) B (m_due_0 G l Φ3 sz y h_4 h_5 h_6) (cwV 1 B.1.2.2.2.2 gX12_isDue_X12_due rfl rfl rfl (by decide +kernel) ⟨Nat.le_of_ble_eq_true rfl, Nat.le_of_ble_eq_true rfl⟩) h_4 rfl rfl rfl rfl (Nat.le_of_ble_eq_true rfl) dX12_isDue_28 ⟨Nat.le_of_ble_eq_true rfl, Nat.le_of_ble_eq_true rfl⟩ (fun v3 Φ4 sz3 st3 hp3 hs3 => ?_)
  obtain ⟨rfl, hq3, fr3⟩ := hp3
  replace hq3 : sz3 = sz := hq3
  subst sz3
  replace hs3 : st3 = [.int 1] := hs3
  subst st3
  refine z_if_eq (tgt := 38) B dX12_isDue_31 rfl (fun h9 => absurd h9 (by decide)) (fun c_3 => ?_)
  refine z_iconst (v := 1) B dX12_isDue_34 rfl ?_
  refine z_goto (tgt := 39) B dX12_isDue_35 rfl ?_
  have h_7 : Φ4 y = some (o_ 14 [.int 0, .ref (y + 1), .ref (y + 2), .int 0, .int 1, .int 1, .int 0, .int 0, .ref (y + 3), .ref (y + 4), .int 0, .long 0, .ref (y + 5), .int 0, .int 0, .long 0, .long 0, .long 0, .long 0, .ref (y + 6), .ref (y + 7), .int 0, .ref (y + 8), .int 0, .ref (y + 9), .ref (y + 10), .int 0, .ref (y + 11), .ref (y + 12), .ref (y + 13), .ref (y + 14), .ref (y + 15), .ref (y + 16), .int 0, .long (-1), .ref (y + 17), .ref (y + 18), .ref (y + 19), .ref (y + 20), .ref (y + 21), .ref (y + 22), .int 0, .ref (y + 23), .ref (y + 24), .int 0, .ref (y + 25), .int 0, .int 0, .int 0, .int (-1), .int 0, .int 0, .int 0, .long 0]) := ((fr3 y).trans h_4)
  exact z_ret_z B dX12_isDue_39 (by decide) ⟨rfl, ⟨_, h_7, rfl⟩, fun b9 h9 => ((fr3 b9).trans ((fr2 b9).trans ((fr1 b9).trans ((fset_fr hΦ1 (Nat.ne_of_gt (Nat.lt_of_lt_of_le (lt_off (x := y) (i := 0) (j := 26) rfl) h9))).trans rfl))))⟩

set_option maxHeartbeats 4000000 in
set_option maxRecDepth 100000 in
theorem m_X12_flush (G : EnvG) (l : Launch) (Φ : Hm) (sz : Nat) (y : Nat) (hc0_ : Φ y = some (o_ 14 [.int 0, .ref (y + 1), .ref (y + 2), .int 0, .int 1, .int 1, .int 0, .int 0, .ref (y + 3), .ref (y + 4), .int 0, .long 0, .ref (y + 5), .int 0, .int 0, .long 0, .long 0, .long 0, .long 0, .ref (y + 6), .ref (y + 7), .int 0, .ref (y + 8), .int 0, .ref (y + 9), .ref (y + 10), .int 0, .ref (y + 11), .ref (y + 12), .ref (y + 13), .ref (y + 14), .ref (y + 15), .ref (y + 16), .int 0, .long (-1), .ref (y + 17), .ref (y + 18), .ref (y + 19), .ref (y + 20), .ref (y + 21), .ref (y + 22), .int 0, .ref (y + 23), .ref (y + 24), .int 0, .ref (y + 25), .int 0, .int 0, .int 0, .int (-1), .int 0, .int 0, .int 0, .long 0])) (hna : G.2.2.2 ≤ y) : Ct G l yX12_flush wsX12_flush ({ frames := 1, cells := 0, slots := 0, locals := 22 }) 0 0 [.ref y] Φ sz (fun v Φ1 sz1 => v = some (.int 0) ∧ (∃ fs : List Value, Φ1 y = some (o_ 14 fs) ∧ fs[0]? = some (.int 0)) ∧ ∀ b9 : Nat, y + 26 ≤ b9 → Φ1 b9 = Φ b9) := by
  refine Ct.of (cc := cX12_flush) (maxL := 2) (ret := (some .int)) (by decide) rfl (Nat.le_of_ble_eq_true rfl) ?_
  intro p9 e9 s9 m9 w9 t9 k9 B
  show Z p9 l e9 _ s9 m9 _ w9 t9 k9 _ G 2 0 [(0, .ref y)] [] Φ sz 0 0
  refine z_aload_n B dX12_flush_0 rfl 0 rfl ?_
  refine z_iconst (v := 0) B dX12_flush_1 rfl ?_
  refine z_put (ref := "FlowExporterModel") (C := RX12) (T := TX12) (N := 54) (ci := 14) (v := .int 0) B (by decide +kernel) tyX12 tyX12_ok nmX12 rfl 0 (by decide) (by decide +kernel) rfl (Or.inl rfl) hc0_ hna rfl rfl (Nat.le_of_ble_eq_true rfl) dX12_flush_2 (fun Φ1 hΦ1 => ?_)
  have h_1 : Φ1 y = some (o_ 14 [.int 0, .ref (y + 1), .ref (y + 2), .int 0, .int 1, .int 1, .int 0, .int 0, .ref (y + 3), .ref (y + 4), .int 0, .long 0, .ref (y + 5), .int 0, .int 0, .long 0, .long 0, .long 0, .long 0, .ref (y + 6), .ref (y + 7), .int 0, .ref (y + 8), .int 0, .ref (y + 9), .ref (y + 10), .int 0, .ref (y + 11), .ref (y + 12), .ref (y + 13), .ref (y + 14), .ref (y + 15), .ref (y + 16), .int 0, .long (-1), .ref (y + 17), .ref (y + 18), .ref (y + 19), .ref (y + 20), .ref (y + 21), .ref (y + 22), .int 0, .ref (y + 23), .ref (y + 24), .int 0, .ref (y + 25), .int 0, .int 0, .int 0, .int (-1), .int 0, .int 0, .int 0, .long 0]) := fset_at hΦ1
  refine z_aload_n B dX12_flush_5 rfl 0 rfl ?_
  refine z_callV (As := []) (rest := []) B (m_exportAll G l Φ1 sz y h_1) (cwV 0 B.1.2.2.2.2 gX12_flush_X12_exportAll rfl rfl rfl (by decide +kernel) ⟨Nat.le_of_ble_eq_true rfl, Nat.le_of_ble_eq_true rfl⟩) h_1 rfl rfl rfl rfl (Nat.le_of_ble_eq_true rfl) dX12_flush_6 ⟨Nat.le_of_ble_eq_true rfl, Nat.le_of_ble_eq_true rfl⟩ (fun v1 Φ2 sz1 st1 hp1 hs1 => ?_)
  obtain ⟨rfl, hq1, fr1⟩ := hp1
  replace hq1 : sz1 = sz := hq1
  subst sz1
  replace hs1 : st1 = [.int 0] := hs1
  subst st1
  refine z_istore_n (lv' := [(1, .int 0), (0, .ref y)]) B dX12_flush_9 rfl (Nat.le_of_ble_eq_true rfl) rfl ?_
  refine z_aload_n B dX12_flush_10 rfl 1 rfl ?_
  have h_2 : Φ2 y = some (o_ 14 [.int 0, .ref (y + 1), .ref (y + 2), .int 0, .int 1, .int 1, .int 0, .int 0, .ref (y + 3), .ref (y + 4), .int 0, .long 0, .ref (y + 5), .int 0, .int 0, .long 0, .long 0, .long 0, .long 0, .ref (y + 6), .ref (y + 7), .int 0, .ref (y + 8), .int 0, .ref (y + 9), .ref (y + 10), .int 0, .ref (y + 11), .ref (y + 12), .ref (y + 13), .ref (y + 14), .ref (y + 15), .ref (y + 16), .int 0, .long (-1), .ref (y + 17), .ref (y + 18), .ref (y + 19), .ref (y + 20), .ref (y + 21), .ref (y + 22), .int 0, .ref (y + 23), .ref (y + 24), .int 0, .ref (y + 25), .int 0, .int 0, .int 0, .int (-1), .int 0, .int 0, .int 0, .long 0]) := ((fr1 y).trans h_1)
  refine z_callV (As := []) (rest := []) B (m_sendPending G l Φ2 sz y h_2 hna) (cwV 0 B.1.2.2.2.2 gX12_flush_X12_sendPending rfl rfl rfl (by decide +kernel) ⟨Nat.le_of_ble_eq_true rfl, Nat.le_of_ble_eq_true rfl⟩) h_2 rfl rfl rfl rfl (Nat.le_of_ble_eq_true rfl) dX12_flush_11 ⟨Nat.le_of_ble_eq_true rfl, Nat.le_of_ble_eq_true rfl⟩ (fun v2 Φ3 sz2 st2 hp2 hs2 => ?_)
  obtain ⟨rfl, hq2, fr2, h_3⟩ := hp2
  replace hq2 : sz2 = sz := hq2
  subst sz2
  replace hs2 : st2 = [] := hs2
  subst st2
  have h_4 : Φ3 y = some (o_ 14 [.int 0, .ref (y + 1), .ref (y + 2), .int 0, .int 1, .int 1, .int 0, .int 0, .ref (y + 3), .ref (y + 4), .int 0, .long 0, .ref (y + 5), .int 0, .int 0, .long 0, .long 0, .long 0, .long 0, .ref (y + 6), .ref (y + 7), .int 0, .ref (y + 8), .int 0, .ref (y + 9), .ref (y + 10), .int 0, .ref (y + 11), .ref (y + 12), .ref (y + 13), .ref (y + 14), .ref (y + 15), .ref (y + 16), .int 0, .long (-1), .ref (y + 17), .ref (y + 18), .ref (y + 19), .ref (y + 20), .ref (y + 21), .ref (y + 22), .int 0, .ref (y + 23), .ref (y + 24), .int 0, .ref (y + 25), .int 0, .int 0, .int 0, .int (-1), .int 0, .int 0, .int 0, .long 0]) := h_3
  refine z_iload_n B dX12_flush_14 rfl 0 rfl ?_
  exact z_ret_i B dX12_flush_15 ⟨rfl, ⟨_, h_4, rfl⟩, fun b9 h9 => ((fr2 b9 (Nat.ne_of_gt (Nat.lt_of_lt_of_le (lt_off (x := y) (i := 0) (j := 26) rfl) h9))).trans ((fr1 b9).trans ((fset_fr hΦ1 (Nat.ne_of_gt (Nat.lt_of_lt_of_le (lt_off (x := y) (i := 0) (j := 26) rfl) h9))).trans rfl)))⟩

set_option maxHeartbeats 4000000 in
set_option maxRecDepth 100000 in
theorem m_X12_setRate_n (G : EnvG) (l : Launch) (Φ : Hm) (sz : Nat) (y : Nat) (a : Int32) (hc0_ : Φ y = some (o_ 14 [.int 0, .ref (y + 1), .ref (y + 2), .int 0, .int 1, .int 1, .int 0, .int 0, .ref (y + 3), .ref (y + 4), .int 0, .long 0, .ref (y + 5), .int 0, .int 0, .long 0, .long 0, .long 0, .long 0, .ref (y + 6), .ref (y + 7), .int 0, .ref (y + 8), .int 0, .ref (y + 9), .ref (y + 10), .int 0, .ref (y + 11), .ref (y + 12), .ref (y + 13), .ref (y + 14), .ref (y + 15), .ref (y + 16), .int 0, .long (-1), .ref (y + 17), .ref (y + 18), .ref (y + 19), .ref (y + 20), .ref (y + 21), .ref (y + 22), .int 0, .ref (y + 23), .ref (y + 24), .int 0, .ref (y + 25), .int 0, .int 0, .int 0, .int (-1), .int 0, .int 0, .int 0, .long 0])) (hna : G.2.2.2 ≤ y) (hp : ¬ inP a.toInt64 1 1024) : Ct G l yX12_setRate wsX12_setRate ({ frames := 1, cells := 0, slots := 0, locals := 25 }) 0 0 [.ref y, .int a] Φ sz (fun v Φ1 sz1 => v = some (.int (-1)) ∧ (∃ fs : List Value, Φ1 y = some (o_ 14 fs) ∧ fs[0]? = some (.int 0)) ∧ ∀ b9 : Nat, y + 26 ≤ b9 → Φ1 b9 = Φ b9) := by
  refine Ct.of (cc := cX12_setRate) (maxL := 3) (ret := (some .int)) (by decide) rfl (Nat.le_of_ble_eq_true rfl) ?_
  intro p9 e9 s9 m9 w9 t9 k9 B
  show Z p9 l e9 _ s9 m9 _ w9 t9 k9 _ G 3 0 [(0, .ref y), (1, .int a)] [] Φ sz 0 0
  refine z_aload_n B dX12_setRate_0 rfl 0 rfl ?_
  refine z_iconst (v := 0) B dX12_setRate_1 rfl ?_
  refine z_put (ref := "FlowExporterModel") (C := RX12) (T := TX12) (N := 54) (ci := 14) (v := .int 0) B (by decide +kernel) tyX12 tyX12_ok nmX12 rfl 0 (by decide) (by decide +kernel) rfl (Or.inl rfl) hc0_ hna rfl rfl (Nat.le_of_ble_eq_true rfl) dX12_setRate_2 (fun Φ1 hΦ1 => ?_)
  have h_1 : Φ1 y = some (o_ 14 [.int 0, .ref (y + 1), .ref (y + 2), .int 0, .int 1, .int 1, .int 0, .int 0, .ref (y + 3), .ref (y + 4), .int 0, .long 0, .ref (y + 5), .int 0, .int 0, .long 0, .long 0, .long 0, .long 0, .ref (y + 6), .ref (y + 7), .int 0, .ref (y + 8), .int 0, .ref (y + 9), .ref (y + 10), .int 0, .ref (y + 11), .ref (y + 12), .ref (y + 13), .ref (y + 14), .ref (y + 15), .ref (y + 16), .int 0, .long (-1), .ref (y + 17), .ref (y + 18), .ref (y + 19), .ref (y + 20), .ref (y + 21), .ref (y + 22), .int 0, .ref (y + 23), .ref (y + 24), .int 0, .ref (y + 25), .int 0, .int 0, .int 0, .int (-1), .int 0, .int 0, .int 0, .long 0]) := fset_at hΦ1
  refine z_iload_n B dX12_setRate_5 rfl 1 rfl ?_
  refine z_i2l (v := a.toInt64) B dX12_setRate_6 rfl ?_
  refine z_lconst (v := 1) B dX12_setRate_7 rfl ?_
  refine z_ldc2 (v := 1024) B (by decide +kernel) dX12_setRate_8 ?_
  refine z_callS (As := [.long a.toInt64, .long 1, .long 1024]) (rest := []) B (c_X12_inRange_0 G l Φ1 sz a.toInt64 1 1024 hp) (va_cwS 3 B.1.2.2.2.2 gX12_setRate_X12_inRange rfl rfl rfl (by decide +kernel) ⟨Nat.le_of_ble_eq_true rfl, Nat.le_of_ble_eq_true rfl⟩) rfl rfl (Nat.le_of_ble_eq_true rfl) dX12_setRate_11 ⟨Nat.le_of_ble_eq_true rfl, Nat.le_of_ble_eq_true rfl⟩ (fun v1 Φ2 sz1 st1 hp1 hs1 => ?_)
  obtain ⟨rfl, hq1, fr1⟩ := hp1
  replace hq1 : sz1 = sz := hq1
  subst sz1
  replace hs1 : st1 = [.int 0] := hs1
  subst st1
  refine z_if_ne (tgt := 19) B dX12_setRate_14 rfl (fun h9 => absurd (by decide) h9) (fun c_1 => ?_)
  refine z_iconst (v := (-1)) B dX12_setRate_17 rfl ?_
  have h_2 : Φ2 y = some (o_ 14 [.int 0, .ref (y + 1), .ref (y + 2), .int 0, .int 1, .int 1, .int 0, .int 0, .ref (y + 3), .ref (y + 4), .int 0, .long 0, .ref (y + 5), .int 0, .int 0, .long 0, .long 0, .long 0, .long 0, .ref (y + 6), .ref (y + 7), .int 0, .ref (y + 8), .int 0, .ref (y + 9), .ref (y + 10), .int 0, .ref (y + 11), .ref (y + 12), .ref (y + 13), .ref (y + 14), .ref (y + 15), .ref (y + 16), .int 0, .long (-1), .ref (y + 17), .ref (y + 18), .ref (y + 19), .ref (y + 20), .ref (y + 21), .ref (y + 22), .int 0, .ref (y + 23), .ref (y + 24), .int 0, .ref (y + 25), .int 0, .int 0, .int 0, .int (-1), .int 0, .int 0, .int 0, .long 0]) := ((fr1 y).trans h_1)
  exact z_ret_i B dX12_setRate_18 ⟨rfl, ⟨_, h_2, rfl⟩, fun b9 h9 => ((fr1 b9).trans ((fset_fr hΦ1 (Nat.ne_of_gt (Nat.lt_of_lt_of_le (lt_off (x := y) (i := 0) (j := 26) rfl) h9))).trans rfl))⟩

set_option maxHeartbeats 4000000 in
set_option maxRecDepth 100000 in
theorem m_changeRate (G : EnvG) (l : Launch) (Φ : Hm) (sz : Nat) (y : Nat) (a : Int32) (hc0_ : Φ y = some (o_ 14 [.int 0, .ref (y + 1), .ref (y + 2), .int 0, .int 1, .int 1, .int 0, .int 0, .ref (y + 3), .ref (y + 4), .int 0, .long 0, .ref (y + 5), .int 0, .int 0, .long 0, .long 0, .long 0, .long 0, .ref (y + 6), .ref (y + 7), .int 0, .ref (y + 8), .int 0, .ref (y + 9), .ref (y + 10), .int 0, .ref (y + 11), .ref (y + 12), .ref (y + 13), .ref (y + 14), .ref (y + 15), .ref (y + 16), .int 0, .long (-1), .ref (y + 17), .ref (y + 18), .ref (y + 19), .ref (y + 20), .ref (y + 21), .ref (y + 22), .int 0, .ref (y + 23), .ref (y + 24), .int 0, .ref (y + 25), .int 0, .int 0, .int 0, .int (-1), .int 0, .int 0, .int 0, .long 0])) (hna : G.2.2.2 ≤ y) (ha : a ≠ 1) : Ct G l yX12_changeRate wsX12_changeRate ({ frames := 1, cells := 0, slots := 0, locals := 21 }) 0 0 [.ref y, .int a] Φ sz (fun v Φ1 sz1 => v = some (.int 0) ∧ sz1 = sz ∧ (∀ b9 : Nat, b9 ≠ y → Φ1 b9 = Φ b9) ∧ Φ1 y = some (o_ 14 [.int 0, .ref (y + 1), .ref (y + 2), .int 0, .int 1, .int a, .int 0, .int 0, .ref (y + 3), .ref (y + 4), .int 0, .long 0, .ref (y + 5), .int 0, .int 0, .long 0, .long 0, .long 0, .long 0, .ref (y + 6), .ref (y + 7), .int 0, .ref (y + 8), .int 0, .ref (y + 9), .ref (y + 10), .int 0, .ref (y + 11), .ref (y + 12), .ref (y + 13), .ref (y + 14), .ref (y + 15), .ref (y + 16), .int 0, .long (-1), .ref (y + 17), .ref (y + 18), .ref (y + 19), .ref (y + 20), .ref (y + 21), .ref (y + 22), .int 0, .ref (y + 23), .ref (y + 24), .int 0, .ref (y + 25), .int 0, .int 0, .int 0, .int (-1), .int 0, .int 0, .int 0, .long 0])) := by
  refine Ct.of (cc := cX12_changeRate) (maxL := 3) (ret := (some .int)) (by decide) rfl (Nat.le_of_ble_eq_true rfl) ?_
  intro p9 e9 s9 m9 w9 t9 k9 B
  show Z p9 l e9 _ s9 m9 _ w9 t9 k9 _ G 3 0 [(0, .ref y), (1, .int a)] [] Φ sz 0 0
  refine z_iload_n B dX12_changeRate_0 rfl 1 rfl ?_
  refine z_aload_n B dX12_changeRate_1 rfl 0 rfl ?_
  refine z_get (ref := "FlowExporterModel") (C := RX12) (T := TX12) (N := 54) (ci := 14) (v := .int 1) B (by decide +kernel) rfl 5 (by decide) (by decide +kernel) rfl hc0_ rfl dX12_changeRate_2 ?_
  refine z_icmp_ne (tgt := 10) B dX12_changeRate_5 rfl (fun c_1 => ?_) (fun h9 => absurd h9 ha)
  refine z_aload_n B dX12_changeRate_10 rfl 0 rfl ?_
  refine z_callV (As := []) (rest := []) B (m_exportAll G l Φ sz y hc0_) (cwV 0 B.1.2.2.2.2 gX12_changeRate_X12_exportAll rfl rfl rfl (by decide +kernel) ⟨Nat.le_of_ble_eq_true rfl, Nat.le_of_ble_eq_true rfl⟩) hc0_ rfl rfl rfl rfl (Nat.le_of_ble_eq_true rfl) dX12_changeRate_11 ⟨Nat.le_of_ble_eq_true rfl, Nat.le_of_ble_eq_true rfl⟩ (fun v1 Φ1 sz1 st1 hp1 hs1 => ?_)
  obtain ⟨rfl, hq1, fr1⟩ := hp1
  replace hq1 : sz1 = sz := hq1
  subst sz1
  replace hs1 : st1 = [.int 0] := hs1
  subst st1
  refine z_istore_n (lv' := [(2, .int 0), (0, .ref y), (1, .int a)]) B dX12_changeRate_14 rfl (Nat.le_of_ble_eq_true rfl) rfl ?_
  refine z_aload_n B dX12_changeRate_15 rfl 1 rfl ?_
  refine z_iload_n B dX12_changeRate_16 rfl 2 rfl ?_
  have h_1 : Φ1 y = some (o_ 14 [.int 0, .ref (y + 1), .ref (y + 2), .int 0, .int 1, .int 1, .int 0, .int 0, .ref (y + 3), .ref (y + 4), .int 0, .long 0, .ref (y + 5), .int 0, .int 0, .long 0, .long 0, .long 0, .long 0, .ref (y + 6), .ref (y + 7), .int 0, .ref (y + 8), .int 0, .ref (y + 9), .ref (y + 10), .int 0, .ref (y + 11), .ref (y + 12), .ref (y + 13), .ref (y + 14), .ref (y + 15), .ref (y + 16), .int 0, .long (-1), .ref (y + 17), .ref (y + 18), .ref (y + 19), .ref (y + 20), .ref (y + 21), .ref (y + 22), .int 0, .ref (y + 23), .ref (y + 24), .int 0, .ref (y + 25), .int 0, .int 0, .int 0, .int (-1), .int 0, .int 0, .int 0, .long 0]) := ((fr1 y).trans hc0_)
  refine z_put (ref := "FlowExporterModel") (C := RX12) (T := TX12) (N := 54) (ci := 14) (v := .int a) B (by decide +kernel) tyX12 tyX12_ok nmX12 rfl 5 (by decide) (by decide +kernel) rfl (Or.inl rfl) h_1 hna rfl rfl (Nat.le_of_ble_eq_true rfl) dX12_changeRate_17 (fun Φ2 hΦ1 => ?_)
  have h_2 : Φ2 y = some (o_ 14 [.int 0, .ref (y + 1), .ref (y + 2), .int 0, .int 1, .int a, .int 0, .int 0, .ref (y + 3), .ref (y + 4), .int 0, .long 0, .ref (y + 5), .int 0, .int 0, .long 0, .long 0, .long 0, .long 0, .ref (y + 6), .ref (y + 7), .int 0, .ref (y + 8), .int 0, .ref (y + 9), .ref (y + 10), .int 0, .ref (y + 11), .ref (y + 12), .ref (y + 13), .ref (y + 14), .ref (y + 15), .ref (y + 16), .int 0, .long (-1), .ref (y + 17), .ref (y + 18), .ref (y + 19), .ref (y + 20), .ref (y + 21), .ref (y + 22), .int 0, .ref (y + 23), .ref (y + 24), .int 0, .ref (y + 25), .int 0, .int 0, .int 0, .int (-1), .int 0, .int 0, .int 0, .long 0]) := fset_at hΦ1
  refine z_iload_n B dX12_changeRate_20 rfl 0 rfl ?_
  exact z_ret_i B dX12_changeRate_21 ⟨rfl, rfl, (fun b9 h9a => ((fset_fr hΦ1 h9a).trans ((fr1 b9).trans rfl))), h_2⟩

set_option maxHeartbeats 4000000 in
set_option maxRecDepth 100000 in
theorem m_keyOf (G : EnvG) (l : Launch) (Φ : Hm) (sz : Nat) (y : Nat) (a : Int64) (b : Int64) (d : Int64) (e : Int64) (hc0_ : Φ y = some (o_ 14 [.int 0, .ref (y + 1), .ref (y + 2), .int 0, .int 1, .int 1, .int 0, .int 0, .ref (y + 3), .ref (y + 4), .int 0, .long 0, .ref (y + 5), .int 0, .int 0, .long 0, .long 0, .long 0, .long 0, .ref (y + 6), .ref (y + 7), .int 0, .ref (y + 8), .int 0, .ref (y + 9), .ref (y + 10), .int 0, .ref (y + 11), .ref (y + 12), .ref (y + 13), .ref (y + 14), .ref (y + 15), .ref (y + 16), .int 0, .long (-1), .ref (y + 17), .ref (y + 18), .ref (y + 19), .ref (y + 20), .ref (y + 21), .ref (y + 22), .int 0, .ref (y + 23), .ref (y + 24), .int 0, .ref (y + 25), .int 0, .int 0, .int 0, .int (-1), .int 0, .int 0, .int 0, .long 0])) : Ct G l yX12_keyOf wsX12_keyOf ({ frames := 0, cells := 0, slots := 0, locals := 0 }) 0 0 [.ref y, .long a, .long b, .long d, .long e] Φ sz (fun v Φ1 sz1 => v = some (.int (-1)) ∧ sz1 = sz ∧ (∀ b9 : Nat, Φ1 b9 = Φ b9)) := by
  refine Ct.of (cc := cX12_keyOf) (maxL := 10) (ret := (some .int)) (by decide) rfl (Nat.le_of_ble_eq_true rfl) ?_
  intro p9 e9 s9 m9 w9 t9 k9 B
  show Z p9 l e9 _ s9 m9 _ w9 t9 k9 _ G 10 0 [(0, .ref y), (1, .long a), (3, .long b), (5, .long d), (7, .long e)] [] Φ sz 0 0
  refine z_iconst (v := 0) B dX12_keyOf_0 rfl ?_
  refine z_istore (lv' := [(9, .int 0), (0, .ref y), (1, .long a), (3, .long b), (5, .long d), (7, .long e)]) B dX12_keyOf_1 (Nat.le_of_ble_eq_true rfl) rfl ?_
  refine z_iload B dX12_keyOf_3 0 rfl ?_
  refine z_aload_n B dX12_keyOf_5 rfl 1 rfl ?_
  refine z_get (ref := "FlowExporterModel") (C := RX12) (T := TX12) (N := 54) (ci := 14) (v := .int 0) B (by decide +kernel) rfl 41 (by decide) (by decide +kernel) rfl hc0_ rfl dX12_keyOf_6 ?_
  refine z_icmp_ge (tgt := 39) B dX12_keyOf_9 rfl (fun c_1 => ?_) (fun h9 => absurd (by decide) h9)
  refine z_iconst (v := (-1)) B dX12_keyOf_39 rfl ?_
  exact z_ret_i B dX12_keyOf_40 ⟨rfl, rfl, (fun b9 => rfl)⟩

set_option maxHeartbeats 4000000 in
set_option maxRecDepth 100000 in
theorem m_X12_find (G : EnvG) (l : Launch) (Φ : Hm) (sz : Nat) (y : Nat) (a : Int32) (b : Int32) (d : Int32) (e : Int32) (hc0_ : Φ y = some (o_ 14 [.int 0, .ref (y + 1), .ref (y + 2), .int 0, .int 1, .int 1, .int 0, .int 0, .ref (y + 3), .ref (y + 4), .int 0, .long 0, .ref (y + 5), .int 0, .int 0, .long 0, .long 0, .long 0, .long 0, .ref (y + 6), .ref (y + 7), .int 0, .ref (y + 8), .int 0, .ref (y + 9), .ref (y + 10), .int 0, .ref (y + 11), .ref (y + 12), .ref (y + 13), .ref (y + 14), .ref (y + 15), .ref (y + 16), .int 0, .long (-1), .ref (y + 17), .ref (y + 18), .ref (y + 19), .ref (y + 20), .ref (y + 21), .ref (y + 22), .int 0, .ref (y + 23), .ref (y + 24), .int 0, .ref (y + 25), .int 0, .int 0, .int 0, .int (-1), .int 0, .int 0, .int 0, .long 0])) (hna : G.2.2.2 ≤ y) : Ct G l yX12_find wsX12_find ({ frames := 1, cells := 0, slots := 0, locals := 29 }) 0 0 [.ref y, .int a, .int b, .int d, .int e] Φ sz (fun v Φ1 sz1 => v = some (.int (-1)) ∧ (∃ fs : List Value, Φ1 y = some (o_ 14 fs) ∧ fs[0]? = some (.int 0)) ∧ ∀ b9 : Nat, y + 26 ≤ b9 → Φ1 b9 = Φ b9) := by
  refine Ct.of (cc := cX12_find) (maxL := 5) (ret := (some .int)) (by decide) rfl (Nat.le_of_ble_eq_true rfl) ?_
  intro p9 e9 s9 m9 w9 t9 k9 B
  show Z p9 l e9 _ s9 m9 _ w9 t9 k9 _ G 5 0 [(0, .ref y), (1, .int a), (2, .int b), (3, .int d), (4, .int e)] [] Φ sz 0 0
  refine z_aload_n B dX12_find_0 rfl 0 rfl ?_
  refine z_iconst (v := 0) B dX12_find_1 rfl ?_
  refine z_put (ref := "FlowExporterModel") (C := RX12) (T := TX12) (N := 54) (ci := 14) (v := .int 0) B (by decide +kernel) tyX12 tyX12_ok nmX12 rfl 0 (by decide) (by decide +kernel) rfl (Or.inl rfl) hc0_ hna rfl rfl (Nat.le_of_ble_eq_true rfl) dX12_find_2 (fun Φ1 hΦ1 => ?_)
  have h_1 : Φ1 y = some (o_ 14 [.int 0, .ref (y + 1), .ref (y + 2), .int 0, .int 1, .int 1, .int 0, .int 0, .ref (y + 3), .ref (y + 4), .int 0, .long 0, .ref (y + 5), .int 0, .int 0, .long 0, .long 0, .long 0, .long 0, .ref (y + 6), .ref (y + 7), .int 0, .ref (y + 8), .int 0, .ref (y + 9), .ref (y + 10), .int 0, .ref (y + 11), .ref (y + 12), .ref (y + 13), .ref (y + 14), .ref (y + 15), .ref (y + 16), .int 0, .long (-1), .ref (y + 17), .ref (y + 18), .ref (y + 19), .ref (y + 20), .ref (y + 21), .ref (y + 22), .int 0, .ref (y + 23), .ref (y + 24), .int 0, .ref (y + 25), .int 0, .int 0, .int 0, .int (-1), .int 0, .int 0, .int 0, .long 0]) := fset_at hΦ1
  refine z_aload_n B dX12_find_5 rfl 0 rfl ?_
  refine z_iload_n B dX12_find_6 rfl 1 rfl ?_
  refine z_i2l (v := a.toInt64) B dX12_find_7 rfl ?_
  refine z_iload_n B dX12_find_8 rfl 2 rfl ?_
  refine z_i2l (v := b.toInt64) B dX12_find_9 rfl ?_
  refine z_iload_n B dX12_find_10 rfl 3 rfl ?_
  refine z_i2l (v := d.toInt64) B dX12_find_11 rfl ?_
  refine z_iload B dX12_find_12 4 rfl ?_
  refine z_i2l (v := e.toInt64) B dX12_find_14 rfl ?_
  refine z_callV (As := [.long a.toInt64, .long b.toInt64, .long d.toInt64, .long e.toInt64]) (rest := []) B (m_keyOf G l Φ1 sz y a.toInt64 b.toInt64 d.toInt64 e.toInt64 h_1) (cwV 4 B.1.2.2.2.2 gX12_find_X12_keyOf rfl rfl rfl (by decide +kernel) ⟨Nat.le_of_ble_eq_true rfl, Nat.le_of_ble_eq_true rfl⟩) h_1 rfl rfl rfl rfl (Nat.le_of_ble_eq_true rfl) dX12_find_15 ⟨Nat.le_of_ble_eq_true rfl, Nat.le_of_ble_eq_true rfl⟩ (fun v1 Φ2 sz1 st1 hp1 hs1 => ?_)
  obtain ⟨rfl, hq1, fr1⟩ := hp1
  replace hq1 : sz1 = sz := hq1
  subst sz1
  replace hs1 : st1 = [.int (-1)] := hs1
  subst st1
  have h_2 : Φ2 y = some (o_ 14 [.int 0, .ref (y + 1), .ref (y + 2), .int 0, .int 1, .int 1, .int 0, .int 0, .ref (y + 3), .ref (y + 4), .int 0, .long 0, .ref (y + 5), .int 0, .int 0, .long 0, .long 0, .long 0, .long 0, .ref (y + 6), .ref (y + 7), .int 0, .ref (y + 8), .int 0, .ref (y + 9), .ref (y + 10), .int 0, .ref (y + 11), .ref (y + 12), .ref (y + 13), .ref (y + 14), .ref (y + 15), .ref (y + 16), .int 0, .long (-1), .ref (y + 17), .ref (y + 18), .ref (y + 19), .ref (y + 20), .ref (y + 21), .ref (y + 22), .int 0, .ref (y + 23), .ref (y + 24), .int 0, .ref (y + 25), .int 0, .int 0, .int 0, .int (-1), .int 0, .int 0, .int 0, .long 0]) := ((fr1 y).trans h_1)
  exact z_ret_i B dX12_find_18 ⟨rfl, ⟨_, h_2, rfl⟩, fun b9 h9 => ((fr1 b9).trans ((fset_fr hΦ1 (Nat.ne_of_gt (Nat.lt_of_lt_of_le (lt_off (x := y) (i := 0) (j := 26) rfl) h9))).trans rfl))⟩

set_option maxHeartbeats 4000000 in
set_option maxRecDepth 100000 in
theorem m_trueKeyOf (G : EnvG) (l : Launch) (Φ : Hm) (sz : Nat) (y : Nat) (a : Int32) (b : Int32) (d : Int32) (e : Int32) (hc0_ : Φ y = some (o_ 14 [.int 0, .ref (y + 1), .ref (y + 2), .int 0, .int 1, .int 1, .int 0, .int 0, .ref (y + 3), .ref (y + 4), .int 0, .long 0, .ref (y + 5), .int 0, .int 0, .long 0, .long 0, .long 0, .long 0, .ref (y + 6), .ref (y + 7), .int 0, .ref (y + 8), .int 0, .ref (y + 9), .ref (y + 10), .int 0, .ref (y + 11), .ref (y + 12), .ref (y + 13), .ref (y + 14), .ref (y + 15), .ref (y + 16), .int 0, .long (-1), .ref (y + 17), .ref (y + 18), .ref (y + 19), .ref (y + 20), .ref (y + 21), .ref (y + 22), .int 0, .ref (y + 23), .ref (y + 24), .int 0, .ref (y + 25), .int 0, .int 0, .int 0, .int (-1), .int 0, .int 0, .int 0, .long 0])) : Ct G l yX12_trueKeyOf wsX12_trueKeyOf ({ frames := 0, cells := 0, slots := 0, locals := 0 }) 0 0 [.ref y, .int a, .int b, .int d, .int e] Φ sz (fun v Φ1 sz1 => v = some (.int (-1)) ∧ sz1 = sz ∧ (∀ b9 : Nat, Φ1 b9 = Φ b9)) := by
  refine Ct.of (cc := cX12_trueKeyOf) (maxL := 6) (ret := (some .int)) (by decide) rfl (Nat.le_of_ble_eq_true rfl) ?_
  intro p9 e9 s9 m9 w9 t9 k9 B
  show Z p9 l e9 _ s9 m9 _ w9 t9 k9 _ G 6 0 [(0, .ref y), (1, .int a), (2, .int b), (3, .int d), (4, .int e)] [] Φ sz 0 0
  refine z_iconst (v := 0) B dX12_trueKeyOf_0 rfl ?_
  refine z_istore (lv' := [(5, .int 0), (0, .ref y), (1, .int a), (2, .int b), (3, .int d), (4, .int e)]) B dX12_trueKeyOf_1 (Nat.le_of_ble_eq_true rfl) rfl ?_
  refine z_iload B dX12_trueKeyOf_3 0 rfl ?_
  refine z_aload_n B dX12_trueKeyOf_5 rfl 1 rfl ?_
  refine z_get (ref := "FlowExporterModel") (C := RX12) (T := TX12) (N := 54) (ci := 14) (v := .int 0) B (by decide +kernel) rfl 44 (by decide) (by decide +kernel) rfl hc0_ rfl dX12_trueKeyOf_6 ?_
  refine z_icmp_ge (tgt := 42) B dX12_trueKeyOf_9 rfl (fun c_1 => ?_) (fun h9 => absurd (by decide) h9)
  refine z_iconst (v := (-1)) B dX12_trueKeyOf_42 rfl ?_
  exact z_ret_i B dX12_trueKeyOf_43 ⟨rfl, rfl, (fun b9 => rfl)⟩

set_option maxHeartbeats 4000000 in
set_option maxRecDepth 100000 in
theorem m_truthOf (G : EnvG) (l : Launch) (Φ : Hm) (sz : Nat) (y : Nat) (a : Int32) (b : Int32) (d : Int32) (e : Int32) (w : Int32) (hc0_ : Φ y = some (o_ 14 [.int 0, .ref (y + 1), .ref (y + 2), .int 0, .int 1, .int 1, .int 0, .int 0, .ref (y + 3), .ref (y + 4), .int 0, .long 0, .ref (y + 5), .int 0, .int 0, .long 0, .long 0, .long 0, .long 0, .ref (y + 6), .ref (y + 7), .int 0, .ref (y + 8), .int 0, .ref (y + 9), .ref (y + 10), .int 0, .ref (y + 11), .ref (y + 12), .ref (y + 13), .ref (y + 14), .ref (y + 15), .ref (y + 16), .int 0, .long (-1), .ref (y + 17), .ref (y + 18), .ref (y + 19), .ref (y + 20), .ref (y + 21), .ref (y + 22), .int 0, .ref (y + 23), .ref (y + 24), .int 0, .ref (y + 25), .int 0, .int 0, .int 0, .int (-1), .int 0, .int 0, .int 0, .long 0])) : Ct G l yX12_truthOf wsX12_truthOf ({ frames := 1, cells := 0, slots := 0, locals := 25 }) 0 0 [.ref y, .int a, .int b, .int d, .int e, .int w] Φ sz (fun v Φ1 sz1 => v = some (.long 0) ∧ sz1 = sz ∧ (∀ b9 : Nat, Φ1 b9 = Φ b9)) := by
  refine Ct.of (cc := cX12_truthOf) (maxL := 7) (ret := (some .long)) (by decide) rfl (Nat.le_of_ble_eq_true rfl) ?_
  intro p9 e9 s9 m9 w9 t9 k9 B
  show Z p9 l e9 _ s9 m9 _ w9 t9 k9 _ G 7 0 [(0, .ref y), (1, .int a), (2, .int b), (3, .int d), (4, .int e), (5, .int w)] [] Φ sz 0 0
  refine z_aload_n B dX12_truthOf_0 rfl 0 rfl ?_
  refine z_iload_n B dX12_truthOf_1 rfl 1 rfl ?_
  refine z_iload_n B dX12_truthOf_2 rfl 2 rfl ?_
  refine z_iload_n B dX12_truthOf_3 rfl 3 rfl ?_
  refine z_iload B dX12_truthOf_4 4 rfl ?_
  refine z_callV (As := [.int a, .int b, .int d, .int e]) (rest := []) B (m_trueKeyOf G l Φ sz y a b d e hc0_) (cwV 4 B.1.2.2.2.2 gX12_truthOf_X12_trueKeyOf rfl rfl rfl (by decide +kernel) ⟨Nat.le_of_ble_eq_true rfl, Nat.le_of_ble_eq_true rfl⟩) hc0_ rfl rfl rfl rfl (Nat.le_of_ble_eq_true rfl) dX12_truthOf_6 ⟨Nat.le_of_ble_eq_true rfl, Nat.le_of_ble_eq_true rfl⟩ (fun v1 Φ1 sz1 st1 hp1 hs1 => ?_)
  obtain ⟨rfl, hq1, fr1⟩ := hp1
  replace hq1 : sz1 = sz := hq1
  subst sz1
  replace hs1 : st1 = [.int (-1)] := hs1
  subst st1
  refine z_istore (lv' := [(6, .int (-1)), (0, .ref y), (1, .int a), (2, .int b), (3, .int d), (4, .int e), (5, .int w)]) B dX12_truthOf_9 (Nat.le_of_ble_eq_true rfl) rfl ?_
  refine z_iload B dX12_truthOf_11 0 rfl ?_
  refine z_iconst (v := (-1)) B dX12_truthOf_13 rfl ?_
  refine z_icmp_ne (tgt := 21) B dX12_truthOf_14 rfl (fun h9 => absurd (by decide) h9) (fun c_1 => ?_)
  refine z_lconst (v := 0) B dX12_truthOf_17 rfl ?_
  refine z_goto (tgt := 33) B dX12_truthOf_18 rfl ?_
  exact z_ret_l B dX12_truthOf_33 ⟨rfl, rfl, (fun b9 => ((fr1 b9).trans rfl))⟩

set_option maxHeartbeats 4000000 in
set_option maxRecDepth 100000 in
theorem m_root_0 (G : EnvG) (l : Launch) (Φ : Hm) (sz : Nat) (y : Nat)  : Ct G l yX12_root wsX12_root ({ frames := 0, cells := 0, slots := 0, locals := 0 }) 0 0 [.double FP.dconst0] Φ sz (fun v Φ1 sz1 => v = some (.double FP.dconst0) ∧ sz1 = sz ∧ (∀ b9 : Nat, Φ1 b9 = Φ b9)) := by
  refine Ct.of (cc := cX12_root) (maxL := 12) (ret := (some .double)) (by decide) rfl (Nat.le_of_ble_eq_true rfl) ?_
  intro p9 e9 s9 m9 w9 t9 k9 B
  show Z p9 l e9 _ s9 m9 _ w9 t9 k9 _ G 12 0 [(0, .double FP.dconst0)] [] Φ sz 0 0
  refine z_dload_n B dX12_root_0 rfl 0 rfl ?_
  refine z_dconst0 B dX12_root_1 ?_
  refine z_dcmp B dX12_root_2 ?_
  refine z_if_ne (tgt := 8) B dX12_root_3 rfl (fun h9 => absurd (by decide +kernel) h9) (fun c_1 => ?_)
  refine z_dconst0 B dX12_root_6 ?_
  exact z_ret_d B dX12_root_7 ⟨rfl, rfl, (fun b9 => rfl)⟩

set_option maxHeartbeats 4000000 in
set_option maxRecDepth 100000 in
theorem m_marginOf_0 (G : EnvG) (l : Launch) (Φ : Hm) (sz : Nat) (y : Nat)  : Ct G l yX12_marginOf wsX12_marginOf ({ frames := 1, cells := 0, slots := 0, locals := 31 }) 0 0 [.double FP.dconst0] Φ sz (fun v Φ1 sz1 => v = some (.double (FP.dmul 4611505874442293084 FP.dconst0)) ∧ sz1 = sz ∧ (∀ b9 : Nat, Φ1 b9 = Φ b9)) := by
  refine Ct.of (cc := cX12_marginOf) (maxL := 2) (ret := (some .double)) (by decide) rfl (Nat.le_of_ble_eq_true rfl) ?_
  intro p9 e9 s9 m9 w9 t9 k9 B
  show Z p9 l e9 _ s9 m9 _ w9 t9 k9 _ G 2 0 [(0, .double FP.dconst0)] [] Φ sz 0 0
  refine z_ldc2d (v := 4611505874442293084) B (by decide +kernel) dX12_marginOf_0 ?_
  refine z_dload_n B dX12_marginOf_3 rfl 0 rfl ?_
  refine z_callS (As := [.double FP.dconst0]) (rest := [.double 4611505874442293084]) B (m_root_0 G l Φ sz y ) (va_cwS 1 B.1.2.2.2.2 gX12_marginOf_X12_root rfl rfl rfl (by decide +kernel) ⟨Nat.le_of_ble_eq_true rfl, Nat.le_of_ble_eq_true rfl⟩) rfl rfl (Nat.le_of_ble_eq_true rfl) dX12_marginOf_4 ⟨Nat.le_of_ble_eq_true rfl, Nat.le_of_ble_eq_true rfl⟩ (fun v1 Φ1 sz1 st1 hp1 hs1 => ?_)
  obtain ⟨rfl, hq1, fr1⟩ := hp1
  replace hq1 : sz1 = sz := hq1
  subst sz1
  replace hs1 : st1 = [.double FP.dconst0, .double 4611505874442293084] := hs1
  subst st1
  refine z_dmul B dX12_marginOf_7 (by unfold vf_n64; decide +kernel) ?_
  exact z_ret_d B dX12_marginOf_8 ⟨rfl, rfl, (fun b9 => ((fr1 b9).trans rfl))⟩

set_option maxHeartbeats 4000000 in
set_option maxRecDepth 100000 in
theorem m_X12_covered_0 (G : EnvG) (l : Launch) (Φ : Hm) (sz : Nat) (y : Nat) (hc0_ : Φ y = some (o_ 14 [.int 0, .ref (y + 1), .ref (y + 2), .int 0, .int 1, .int 1, .int 0, .int 0, .ref (y + 3), .ref (y + 4), .int 0, .long 0, .ref (y + 5), .int 0, .int 0, .long 0, .long 0, .long 0, .long 0, .ref (y + 6), .ref (y + 7), .int 0, .ref (y + 8), .int 0, .ref (y + 9), .ref (y + 10), .int 0, .ref (y + 11), .ref (y + 12), .ref (y + 13), .ref (y + 14), .ref (y + 15), .ref (y + 16), .int 0, .long (-1), .ref (y + 17), .ref (y + 18), .ref (y + 19), .ref (y + 20), .ref (y + 21), .ref (y + 22), .int 0, .ref (y + 23), .ref (y + 24), .int 0, .ref (y + 25), .int 0, .int 0, .int 0, .int (-1), .int 0, .int 0, .int 0, .long 0])) (hna : G.2.2.2 ≤ y) : Ct G l yX12_covered wsX12_covered ({ frames := 2, cells := 0, slots := 0, locals := 45 }) 0 0 [.ref y, .int 0] Φ sz (fun v Φ1 sz1 => v = some (.int 0) ∧ (∃ fs : List Value, Φ1 y = some (o_ 14 fs) ∧ fs[0]? = some (.int 0)) ∧ ∀ b9 : Nat, y + 26 ≤ b9 → Φ1 b9 = Φ b9) := by
  refine Ct.of (cc := cX12_covered) (maxL := 6) (ret := (some .int)) (by decide) rfl (Nat.le_of_ble_eq_true rfl) ?_
  intro p9 e9 s9 m9 w9 t9 k9 B
  show Z p9 l e9 _ s9 m9 _ w9 t9 k9 _ G 6 0 [(0, .ref y), (1, .int 0)] [] Φ sz 0 0
  refine z_aload_n B dX12_covered_0 rfl 0 rfl ?_
  refine z_iconst (v := 0) B dX12_covered_1 rfl ?_
  refine z_put (ref := "FlowExporterModel") (C := RX12) (T := TX12) (N := 54) (ci := 14) (v := .int 0) B (by decide +kernel) tyX12 tyX12_ok nmX12 rfl 0 (by decide) (by decide +kernel) rfl (Or.inl rfl) hc0_ hna rfl rfl (Nat.le_of_ble_eq_true rfl) dX12_covered_2 (fun Φ1 hΦ1 => ?_)
  have h_1 : Φ1 y = some (o_ 14 [.int 0, .ref (y + 1), .ref (y + 2), .int 0, .int 1, .int 1, .int 0, .int 0, .ref (y + 3), .ref (y + 4), .int 0, .long 0, .ref (y + 5), .int 0, .int 0, .long 0, .long 0, .long 0, .long 0, .ref (y + 6), .ref (y + 7), .int 0, .ref (y + 8), .int 0, .ref (y + 9), .ref (y + 10), .int 0, .ref (y + 11), .ref (y + 12), .ref (y + 13), .ref (y + 14), .ref (y + 15), .ref (y + 16), .int 0, .long (-1), .ref (y + 17), .ref (y + 18), .ref (y + 19), .ref (y + 20), .ref (y + 21), .ref (y + 22), .int 0, .ref (y + 23), .ref (y + 24), .int 0, .ref (y + 25), .int 0, .int 0, .int 0, .int (-1), .int 0, .int 0, .int 0, .long 0]) := fset_at hΦ1
  refine z_aload_n B dX12_covered_5 rfl 0 rfl ?_
  refine z_iload_n B dX12_covered_6 rfl 1 rfl ?_
  refine z_callS (As := [.int 0]) (rest := [.ref y]) B (m_isWhat_0 G l Φ1 sz y ) (va_cwS 1 B.1.2.2.2.2 gX12_covered_X12_isWhat rfl rfl rfl (by decide +kernel) ⟨Nat.le_of_ble_eq_true rfl, Nat.le_of_ble_eq_true rfl⟩) rfl rfl (Nat.le_of_ble_eq_true rfl) dX12_covered_7 ⟨Nat.le_of_ble_eq_true rfl, Nat.le_of_ble_eq_true rfl⟩ (fun v1 Φ2 sz1 st1 hp1 hs1 => ?_)
  obtain ⟨rfl, hq1, fr1⟩ := hp1
  replace hq1 : sz1 = sz := hq1
  subst sz1
  replace hs1 : st1 = [.int 1, .ref y] := hs1
  subst st1
  refine z_if_ne (tgt := 17) B dX12_covered_10 rfl (fun c_1 => ?_) (fun h9 => absurd h9 (by decide))
  refine z_iconst (v := 0) B dX12_covered_17 rfl ?_
  refine z_iconst (v := 1) B dX12_covered_18 rfl ?_
  have h_2 : Φ2 y = some (o_ 14 [.int 0, .ref (y + 1), .ref (y + 2), .int 0, .int 1, .int 1, .int 0, .int 0, .ref (y + 3), .ref (y + 4), .int 0, .long 0, .ref (y + 5), .int 0, .int 0, .long 0, .long 0, .long 0, .long 0, .ref (y + 6), .ref (y + 7), .int 0, .ref (y + 8), .int 0, .ref (y + 9), .ref (y + 10), .int 0, .ref (y + 11), .ref (y + 12), .ref (y + 13), .ref (y + 14), .ref (y + 15), .ref (y + 16), .int 0, .long (-1), .ref (y + 17), .ref (y + 18), .ref (y + 19), .ref (y + 20), .ref (y + 21), .ref (y + 22), .int 0, .ref (y + 23), .ref (y + 24), .int 0, .ref (y + 25), .int 0, .int 0, .int 0, .int (-1), .int 0, .int 0, .int 0, .long 0]) := ((fr1 y).trans h_1)
  refine z_callV (As := [.int 0, .int 1]) (rest := []) B (c_X12_throwsIf_0 G l Φ2 sz y 0 0 1 1 0 0 0 0 0 0 0 0 0 0 0 0 0 0 (-1) 0 0 0 0 0 (-1) 0 0 0 0 1 h_2 hna) (cwV 2 B.1.2.2.2.2 gX12_covered_X12_throwsIf rfl rfl rfl (by decide +kernel) ⟨Nat.le_of_ble_eq_true rfl, Nat.le_of_ble_eq_true rfl⟩) h_2 rfl rfl rfl rfl (Nat.le_of_ble_eq_true rfl) dX12_covered_19 ⟨Nat.le_of_ble_eq_true rfl, Nat.le_of_ble_eq_true rfl⟩ (fun v2 Φ3 sz2 st2 hp2 hs2 => ?_)
  obtain ⟨rfl, hq2, fr2⟩ := hp2
  replace hq2 : sz2 = sz := hq2
  subst sz2
  replace hs2 : st2 = [.int 0] := hs2
  subst st2
  refine z_if_eq (tgt := 27) B dX12_covered_22 rfl (fun c_2 => ?_) (fun h9 => absurd (by decide) h9)
  refine z_iconst (v := 0) B dX12_covered_27 rfl ?_
  refine z_istore_n (lv' := [(2, .int 0), (0, .ref y), (1, .int 0)]) B dX12_covered_28 rfl (Nat.le_of_ble_eq_true rfl) rfl ?_
  refine z_iconst (v := 0) B dX12_covered_29 rfl ?_
  refine z_istore_n (lv' := [(3, .int 0), (2, .int 0), (0, .ref y), (1, .int 0)]) B dX12_covered_30 rfl (Nat.le_of_ble_eq_true rfl) rfl ?_
  refine z_iload_n B dX12_covered_31 rfl 0 rfl ?_
  refine z_aload_n B dX12_covered_32 rfl 2 rfl ?_
  have h_3 : Φ3 y = some (o_ 14 [.int 0, .ref (y + 1), .ref (y + 2), .int 0, .int 1, .int 1, .int 0, .int 0, .ref (y + 3), .ref (y + 4), .int 0, .long 0, .ref (y + 5), .int 0, .int 0, .long 0, .long 0, .long 0, .long 0, .ref (y + 6), .ref (y + 7), .int 0, .ref (y + 8), .int 0, .ref (y + 9), .ref (y + 10), .int 0, .ref (y + 11), .ref (y + 12), .ref (y + 13), .ref (y + 14), .ref (y + 15), .ref (y + 16), .int 0, .long (-1), .ref (y + 17), .ref (y + 18), .ref (y + 19), .ref (y + 20), .ref (y + 21), .ref (y + 22), .int 0, .ref (y + 23), .ref (y + 24), .int 0, .ref (y + 25), .int 0, .int 0, .int 0, .int (-1), .int 0, .int 0, .int 0, .long 0]) := ((fr2 y).trans h_2)
  refine z_get (ref := "FlowExporterModel") (C := RX12) (T := TX12) (N := 54) (ci := 14) (v := .int 0) B (by decide +kernel) rfl 41 (by decide) (by decide +kernel) rfl h_3 rfl dX12_covered_33 ?_
  refine z_icmp_ge (tgt := 123) B dX12_covered_36 rfl (fun c_3 => ?_) (fun h9 => absurd (by decide) h9)
  refine z_iload_n B dX12_covered_123 rfl 1 rfl ?_
  exact z_ret_i B dX12_covered_124 ⟨rfl, ⟨_, h_3, rfl⟩, fun b9 h9 => ((fr2 b9).trans ((fr1 b9).trans ((fset_fr hΦ1 (Nat.ne_of_gt (Nat.lt_of_lt_of_le (lt_off (x := y) (i := 0) (j := 26) rfl) h9))).trans rfl)))⟩

set_option maxHeartbeats 4000000 in
set_option maxRecDepth 100000 in
theorem m_X12_totalEstimate_0 (G : EnvG) (l : Launch) (Φ : Hm) (sz : Nat) (y : Nat) (hc0_ : Φ y = some (o_ 14 [.int 0, .ref (y + 1), .ref (y + 2), .int 0, .int 1, .int 1, .int 0, .int 0, .ref (y + 3), .ref (y + 4), .int 0, .long 0, .ref (y + 5), .int 0, .int 0, .long 0, .long 0, .long 0, .long 0, .ref (y + 6), .ref (y + 7), .int 0, .ref (y + 8), .int 0, .ref (y + 9), .ref (y + 10), .int 0, .ref (y + 11), .ref (y + 12), .ref (y + 13), .ref (y + 14), .ref (y + 15), .ref (y + 16), .int 0, .long (-1), .ref (y + 17), .ref (y + 18), .ref (y + 19), .ref (y + 20), .ref (y + 21), .ref (y + 22), .int 0, .ref (y + 23), .ref (y + 24), .int 0, .ref (y + 25), .int 0, .int 0, .int 0, .int (-1), .int 0, .int 0, .int 0, .long 0])) (hna : G.2.2.2 ≤ y) : Ct G l yX12_totalEstimate wsX12_totalEstimate ({ frames := 2, cells := 0, slots := 0, locals := 45 }) 0 0 [.ref y, .int 0] Φ sz (fun v Φ1 sz1 => v = some (.long 0) ∧ (∃ fs : List Value, Φ1 y = some (o_ 14 fs) ∧ fs[0]? = some (.int 0)) ∧ ∀ b9 : Nat, y + 26 ≤ b9 → Φ1 b9 = Φ b9) := by
  refine Ct.of (cc := cX12_totalEstimate) (maxL := 5) (ret := (some .long)) (by decide) rfl (Nat.le_of_ble_eq_true rfl) ?_
  intro p9 e9 s9 m9 w9 t9 k9 B
  show Z p9 l e9 _ s9 m9 _ w9 t9 k9 _ G 5 0 [(0, .ref y), (1, .int 0)] [] Φ sz 0 0
  refine z_aload_n B dX12_totalEstimate_0 rfl 0 rfl ?_
  refine z_iconst (v := 0) B dX12_totalEstimate_1 rfl ?_
  refine z_put (ref := "FlowExporterModel") (C := RX12) (T := TX12) (N := 54) (ci := 14) (v := .int 0) B (by decide +kernel) tyX12 tyX12_ok nmX12 rfl 0 (by decide) (by decide +kernel) rfl (Or.inl rfl) hc0_ hna rfl rfl (Nat.le_of_ble_eq_true rfl) dX12_totalEstimate_2 (fun Φ1 hΦ1 => ?_)
  have h_1 : Φ1 y = some (o_ 14 [.int 0, .ref (y + 1), .ref (y + 2), .int 0, .int 1, .int 1, .int 0, .int 0, .ref (y + 3), .ref (y + 4), .int 0, .long 0, .ref (y + 5), .int 0, .int 0, .long 0, .long 0, .long 0, .long 0, .ref (y + 6), .ref (y + 7), .int 0, .ref (y + 8), .int 0, .ref (y + 9), .ref (y + 10), .int 0, .ref (y + 11), .ref (y + 12), .ref (y + 13), .ref (y + 14), .ref (y + 15), .ref (y + 16), .int 0, .long (-1), .ref (y + 17), .ref (y + 18), .ref (y + 19), .ref (y + 20), .ref (y + 21), .ref (y + 22), .int 0, .ref (y + 23), .ref (y + 24), .int 0, .ref (y + 25), .int 0, .int 0, .int 0, .int (-1), .int 0, .int 0, .int 0, .long 0]) := fset_at hΦ1
  refine z_aload_n B dX12_totalEstimate_5 rfl 0 rfl ?_
  refine z_iload_n B dX12_totalEstimate_6 rfl 1 rfl ?_
  refine z_callS (As := [.int 0]) (rest := [.ref y]) B (m_isWhat_0 G l Φ1 sz y ) (va_cwS 1 B.1.2.2.2.2 gX12_totalEstimate_X12_isWhat rfl rfl rfl (by decide +kernel) ⟨Nat.le_of_ble_eq_true rfl, Nat.le_of_ble_eq_true rfl⟩) rfl rfl (Nat.le_of_ble_eq_true rfl) dX12_totalEstimate_7 ⟨Nat.le_of_ble_eq_true rfl, Nat.le_of_ble_eq_true rfl⟩ (fun v1 Φ2 sz1 st1 hp1 hs1 => ?_)
  obtain ⟨rfl, hq1, fr1⟩ := hp1
  replace hq1 : sz1 = sz := hq1
  subst sz1
  replace hs1 : st1 = [.int 1, .ref y] := hs1
  subst st1
  refine z_if_ne (tgt := 17) B dX12_totalEstimate_10 rfl (fun c_1 => ?_) (fun h9 => absurd h9 (by decide))
  refine z_iconst (v := 0) B dX12_totalEstimate_17 rfl ?_
  refine z_iconst (v := 1) B dX12_totalEstimate_18 rfl ?_
  have h_2 : Φ2 y = some (o_ 14 [.int 0, .ref (y + 1), .ref (y + 2), .int 0, .int 1, .int 1, .int 0, .int 0, .ref (y + 3), .ref (y + 4), .int 0, .long 0, .ref (y + 5), .int 0, .int 0, .long 0, .long 0, .long 0, .long 0, .ref (y + 6), .ref (y + 7), .int 0, .ref (y + 8), .int 0, .ref (y + 9), .ref (y + 10), .int 0, .ref (y + 11), .ref (y + 12), .ref (y + 13), .ref (y + 14), .ref (y + 15), .ref (y + 16), .int 0, .long (-1), .ref (y + 17), .ref (y + 18), .ref (y + 19), .ref (y + 20), .ref (y + 21), .ref (y + 22), .int 0, .ref (y + 23), .ref (y + 24), .int 0, .ref (y + 25), .int 0, .int 0, .int 0, .int (-1), .int 0, .int 0, .int 0, .long 0]) := ((fr1 y).trans h_1)
  refine z_callV (As := [.int 0, .int 1]) (rest := []) B (c_X12_throwsIf_0 G l Φ2 sz y 0 0 1 1 0 0 0 0 0 0 0 0 0 0 0 0 0 0 (-1) 0 0 0 0 0 (-1) 0 0 0 0 1 h_2 hna) (cwV 2 B.1.2.2.2.2 gX12_totalEstimate_X12_throwsIf rfl rfl rfl (by decide +kernel) ⟨Nat.le_of_ble_eq_true rfl, Nat.le_of_ble_eq_true rfl⟩) h_2 rfl rfl rfl rfl (Nat.le_of_ble_eq_true rfl) dX12_totalEstimate_19 ⟨Nat.le_of_ble_eq_true rfl, Nat.le_of_ble_eq_true rfl⟩ (fun v2 Φ3 sz2 st2 hp2 hs2 => ?_)
  obtain ⟨rfl, hq2, fr2⟩ := hp2
  replace hq2 : sz2 = sz := hq2
  subst sz2
  replace hs2 : st2 = [.int 0] := hs2
  subst st2
  refine z_if_eq (tgt := 27) B dX12_totalEstimate_22 rfl (fun c_2 => ?_) (fun h9 => absurd (by decide) h9)
  refine z_lconst (v := 0) B dX12_totalEstimate_27 rfl ?_
  refine z_lstore_n (lv' := [(2, .long 0), (0, .ref y), (1, .int 0)]) B dX12_totalEstimate_28 rfl (Nat.le_of_ble_eq_true rfl) rfl ?_
  refine z_iconst (v := 0) B dX12_totalEstimate_29 rfl ?_
  refine z_istore (lv' := [(4, .int 0), (2, .long 0), (0, .ref y), (1, .int 0)]) B dX12_totalEstimate_30 (Nat.le_of_ble_eq_true rfl) rfl ?_
  refine z_iload B dX12_totalEstimate_32 0 rfl ?_
  refine z_aload_n B dX12_totalEstimate_34 rfl 2 rfl ?_
  have h_3 : Φ3 y = some (o_ 14 [.int 0, .ref (y + 1), .ref (y + 2), .int 0, .int 1, .int 1, .int 0, .int 0, .ref (y + 3), .ref (y + 4), .int 0, .long 0, .ref (y + 5), .int 0, .int 0, .long 0, .long 0, .long 0, .long 0, .ref (y + 6), .ref (y + 7), .int 0, .ref (y + 8), .int 0, .ref (y + 9), .ref (y + 10), .int 0, .ref (y + 11), .ref (y + 12), .ref (y + 13), .ref (y + 14), .ref (y + 15), .ref (y + 16), .int 0, .long (-1), .ref (y + 17), .ref (y + 18), .ref (y + 19), .ref (y + 20), .ref (y + 21), .ref (y + 22), .int 0, .ref (y + 23), .ref (y + 24), .int 0, .ref (y + 25), .int 0, .int 0, .int 0, .int (-1), .int 0, .int 0, .int 0, .long 0]) := ((fr2 y).trans h_2)
  refine z_get (ref := "FlowExporterModel") (C := RX12) (T := TX12) (N := 54) (ci := 14) (v := .int 0) B (by decide +kernel) rfl 41 (by decide) (by decide +kernel) rfl h_3 rfl dX12_totalEstimate_35 ?_
  refine z_icmp_ge (tgt := 61) B dX12_totalEstimate_38 rfl (fun c_3 => ?_) (fun h9 => absurd (by decide) h9)
  refine z_lload_n B dX12_totalEstimate_61 rfl 1 rfl ?_
  exact z_ret_l B dX12_totalEstimate_62 ⟨rfl, ⟨_, h_3, rfl⟩, fun b9 h9 => ((fr2 b9).trans ((fr1 b9).trans ((fset_fr hΦ1 (Nat.ne_of_gt (Nat.lt_of_lt_of_le (lt_off (x := y) (i := 0) (j := 26) rfl) h9))).trans rfl)))⟩

set_option maxHeartbeats 4000000 in
set_option maxRecDepth 100000 in
theorem m_X12_totalMargin_0 (G : EnvG) (l : Launch) (Φ : Hm) (sz : Nat) (y : Nat) (hc0_ : Φ y = some (o_ 14 [.int 0, .ref (y + 1), .ref (y + 2), .int 0, .int 1, .int 1, .int 0, .int 0, .ref (y + 3), .ref (y + 4), .int 0, .long 0, .ref (y + 5), .int 0, .int 0, .long 0, .long 0, .long 0, .long 0, .ref (y + 6), .ref (y + 7), .int 0, .ref (y + 8), .int 0, .ref (y + 9), .ref (y + 10), .int 0, .ref (y + 11), .ref (y + 12), .ref (y + 13), .ref (y + 14), .ref (y + 15), .ref (y + 16), .int 0, .long (-1), .ref (y + 17), .ref (y + 18), .ref (y + 19), .ref (y + 20), .ref (y + 21), .ref (y + 22), .int 0, .ref (y + 23), .ref (y + 24), .int 0, .ref (y + 25), .int 0, .int 0, .int 0, .int (-1), .int 0, .int 0, .int 0, .long 0])) (hna : G.2.2.2 ≤ y) : Ct G l yX12_totalMargin wsX12_totalMargin ({ frames := 2, cells := 0, slots := 0, locals := 52 }) 0 0 [.ref y, .int 0] Φ sz (fun v Φ1 sz1 => v = some (.double (FP.dmul 4611505874442293084 FP.dconst0)) ∧ (∃ fs : List Value, Φ1 y = some (o_ 14 fs) ∧ fs[0]? = some (.int 0)) ∧ ∀ b9 : Nat, y + 26 ≤ b9 → Φ1 b9 = Φ b9) := by
  refine Ct.of (cc := cX12_totalMargin) (maxL := 5) (ret := (some .double)) (by decide) rfl (Nat.le_of_ble_eq_true rfl) ?_
  intro p9 e9 s9 m9 w9 t9 k9 B
  show Z p9 l e9 _ s9 m9 _ w9 t9 k9 _ G 5 0 [(0, .ref y), (1, .int 0)] [] Φ sz 0 0
  refine z_aload_n B dX12_totalMargin_0 rfl 0 rfl ?_
  refine z_iconst (v := 0) B dX12_totalMargin_1 rfl ?_
  refine z_put (ref := "FlowExporterModel") (C := RX12) (T := TX12) (N := 54) (ci := 14) (v := .int 0) B (by decide +kernel) tyX12 tyX12_ok nmX12 rfl 0 (by decide) (by decide +kernel) rfl (Or.inl rfl) hc0_ hna rfl rfl (Nat.le_of_ble_eq_true rfl) dX12_totalMargin_2 (fun Φ1 hΦ1 => ?_)
  have h_1 : Φ1 y = some (o_ 14 [.int 0, .ref (y + 1), .ref (y + 2), .int 0, .int 1, .int 1, .int 0, .int 0, .ref (y + 3), .ref (y + 4), .int 0, .long 0, .ref (y + 5), .int 0, .int 0, .long 0, .long 0, .long 0, .long 0, .ref (y + 6), .ref (y + 7), .int 0, .ref (y + 8), .int 0, .ref (y + 9), .ref (y + 10), .int 0, .ref (y + 11), .ref (y + 12), .ref (y + 13), .ref (y + 14), .ref (y + 15), .ref (y + 16), .int 0, .long (-1), .ref (y + 17), .ref (y + 18), .ref (y + 19), .ref (y + 20), .ref (y + 21), .ref (y + 22), .int 0, .ref (y + 23), .ref (y + 24), .int 0, .ref (y + 25), .int 0, .int 0, .int 0, .int (-1), .int 0, .int 0, .int 0, .long 0]) := fset_at hΦ1
  refine z_aload_n B dX12_totalMargin_5 rfl 0 rfl ?_
  refine z_iload_n B dX12_totalMargin_6 rfl 1 rfl ?_
  refine z_callS (As := [.int 0]) (rest := [.ref y]) B (m_isWhat_0 G l Φ1 sz y ) (va_cwS 1 B.1.2.2.2.2 gX12_totalMargin_X12_isWhat rfl rfl rfl (by decide +kernel) ⟨Nat.le_of_ble_eq_true rfl, Nat.le_of_ble_eq_true rfl⟩) rfl rfl (Nat.le_of_ble_eq_true rfl) dX12_totalMargin_7 ⟨Nat.le_of_ble_eq_true rfl, Nat.le_of_ble_eq_true rfl⟩ (fun v1 Φ2 sz1 st1 hp1 hs1 => ?_)
  obtain ⟨rfl, hq1, fr1⟩ := hp1
  replace hq1 : sz1 = sz := hq1
  subst sz1
  replace hs1 : st1 = [.int 1, .ref y] := hs1
  subst st1
  refine z_if_ne (tgt := 17) B dX12_totalMargin_10 rfl (fun c_1 => ?_) (fun h9 => absurd h9 (by decide))
  refine z_iconst (v := 0) B dX12_totalMargin_17 rfl ?_
  refine z_iconst (v := 1) B dX12_totalMargin_18 rfl ?_
  have h_2 : Φ2 y = some (o_ 14 [.int 0, .ref (y + 1), .ref (y + 2), .int 0, .int 1, .int 1, .int 0, .int 0, .ref (y + 3), .ref (y + 4), .int 0, .long 0, .ref (y + 5), .int 0, .int 0, .long 0, .long 0, .long 0, .long 0, .ref (y + 6), .ref (y + 7), .int 0, .ref (y + 8), .int 0, .ref (y + 9), .ref (y + 10), .int 0, .ref (y + 11), .ref (y + 12), .ref (y + 13), .ref (y + 14), .ref (y + 15), .ref (y + 16), .int 0, .long (-1), .ref (y + 17), .ref (y + 18), .ref (y + 19), .ref (y + 20), .ref (y + 21), .ref (y + 22), .int 0, .ref (y + 23), .ref (y + 24), .int 0, .ref (y + 25), .int 0, .int 0, .int 0, .int (-1), .int 0, .int 0, .int 0, .long 0]) := ((fr1 y).trans h_1)
  refine z_callV (As := [.int 0, .int 1]) (rest := []) B (c_X12_throwsIf_0 G l Φ2 sz y 0 0 1 1 0 0 0 0 0 0 0 0 0 0 0 0 0 0 (-1) 0 0 0 0 0 (-1) 0 0 0 0 1 h_2 hna) (cwV 2 B.1.2.2.2.2 gX12_totalMargin_X12_throwsIf rfl rfl rfl (by decide +kernel) ⟨Nat.le_of_ble_eq_true rfl, Nat.le_of_ble_eq_true rfl⟩) h_2 rfl rfl rfl rfl (Nat.le_of_ble_eq_true rfl) dX12_totalMargin_19 ⟨Nat.le_of_ble_eq_true rfl, Nat.le_of_ble_eq_true rfl⟩ (fun v2 Φ3 sz2 st2 hp2 hs2 => ?_)
  obtain ⟨rfl, hq2, fr2⟩ := hp2
  replace hq2 : sz2 = sz := hq2
  subst sz2
  replace hs2 : st2 = [.int 0] := hs2
  subst st2
  refine z_if_eq (tgt := 27) B dX12_totalMargin_22 rfl (fun c_2 => ?_) (fun h9 => absurd (by decide) h9)
  refine z_dconst0 B dX12_totalMargin_27 ?_
  refine z_dstore_n (lv' := [(2, .double FP.dconst0), (0, .ref y), (1, .int 0)]) B dX12_totalMargin_28 rfl (Nat.le_of_ble_eq_true rfl) rfl ?_
  refine z_iconst (v := 0) B dX12_totalMargin_29 rfl ?_
  refine z_istore (lv' := [(4, .int 0), (2, .double FP.dconst0), (0, .ref y), (1, .int 0)]) B dX12_totalMargin_30 (Nat.le_of_ble_eq_true rfl) rfl ?_
  refine z_iload B dX12_totalMargin_32 0 rfl ?_
  refine z_aload_n B dX12_totalMargin_34 rfl 2 rfl ?_
  have h_3 : Φ3 y = some (o_ 14 [.int 0, .ref (y + 1), .ref (y + 2), .int 0, .int 1, .int 1, .int 0, .int 0, .ref (y + 3), .ref (y + 4), .int 0, .long 0, .ref (y + 5), .int 0, .int 0, .long 0, .long 0, .long 0, .long 0, .ref (y + 6), .ref (y + 7), .int 0, .ref (y + 8), .int 0, .ref (y + 9), .ref (y + 10), .int 0, .ref (y + 11), .ref (y + 12), .ref (y + 13), .ref (y + 14), .ref (y + 15), .ref (y + 16), .int 0, .long (-1), .ref (y + 17), .ref (y + 18), .ref (y + 19), .ref (y + 20), .ref (y + 21), .ref (y + 22), .int 0, .ref (y + 23), .ref (y + 24), .int 0, .ref (y + 25), .int 0, .int 0, .int 0, .int (-1), .int 0, .int 0, .int 0, .long 0]) := ((fr2 y).trans h_2)
  refine z_get (ref := "FlowExporterModel") (C := RX12) (T := TX12) (N := 54) (ci := 14) (v := .int 0) B (by decide +kernel) rfl 41 (by decide) (by decide +kernel) rfl h_3 rfl dX12_totalMargin_35 ?_
  refine z_icmp_ge (tgt := 61) B dX12_totalMargin_38 rfl (fun c_3 => ?_) (fun h9 => absurd (by decide) h9)
  refine z_dload_n B dX12_totalMargin_61 rfl 1 rfl ?_
  refine z_callS (As := [.double FP.dconst0]) (rest := []) B (m_marginOf_0 G l Φ3 sz y ) (va_cwS 1 B.1.2.2.2.2 gX12_totalMargin_X12_marginOf rfl rfl rfl (by decide +kernel) ⟨Nat.le_of_ble_eq_true rfl, Nat.le_of_ble_eq_true rfl⟩) rfl rfl (Nat.le_of_ble_eq_true rfl) dX12_totalMargin_62 ⟨Nat.le_of_ble_eq_true rfl, Nat.le_of_ble_eq_true rfl⟩ (fun v3 Φ4 sz3 st3 hp3 hs3 => ?_)
  obtain ⟨rfl, hq3, fr3⟩ := hp3
  replace hq3 : sz3 = sz := hq3
  subst sz3
  replace hs3 : st3 = [.double (FP.dmul 4611505874442293084 FP.dconst0)] := hs3
  subst st3
  have h_4 : Φ4 y = some (o_ 14 [.int 0, .ref (y + 1), .ref (y + 2), .int 0, .int 1, .int 1, .int 0, .int 0, .ref (y + 3), .ref (y + 4), .int 0, .long 0, .ref (y + 5), .int 0, .int 0, .long 0, .long 0, .long 0, .long 0, .ref (y + 6), .ref (y + 7), .int 0, .ref (y + 8), .int 0, .ref (y + 9), .ref (y + 10), .int 0, .ref (y + 11), .ref (y + 12), .ref (y + 13), .ref (y + 14), .ref (y + 15), .ref (y + 16), .int 0, .long (-1), .ref (y + 17), .ref (y + 18), .ref (y + 19), .ref (y + 20), .ref (y + 21), .ref (y + 22), .int 0, .ref (y + 23), .ref (y + 24), .int 0, .ref (y + 25), .int 0, .int 0, .int 0, .int (-1), .int 0, .int 0, .int 0, .long 0]) := ((fr3 y).trans h_3)
  exact z_ret_d B dX12_totalMargin_65 ⟨rfl, ⟨_, h_4, rfl⟩, fun b9 h9 => ((fr3 b9).trans ((fr2 b9).trans ((fr1 b9).trans ((fset_fr hΦ1 (Nat.ne_of_gt (Nat.lt_of_lt_of_le (lt_off (x := y) (i := 0) (j := 26) rfl) h9))).trans rfl))))⟩

set_option maxHeartbeats 4000000 in
set_option maxRecDepth 100000 in
theorem m_X12_ranked_0 (G : EnvG) (l : Launch) (Φ : Hm) (sz : Nat) (y : Nat) (a : Int32) (hc0_ : Φ y = some (o_ 14 [.int 0, .ref (y + 1), .ref (y + 2), .int 0, .int 1, .int 1, .int 0, .int 0, .ref (y + 3), .ref (y + 4), .int 0, .long 0, .ref (y + 5), .int 0, .int 0, .long 0, .long 0, .long 0, .long 0, .ref (y + 6), .ref (y + 7), .int 0, .ref (y + 8), .int 0, .ref (y + 9), .ref (y + 10), .int 0, .ref (y + 11), .ref (y + 12), .ref (y + 13), .ref (y + 14), .ref (y + 15), .ref (y + 16), .int 0, .long (-1), .ref (y + 17), .ref (y + 18), .ref (y + 19), .ref (y + 20), .ref (y + 21), .ref (y + 22), .int 0, .ref (y + 23), .ref (y + 24), .int 0, .ref (y + 25), .int 0, .int 0, .int 0, .int (-1), .int 0, .int 0, .int 0, .long 0])) (hna : G.2.2.2 ≤ y) : Ct G l yX12_ranked wsX12_ranked ({ frames := 2, cells := 0, slots := 0, locals := 45 }) 0 0 [.ref y, .int a, .int 0] Φ sz (fun v Φ1 sz1 => v = some (.int (-1)) ∧ (∃ fs : List Value, Φ1 y = some (o_ 14 fs) ∧ fs[0]? = some (.int 0)) ∧ ∀ b9 : Nat, y + 26 ≤ b9 → Φ1 b9 = Φ b9) := by
  refine Ct.of (cc := cX12_ranked) (maxL := 10) (ret := (some .int)) (by decide) rfl (Nat.le_of_ble_eq_true rfl) ?_
  intro p9 e9 s9 m9 w9 t9 k9 B
  show Z p9 l e9 _ s9 m9 _ w9 t9 k9 _ G 10 0 [(0, .ref y), (1, .int a), (2, .int 0)] [] Φ sz 0 0
  refine z_aload_n B dX12_ranked_0 rfl 0 rfl ?_
  refine z_iconst (v := 0) B dX12_ranked_1 rfl ?_
  refine z_put (ref := "FlowExporterModel") (C := RX12) (T := TX12) (N := 54) (ci := 14) (v := .int 0) B (by decide +kernel) tyX12 tyX12_ok nmX12 rfl 0 (by decide) (by decide +kernel) rfl (Or.inl rfl) hc0_ hna rfl rfl (Nat.le_of_ble_eq_true rfl) dX12_ranked_2 (fun Φ1 hΦ1 => ?_)
  have h_1 : Φ1 y = some (o_ 14 [.int 0, .ref (y + 1), .ref (y + 2), .int 0, .int 1, .int 1, .int 0, .int 0, .ref (y + 3), .ref (y + 4), .int 0, .long 0, .ref (y + 5), .int 0, .int 0, .long 0, .long 0, .long 0, .long 0, .ref (y + 6), .ref (y + 7), .int 0, .ref (y + 8), .int 0, .ref (y + 9), .ref (y + 10), .int 0, .ref (y + 11), .ref (y + 12), .ref (y + 13), .ref (y + 14), .ref (y + 15), .ref (y + 16), .int 0, .long (-1), .ref (y + 17), .ref (y + 18), .ref (y + 19), .ref (y + 20), .ref (y + 21), .ref (y + 22), .int 0, .ref (y + 23), .ref (y + 24), .int 0, .ref (y + 25), .int 0, .int 0, .int 0, .int (-1), .int 0, .int 0, .int 0, .long 0]) := fset_at hΦ1
  refine z_aload_n B dX12_ranked_5 rfl 0 rfl ?_
  refine z_iload_n B dX12_ranked_6 rfl 2 rfl ?_
  refine z_callS (As := [.int 0]) (rest := [.ref y]) B (m_isWhat_0 G l Φ1 sz y ) (va_cwS 1 B.1.2.2.2.2 gX12_ranked_X12_isWhat rfl rfl rfl (by decide +kernel) ⟨Nat.le_of_ble_eq_true rfl, Nat.le_of_ble_eq_true rfl⟩) rfl rfl (Nat.le_of_ble_eq_true rfl) dX12_ranked_7 ⟨Nat.le_of_ble_eq_true rfl, Nat.le_of_ble_eq_true rfl⟩ (fun v1 Φ2 sz1 st1 hp1 hs1 => ?_)
  obtain ⟨rfl, hq1, fr1⟩ := hp1
  replace hq1 : sz1 = sz := hq1
  subst sz1
  replace hs1 : st1 = [.int 1, .ref y] := hs1
  subst st1
  refine z_if_ne (tgt := 17) B dX12_ranked_10 rfl (fun c_1 => ?_) (fun h9 => absurd h9 (by decide))
  refine z_iconst (v := 0) B dX12_ranked_17 rfl ?_
  refine z_iconst (v := 1) B dX12_ranked_18 rfl ?_
  have h_2 : Φ2 y = some (o_ 14 [.int 0, .ref (y + 1), .ref (y + 2), .int 0, .int 1, .int 1, .int 0, .int 0, .ref (y + 3), .ref (y + 4), .int 0, .long 0, .ref (y + 5), .int 0, .int 0, .long 0, .long 0, .long 0, .long 0, .ref (y + 6), .ref (y + 7), .int 0, .ref (y + 8), .int 0, .ref (y + 9), .ref (y + 10), .int 0, .ref (y + 11), .ref (y + 12), .ref (y + 13), .ref (y + 14), .ref (y + 15), .ref (y + 16), .int 0, .long (-1), .ref (y + 17), .ref (y + 18), .ref (y + 19), .ref (y + 20), .ref (y + 21), .ref (y + 22), .int 0, .ref (y + 23), .ref (y + 24), .int 0, .ref (y + 25), .int 0, .int 0, .int 0, .int (-1), .int 0, .int 0, .int 0, .long 0]) := ((fr1 y).trans h_1)
  refine z_callV (As := [.int 0, .int 1]) (rest := []) B (c_X12_throwsIf_0 G l Φ2 sz y 0 0 1 1 0 0 0 0 0 0 0 0 0 0 0 0 0 0 (-1) 0 0 0 0 0 (-1) 0 0 0 0 1 h_2 hna) (cwV 2 B.1.2.2.2.2 gX12_ranked_X12_throwsIf rfl rfl rfl (by decide +kernel) ⟨Nat.le_of_ble_eq_true rfl, Nat.le_of_ble_eq_true rfl⟩) h_2 rfl rfl rfl rfl (Nat.le_of_ble_eq_true rfl) dX12_ranked_19 ⟨Nat.le_of_ble_eq_true rfl, Nat.le_of_ble_eq_true rfl⟩ (fun v2 Φ3 sz2 st2 hp2 hs2 => ?_)
  obtain ⟨rfl, hq2, fr2⟩ := hp2
  replace hq2 : sz2 = sz := hq2
  subst sz2
  replace hs2 : st2 = [.int 0] := hs2
  subst st2
  refine z_if_eq (tgt := 27) B dX12_ranked_22 rfl (fun c_2 => ?_) (fun h9 => absurd (by decide) h9)
  refine z_iconst (v := 0) B dX12_ranked_27 rfl ?_
  refine z_istore_n (lv' := [(3, .int 0), (0, .ref y), (1, .int a), (2, .int 0)]) B dX12_ranked_28 rfl (Nat.le_of_ble_eq_true rfl) rfl ?_
  refine z_iload_n B dX12_ranked_29 rfl 0 rfl ?_
  refine z_aload_n B dX12_ranked_30 rfl 1 rfl ?_
  have h_3 : Φ3 y = some (o_ 14 [.int 0, .ref (y + 1), .ref (y + 2), .int 0, .int 1, .int 1, .int 0, .int 0, .ref (y + 3), .ref (y + 4), .int 0, .long 0, .ref (y + 5), .int 0, .int 0, .long 0, .long 0, .long 0, .long 0, .ref (y + 6), .ref (y + 7), .int 0, .ref (y + 8), .int 0, .ref (y + 9), .ref (y + 10), .int 0, .ref (y + 11), .ref (y + 12), .ref (y + 13), .ref (y + 14), .ref (y + 15), .ref (y + 16), .int 0, .long (-1), .ref (y + 17), .ref (y + 18), .ref (y + 19), .ref (y + 20), .ref (y + 21), .ref (y + 22), .int 0, .ref (y + 23), .ref (y + 24), .int 0, .ref (y + 25), .int 0, .int 0, .int 0, .int (-1), .int 0, .int 0, .int 0, .long 0]) := ((fr2 y).trans h_2)
  refine z_get (ref := "FlowExporterModel") (C := RX12) (T := TX12) (N := 54) (ci := 14) (v := .int 0) B (by decide +kernel) rfl 41 (by decide) (by decide +kernel) rfl h_3 rfl dX12_ranked_31 ?_
  refine z_icmp_ge (tgt := 129) B dX12_ranked_34 rfl (fun c_3 => ?_) (fun h9 => absurd (by decide) h9)
  refine z_iconst (v := (-1)) B dX12_ranked_129 rfl ?_
  exact z_ret_i B dX12_ranked_130 ⟨rfl, ⟨_, h_3, rfl⟩, fun b9 h9 => ((fr2 b9).trans ((fr1 b9).trans ((fset_fr hΦ1 (Nat.ne_of_gt (Nat.lt_of_lt_of_le (lt_off (x := y) (i := 0) (j := 26) rfl) h9))).trans rfl)))⟩

set_option maxHeartbeats 4000000 in
set_option maxRecDepth 100000 in
theorem m_X12_truth_0 (G : EnvG) (l : Launch) (Φ : Hm) (sz : Nat) (y : Nat) (a : Int32) (b : Int32) (d : Int32) (e : Int32) (hc0_ : Φ y = some (o_ 14 [.int 0, .ref (y + 1), .ref (y + 2), .int 0, .int 1, .int 1, .int 0, .int 0, .ref (y + 3), .ref (y + 4), .int 0, .long 0, .ref (y + 5), .int 0, .int 0, .long 0, .long 0, .long 0, .long 0, .ref (y + 6), .ref (y + 7), .int 0, .ref (y + 8), .int 0, .ref (y + 9), .ref (y + 10), .int 0, .ref (y + 11), .ref (y + 12), .ref (y + 13), .ref (y + 14), .ref (y + 15), .ref (y + 16), .int 0, .long (-1), .ref (y + 17), .ref (y + 18), .ref (y + 19), .ref (y + 20), .ref (y + 21), .ref (y + 22), .int 0, .ref (y + 23), .ref (y + 24), .int 0, .ref (y + 25), .int 0, .int 0, .int 0, .int (-1), .int 0, .int 0, .int 0, .long 0])) (hna : G.2.2.2 ≤ y) : Ct G l yX12_truth wsX12_truth ({ frames := 2, cells := 0, slots := 0, locals := 51 }) 0 0 [.ref y, .int a, .int b, .int d, .int e, .int 0] Φ sz (fun v Φ1 sz1 => v = some (.long 0) ∧ (∃ fs : List Value, Φ1 y = some (o_ 14 fs) ∧ fs[0]? = some (.int 0)) ∧ ∀ b9 : Nat, y + 26 ≤ b9 → Φ1 b9 = Φ b9) := by
  refine Ct.of (cc := cX12_truth) (maxL := 6) (ret := (some .long)) (by decide) rfl (Nat.le_of_ble_eq_true rfl) ?_
  intro p9 e9 s9 m9 w9 t9 k9 B
  show Z p9 l e9 _ s9 m9 _ w9 t9 k9 _ G 6 0 [(0, .ref y), (1, .int a), (2, .int b), (3, .int d), (4, .int e), (5, .int 0)] [] Φ sz 0 0
  refine z_aload_n B dX12_truth_0 rfl 0 rfl ?_
  refine z_iconst (v := 0) B dX12_truth_1 rfl ?_
  refine z_put (ref := "FlowExporterModel") (C := RX12) (T := TX12) (N := 54) (ci := 14) (v := .int 0) B (by decide +kernel) tyX12 tyX12_ok nmX12 rfl 0 (by decide) (by decide +kernel) rfl (Or.inl rfl) hc0_ hna rfl rfl (Nat.le_of_ble_eq_true rfl) dX12_truth_2 (fun Φ1 hΦ1 => ?_)
  have h_1 : Φ1 y = some (o_ 14 [.int 0, .ref (y + 1), .ref (y + 2), .int 0, .int 1, .int 1, .int 0, .int 0, .ref (y + 3), .ref (y + 4), .int 0, .long 0, .ref (y + 5), .int 0, .int 0, .long 0, .long 0, .long 0, .long 0, .ref (y + 6), .ref (y + 7), .int 0, .ref (y + 8), .int 0, .ref (y + 9), .ref (y + 10), .int 0, .ref (y + 11), .ref (y + 12), .ref (y + 13), .ref (y + 14), .ref (y + 15), .ref (y + 16), .int 0, .long (-1), .ref (y + 17), .ref (y + 18), .ref (y + 19), .ref (y + 20), .ref (y + 21), .ref (y + 22), .int 0, .ref (y + 23), .ref (y + 24), .int 0, .ref (y + 25), .int 0, .int 0, .int 0, .int (-1), .int 0, .int 0, .int 0, .long 0]) := fset_at hΦ1
  refine z_aload_n B dX12_truth_5 rfl 0 rfl ?_
  refine z_iload B dX12_truth_6 5 rfl ?_
  refine z_callS (As := [.int 0]) (rest := [.ref y]) B (m_isWhat_0 G l Φ1 sz y ) (va_cwS 1 B.1.2.2.2.2 gX12_truth_X12_isWhat rfl rfl rfl (by decide +kernel) ⟨Nat.le_of_ble_eq_true rfl, Nat.le_of_ble_eq_true rfl⟩) rfl rfl (Nat.le_of_ble_eq_true rfl) dX12_truth_8 ⟨Nat.le_of_ble_eq_true rfl, Nat.le_of_ble_eq_true rfl⟩ (fun v1 Φ2 sz1 st1 hp1 hs1 => ?_)
  obtain ⟨rfl, hq1, fr1⟩ := hp1
  replace hq1 : sz1 = sz := hq1
  subst sz1
  replace hs1 : st1 = [.int 1, .ref y] := hs1
  subst st1
  refine z_if_ne (tgt := 18) B dX12_truth_11 rfl (fun c_1 => ?_) (fun h9 => absurd h9 (by decide))
  refine z_iconst (v := 0) B dX12_truth_18 rfl ?_
  refine z_iconst (v := 1) B dX12_truth_19 rfl ?_
  have h_2 : Φ2 y = some (o_ 14 [.int 0, .ref (y + 1), .ref (y + 2), .int 0, .int 1, .int 1, .int 0, .int 0, .ref (y + 3), .ref (y + 4), .int 0, .long 0, .ref (y + 5), .int 0, .int 0, .long 0, .long 0, .long 0, .long 0, .ref (y + 6), .ref (y + 7), .int 0, .ref (y + 8), .int 0, .ref (y + 9), .ref (y + 10), .int 0, .ref (y + 11), .ref (y + 12), .ref (y + 13), .ref (y + 14), .ref (y + 15), .ref (y + 16), .int 0, .long (-1), .ref (y + 17), .ref (y + 18), .ref (y + 19), .ref (y + 20), .ref (y + 21), .ref (y + 22), .int 0, .ref (y + 23), .ref (y + 24), .int 0, .ref (y + 25), .int 0, .int 0, .int 0, .int (-1), .int 0, .int 0, .int 0, .long 0]) := ((fr1 y).trans h_1)
  refine z_callV (As := [.int 0, .int 1]) (rest := []) B (c_X12_throwsIf_0 G l Φ2 sz y 0 0 1 1 0 0 0 0 0 0 0 0 0 0 0 0 0 0 (-1) 0 0 0 0 0 (-1) 0 0 0 0 1 h_2 hna) (cwV 2 B.1.2.2.2.2 gX12_truth_X12_throwsIf rfl rfl rfl (by decide +kernel) ⟨Nat.le_of_ble_eq_true rfl, Nat.le_of_ble_eq_true rfl⟩) h_2 rfl rfl rfl rfl (Nat.le_of_ble_eq_true rfl) dX12_truth_20 ⟨Nat.le_of_ble_eq_true rfl, Nat.le_of_ble_eq_true rfl⟩ (fun v2 Φ3 sz2 st2 hp2 hs2 => ?_)
  obtain ⟨rfl, hq2, fr2⟩ := hp2
  replace hq2 : sz2 = sz := hq2
  subst sz2
  replace hs2 : st2 = [.int 0] := hs2
  subst st2
  refine z_if_eq (tgt := 30) B dX12_truth_23 rfl (fun c_2 => ?_) (fun h9 => absurd (by decide) h9)
  refine z_aload_n B dX12_truth_30 rfl 0 rfl ?_
  refine z_iload_n B dX12_truth_31 rfl 1 rfl ?_
  refine z_iload_n B dX12_truth_32 rfl 2 rfl ?_
  refine z_iload_n B dX12_truth_33 rfl 3 rfl ?_
  refine z_iload B dX12_truth_34 4 rfl ?_
  refine z_iload B dX12_truth_36 5 rfl ?_
  have h_3 : Φ3 y = some (o_ 14 [.int 0, .ref (y + 1), .ref (y + 2), .int 0, .int 1, .int 1, .int 0, .int 0, .ref (y + 3), .ref (y + 4), .int 0, .long 0, .ref (y + 5), .int 0, .int 0, .long 0, .long 0, .long 0, .long 0, .ref (y + 6), .ref (y + 7), .int 0, .ref (y + 8), .int 0, .ref (y + 9), .ref (y + 10), .int 0, .ref (y + 11), .ref (y + 12), .ref (y + 13), .ref (y + 14), .ref (y + 15), .ref (y + 16), .int 0, .long (-1), .ref (y + 17), .ref (y + 18), .ref (y + 19), .ref (y + 20), .ref (y + 21), .ref (y + 22), .int 0, .ref (y + 23), .ref (y + 24), .int 0, .ref (y + 25), .int 0, .int 0, .int 0, .int (-1), .int 0, .int 0, .int 0, .long 0]) := ((fr2 y).trans h_2)
  refine z_callV (As := [.int a, .int b, .int d, .int e, .int 0]) (rest := []) B (m_truthOf G l Φ3 sz y a b d e 0 h_3) (cwV 5 B.1.2.2.2.2 gX12_truth_X12_truthOf rfl rfl rfl (by decide +kernel) ⟨Nat.le_of_ble_eq_true rfl, Nat.le_of_ble_eq_true rfl⟩) h_3 rfl rfl rfl rfl (Nat.le_of_ble_eq_true rfl) dX12_truth_38 ⟨Nat.le_of_ble_eq_true rfl, Nat.le_of_ble_eq_true rfl⟩ (fun v3 Φ4 sz3 st3 hp3 hs3 => ?_)
  obtain ⟨rfl, hq3, fr3⟩ := hp3
  replace hq3 : sz3 = sz := hq3
  subst sz3
  replace hs3 : st3 = [.long 0] := hs3
  subst st3
  have h_4 : Φ4 y = some (o_ 14 [.int 0, .ref (y + 1), .ref (y + 2), .int 0, .int 1, .int 1, .int 0, .int 0, .ref (y + 3), .ref (y + 4), .int 0, .long 0, .ref (y + 5), .int 0, .int 0, .long 0, .long 0, .long 0, .long 0, .ref (y + 6), .ref (y + 7), .int 0, .ref (y + 8), .int 0, .ref (y + 9), .ref (y + 10), .int 0, .ref (y + 11), .ref (y + 12), .ref (y + 13), .ref (y + 14), .ref (y + 15), .ref (y + 16), .int 0, .long (-1), .ref (y + 17), .ref (y + 18), .ref (y + 19), .ref (y + 20), .ref (y + 21), .ref (y + 22), .int 0, .ref (y + 23), .ref (y + 24), .int 0, .ref (y + 25), .int 0, .int 0, .int 0, .int (-1), .int 0, .int 0, .int 0, .long 0]) := ((fr3 y).trans h_3)
  exact z_ret_l B dX12_truth_41 ⟨rfl, ⟨_, h_4, rfl⟩, fun b9 h9 => ((fr3 b9).trans ((fr2 b9).trans ((fr1 b9).trans ((fset_fr hΦ1 (Nat.ne_of_gt (Nat.lt_of_lt_of_le (lt_off (x := y) (i := 0) (j := 26) rfl) h9))).trans rfl))))⟩

set_option maxHeartbeats 4000000 in
set_option maxRecDepth 100000 in
theorem m_X12_covered_1 (G : EnvG) (l : Launch) (Φ : Hm) (sz : Nat) (y : Nat) (hc0_ : Φ y = some (o_ 14 [.int 0, .ref (y + 1), .ref (y + 2), .int 0, .int 1, .int 1, .int 0, .int 0, .ref (y + 3), .ref (y + 4), .int 0, .long 0, .ref (y + 5), .int 0, .int 0, .long 0, .long 0, .long 0, .long 0, .ref (y + 6), .ref (y + 7), .int 0, .ref (y + 8), .int 0, .ref (y + 9), .ref (y + 10), .int 0, .ref (y + 11), .ref (y + 12), .ref (y + 13), .ref (y + 14), .ref (y + 15), .ref (y + 16), .int 0, .long (-1), .ref (y + 17), .ref (y + 18), .ref (y + 19), .ref (y + 20), .ref (y + 21), .ref (y + 22), .int 0, .ref (y + 23), .ref (y + 24), .int 0, .ref (y + 25), .int 0, .int 0, .int 0, .int (-1), .int 0, .int 0, .int 0, .long 0])) (hna : G.2.2.2 ≤ y) : Ct G l yX12_covered wsX12_covered ({ frames := 2, cells := 0, slots := 0, locals := 45 }) 0 0 [.ref y, .int 1] Φ sz (fun v Φ1 sz1 => v = some (.int 0) ∧ (∃ fs : List Value, Φ1 y = some (o_ 14 fs) ∧ fs[0]? = some (.int 0)) ∧ ∀ b9 : Nat, y + 26 ≤ b9 → Φ1 b9 = Φ b9) := by
  refine Ct.of (cc := cX12_covered) (maxL := 6) (ret := (some .int)) (by decide) rfl (Nat.le_of_ble_eq_true rfl) ?_
  intro p9 e9 s9 m9 w9 t9 k9 B
  show Z p9 l e9 _ s9 m9 _ w9 t9 k9 _ G 6 0 [(0, .ref y), (1, .int 1)] [] Φ sz 0 0
  refine z_aload_n B dX12_covered_0 rfl 0 rfl ?_
  refine z_iconst (v := 0) B dX12_covered_1 rfl ?_
  refine z_put (ref := "FlowExporterModel") (C := RX12) (T := TX12) (N := 54) (ci := 14) (v := .int 0) B (by decide +kernel) tyX12 tyX12_ok nmX12 rfl 0 (by decide) (by decide +kernel) rfl (Or.inl rfl) hc0_ hna rfl rfl (Nat.le_of_ble_eq_true rfl) dX12_covered_2 (fun Φ1 hΦ1 => ?_)
  have h_1 : Φ1 y = some (o_ 14 [.int 0, .ref (y + 1), .ref (y + 2), .int 0, .int 1, .int 1, .int 0, .int 0, .ref (y + 3), .ref (y + 4), .int 0, .long 0, .ref (y + 5), .int 0, .int 0, .long 0, .long 0, .long 0, .long 0, .ref (y + 6), .ref (y + 7), .int 0, .ref (y + 8), .int 0, .ref (y + 9), .ref (y + 10), .int 0, .ref (y + 11), .ref (y + 12), .ref (y + 13), .ref (y + 14), .ref (y + 15), .ref (y + 16), .int 0, .long (-1), .ref (y + 17), .ref (y + 18), .ref (y + 19), .ref (y + 20), .ref (y + 21), .ref (y + 22), .int 0, .ref (y + 23), .ref (y + 24), .int 0, .ref (y + 25), .int 0, .int 0, .int 0, .int (-1), .int 0, .int 0, .int 0, .long 0]) := fset_at hΦ1
  refine z_aload_n B dX12_covered_5 rfl 0 rfl ?_
  refine z_iload_n B dX12_covered_6 rfl 1 rfl ?_
  refine z_callS (As := [.int 1]) (rest := [.ref y]) B (m_isWhat_1 G l Φ1 sz y ) (va_cwS 1 B.1.2.2.2.2 gX12_covered_X12_isWhat rfl rfl rfl (by decide +kernel) ⟨Nat.le_of_ble_eq_true rfl, Nat.le_of_ble_eq_true rfl⟩) rfl rfl (Nat.le_of_ble_eq_true rfl) dX12_covered_7 ⟨Nat.le_of_ble_eq_true rfl, Nat.le_of_ble_eq_true rfl⟩ (fun v1 Φ2 sz1 st1 hp1 hs1 => ?_)
  obtain ⟨rfl, hq1, fr1⟩ := hp1
  replace hq1 : sz1 = sz := hq1
  subst sz1
  replace hs1 : st1 = [.int 1, .ref y] := hs1
  subst st1
  refine z_if_ne (tgt := 17) B dX12_covered_10 rfl (fun c_1 => ?_) (fun h9 => absurd h9 (by decide))
  refine z_iconst (v := 0) B dX12_covered_17 rfl ?_
  refine z_iconst (v := 1) B dX12_covered_18 rfl ?_
  have h_2 : Φ2 y = some (o_ 14 [.int 0, .ref (y + 1), .ref (y + 2), .int 0, .int 1, .int 1, .int 0, .int 0, .ref (y + 3), .ref (y + 4), .int 0, .long 0, .ref (y + 5), .int 0, .int 0, .long 0, .long 0, .long 0, .long 0, .ref (y + 6), .ref (y + 7), .int 0, .ref (y + 8), .int 0, .ref (y + 9), .ref (y + 10), .int 0, .ref (y + 11), .ref (y + 12), .ref (y + 13), .ref (y + 14), .ref (y + 15), .ref (y + 16), .int 0, .long (-1), .ref (y + 17), .ref (y + 18), .ref (y + 19), .ref (y + 20), .ref (y + 21), .ref (y + 22), .int 0, .ref (y + 23), .ref (y + 24), .int 0, .ref (y + 25), .int 0, .int 0, .int 0, .int (-1), .int 0, .int 0, .int 0, .long 0]) := ((fr1 y).trans h_1)
  refine z_callV (As := [.int 0, .int 1]) (rest := []) B (c_X12_throwsIf_0 G l Φ2 sz y 0 0 1 1 0 0 0 0 0 0 0 0 0 0 0 0 0 0 (-1) 0 0 0 0 0 (-1) 0 0 0 0 1 h_2 hna) (cwV 2 B.1.2.2.2.2 gX12_covered_X12_throwsIf rfl rfl rfl (by decide +kernel) ⟨Nat.le_of_ble_eq_true rfl, Nat.le_of_ble_eq_true rfl⟩) h_2 rfl rfl rfl rfl (Nat.le_of_ble_eq_true rfl) dX12_covered_19 ⟨Nat.le_of_ble_eq_true rfl, Nat.le_of_ble_eq_true rfl⟩ (fun v2 Φ3 sz2 st2 hp2 hs2 => ?_)
  obtain ⟨rfl, hq2, fr2⟩ := hp2
  replace hq2 : sz2 = sz := hq2
  subst sz2
  replace hs2 : st2 = [.int 0] := hs2
  subst st2
  refine z_if_eq (tgt := 27) B dX12_covered_22 rfl (fun c_2 => ?_) (fun h9 => absurd (by decide) h9)
  refine z_iconst (v := 0) B dX12_covered_27 rfl ?_
  refine z_istore_n (lv' := [(2, .int 0), (0, .ref y), (1, .int 1)]) B dX12_covered_28 rfl (Nat.le_of_ble_eq_true rfl) rfl ?_
  refine z_iconst (v := 0) B dX12_covered_29 rfl ?_
  refine z_istore_n (lv' := [(3, .int 0), (2, .int 0), (0, .ref y), (1, .int 1)]) B dX12_covered_30 rfl (Nat.le_of_ble_eq_true rfl) rfl ?_
  refine z_iload_n B dX12_covered_31 rfl 0 rfl ?_
  refine z_aload_n B dX12_covered_32 rfl 2 rfl ?_
  have h_3 : Φ3 y = some (o_ 14 [.int 0, .ref (y + 1), .ref (y + 2), .int 0, .int 1, .int 1, .int 0, .int 0, .ref (y + 3), .ref (y + 4), .int 0, .long 0, .ref (y + 5), .int 0, .int 0, .long 0, .long 0, .long 0, .long 0, .ref (y + 6), .ref (y + 7), .int 0, .ref (y + 8), .int 0, .ref (y + 9), .ref (y + 10), .int 0, .ref (y + 11), .ref (y + 12), .ref (y + 13), .ref (y + 14), .ref (y + 15), .ref (y + 16), .int 0, .long (-1), .ref (y + 17), .ref (y + 18), .ref (y + 19), .ref (y + 20), .ref (y + 21), .ref (y + 22), .int 0, .ref (y + 23), .ref (y + 24), .int 0, .ref (y + 25), .int 0, .int 0, .int 0, .int (-1), .int 0, .int 0, .int 0, .long 0]) := ((fr2 y).trans h_2)
  refine z_get (ref := "FlowExporterModel") (C := RX12) (T := TX12) (N := 54) (ci := 14) (v := .int 0) B (by decide +kernel) rfl 41 (by decide) (by decide +kernel) rfl h_3 rfl dX12_covered_33 ?_
  refine z_icmp_ge (tgt := 123) B dX12_covered_36 rfl (fun c_3 => ?_) (fun h9 => absurd (by decide) h9)
  refine z_iload_n B dX12_covered_123 rfl 1 rfl ?_
  exact z_ret_i B dX12_covered_124 ⟨rfl, ⟨_, h_3, rfl⟩, fun b9 h9 => ((fr2 b9).trans ((fr1 b9).trans ((fset_fr hΦ1 (Nat.ne_of_gt (Nat.lt_of_lt_of_le (lt_off (x := y) (i := 0) (j := 26) rfl) h9))).trans rfl)))⟩

set_option maxHeartbeats 4000000 in
set_option maxRecDepth 100000 in
theorem m_X12_totalEstimate_1 (G : EnvG) (l : Launch) (Φ : Hm) (sz : Nat) (y : Nat) (hc0_ : Φ y = some (o_ 14 [.int 0, .ref (y + 1), .ref (y + 2), .int 0, .int 1, .int 1, .int 0, .int 0, .ref (y + 3), .ref (y + 4), .int 0, .long 0, .ref (y + 5), .int 0, .int 0, .long 0, .long 0, .long 0, .long 0, .ref (y + 6), .ref (y + 7), .int 0, .ref (y + 8), .int 0, .ref (y + 9), .ref (y + 10), .int 0, .ref (y + 11), .ref (y + 12), .ref (y + 13), .ref (y + 14), .ref (y + 15), .ref (y + 16), .int 0, .long (-1), .ref (y + 17), .ref (y + 18), .ref (y + 19), .ref (y + 20), .ref (y + 21), .ref (y + 22), .int 0, .ref (y + 23), .ref (y + 24), .int 0, .ref (y + 25), .int 0, .int 0, .int 0, .int (-1), .int 0, .int 0, .int 0, .long 0])) (hna : G.2.2.2 ≤ y) : Ct G l yX12_totalEstimate wsX12_totalEstimate ({ frames := 2, cells := 0, slots := 0, locals := 45 }) 0 0 [.ref y, .int 1] Φ sz (fun v Φ1 sz1 => v = some (.long 0) ∧ (∃ fs : List Value, Φ1 y = some (o_ 14 fs) ∧ fs[0]? = some (.int 0)) ∧ ∀ b9 : Nat, y + 26 ≤ b9 → Φ1 b9 = Φ b9) := by
  refine Ct.of (cc := cX12_totalEstimate) (maxL := 5) (ret := (some .long)) (by decide) rfl (Nat.le_of_ble_eq_true rfl) ?_
  intro p9 e9 s9 m9 w9 t9 k9 B
  show Z p9 l e9 _ s9 m9 _ w9 t9 k9 _ G 5 0 [(0, .ref y), (1, .int 1)] [] Φ sz 0 0
  refine z_aload_n B dX12_totalEstimate_0 rfl 0 rfl ?_
  refine z_iconst (v := 0) B dX12_totalEstimate_1 rfl ?_
  refine z_put (ref := "FlowExporterModel") (C := RX12) (T := TX12) (N := 54) (ci := 14) (v := .int 0) B (by decide +kernel) tyX12 tyX12_ok nmX12 rfl 0 (by decide) (by decide +kernel) rfl (Or.inl rfl) hc0_ hna rfl rfl (Nat.le_of_ble_eq_true rfl) dX12_totalEstimate_2 (fun Φ1 hΦ1 => ?_)
  have h_1 : Φ1 y = some (o_ 14 [.int 0, .ref (y + 1), .ref (y + 2), .int 0, .int 1, .int 1, .int 0, .int 0, .ref (y + 3), .ref (y + 4), .int 0, .long 0, .ref (y + 5), .int 0, .int 0, .long 0, .long 0, .long 0, .long 0, .ref (y + 6), .ref (y + 7), .int 0, .ref (y + 8), .int 0, .ref (y + 9), .ref (y + 10), .int 0, .ref (y + 11), .ref (y + 12), .ref (y + 13), .ref (y + 14), .ref (y + 15), .ref (y + 16), .int 0, .long (-1), .ref (y + 17), .ref (y + 18), .ref (y + 19), .ref (y + 20), .ref (y + 21), .ref (y + 22), .int 0, .ref (y + 23), .ref (y + 24), .int 0, .ref (y + 25), .int 0, .int 0, .int 0, .int (-1), .int 0, .int 0, .int 0, .long 0]) := fset_at hΦ1
  refine z_aload_n B dX12_totalEstimate_5 rfl 0 rfl ?_
  refine z_iload_n B dX12_totalEstimate_6 rfl 1 rfl ?_
  refine z_callS (As := [.int 1]) (rest := [.ref y]) B (m_isWhat_1 G l Φ1 sz y ) (va_cwS 1 B.1.2.2.2.2 gX12_totalEstimate_X12_isWhat rfl rfl rfl (by decide +kernel) ⟨Nat.le_of_ble_eq_true rfl, Nat.le_of_ble_eq_true rfl⟩) rfl rfl (Nat.le_of_ble_eq_true rfl) dX12_totalEstimate_7 ⟨Nat.le_of_ble_eq_true rfl, Nat.le_of_ble_eq_true rfl⟩ (fun v1 Φ2 sz1 st1 hp1 hs1 => ?_)
  obtain ⟨rfl, hq1, fr1⟩ := hp1
  replace hq1 : sz1 = sz := hq1
  subst sz1
  replace hs1 : st1 = [.int 1, .ref y] := hs1
  subst st1
  refine z_if_ne (tgt := 17) B dX12_totalEstimate_10 rfl (fun c_1 => ?_) (fun h9 => absurd h9 (by decide))
  refine z_iconst (v := 0) B dX12_totalEstimate_17 rfl ?_
  refine z_iconst (v := 1) B dX12_totalEstimate_18 rfl ?_
  have h_2 : Φ2 y = some (o_ 14 [.int 0, .ref (y + 1), .ref (y + 2), .int 0, .int 1, .int 1, .int 0, .int 0, .ref (y + 3), .ref (y + 4), .int 0, .long 0, .ref (y + 5), .int 0, .int 0, .long 0, .long 0, .long 0, .long 0, .ref (y + 6), .ref (y + 7), .int 0, .ref (y + 8), .int 0, .ref (y + 9), .ref (y + 10), .int 0, .ref (y + 11), .ref (y + 12), .ref (y + 13), .ref (y + 14), .ref (y + 15), .ref (y + 16), .int 0, .long (-1), .ref (y + 17), .ref (y + 18), .ref (y + 19), .ref (y + 20), .ref (y + 21), .ref (y + 22), .int 0, .ref (y + 23), .ref (y + 24), .int 0, .ref (y + 25), .int 0, .int 0, .int 0, .int (-1), .int 0, .int 0, .int 0, .long 0]) := ((fr1 y).trans h_1)
  refine z_callV (As := [.int 0, .int 1]) (rest := []) B (c_X12_throwsIf_0 G l Φ2 sz y 0 0 1 1 0 0 0 0 0 0 0 0 0 0 0 0 0 0 (-1) 0 0 0 0 0 (-1) 0 0 0 0 1 h_2 hna) (cwV 2 B.1.2.2.2.2 gX12_totalEstimate_X12_throwsIf rfl rfl rfl (by decide +kernel) ⟨Nat.le_of_ble_eq_true rfl, Nat.le_of_ble_eq_true rfl⟩) h_2 rfl rfl rfl rfl (Nat.le_of_ble_eq_true rfl) dX12_totalEstimate_19 ⟨Nat.le_of_ble_eq_true rfl, Nat.le_of_ble_eq_true rfl⟩ (fun v2 Φ3 sz2 st2 hp2 hs2 => ?_)
  obtain ⟨rfl, hq2, fr2⟩ := hp2
  replace hq2 : sz2 = sz := hq2
  subst sz2
  replace hs2 : st2 = [.int 0] := hs2
  subst st2
  refine z_if_eq (tgt := 27) B dX12_totalEstimate_22 rfl (fun c_2 => ?_) (fun h9 => absurd (by decide) h9)
  refine z_lconst (v := 0) B dX12_totalEstimate_27 rfl ?_
  refine z_lstore_n (lv' := [(2, .long 0), (0, .ref y), (1, .int 1)]) B dX12_totalEstimate_28 rfl (Nat.le_of_ble_eq_true rfl) rfl ?_
  refine z_iconst (v := 0) B dX12_totalEstimate_29 rfl ?_
  refine z_istore (lv' := [(4, .int 0), (2, .long 0), (0, .ref y), (1, .int 1)]) B dX12_totalEstimate_30 (Nat.le_of_ble_eq_true rfl) rfl ?_
  refine z_iload B dX12_totalEstimate_32 0 rfl ?_
  refine z_aload_n B dX12_totalEstimate_34 rfl 2 rfl ?_
  have h_3 : Φ3 y = some (o_ 14 [.int 0, .ref (y + 1), .ref (y + 2), .int 0, .int 1, .int 1, .int 0, .int 0, .ref (y + 3), .ref (y + 4), .int 0, .long 0, .ref (y + 5), .int 0, .int 0, .long 0, .long 0, .long 0, .long 0, .ref (y + 6), .ref (y + 7), .int 0, .ref (y + 8), .int 0, .ref (y + 9), .ref (y + 10), .int 0, .ref (y + 11), .ref (y + 12), .ref (y + 13), .ref (y + 14), .ref (y + 15), .ref (y + 16), .int 0, .long (-1), .ref (y + 17), .ref (y + 18), .ref (y + 19), .ref (y + 20), .ref (y + 21), .ref (y + 22), .int 0, .ref (y + 23), .ref (y + 24), .int 0, .ref (y + 25), .int 0, .int 0, .int 0, .int (-1), .int 0, .int 0, .int 0, .long 0]) := ((fr2 y).trans h_2)
  refine z_get (ref := "FlowExporterModel") (C := RX12) (T := TX12) (N := 54) (ci := 14) (v := .int 0) B (by decide +kernel) rfl 41 (by decide) (by decide +kernel) rfl h_3 rfl dX12_totalEstimate_35 ?_
  refine z_icmp_ge (tgt := 61) B dX12_totalEstimate_38 rfl (fun c_3 => ?_) (fun h9 => absurd (by decide) h9)
  refine z_lload_n B dX12_totalEstimate_61 rfl 1 rfl ?_
  exact z_ret_l B dX12_totalEstimate_62 ⟨rfl, ⟨_, h_3, rfl⟩, fun b9 h9 => ((fr2 b9).trans ((fr1 b9).trans ((fset_fr hΦ1 (Nat.ne_of_gt (Nat.lt_of_lt_of_le (lt_off (x := y) (i := 0) (j := 26) rfl) h9))).trans rfl)))⟩

set_option maxHeartbeats 4000000 in
set_option maxRecDepth 100000 in
theorem m_X12_totalMargin_1 (G : EnvG) (l : Launch) (Φ : Hm) (sz : Nat) (y : Nat) (hc0_ : Φ y = some (o_ 14 [.int 0, .ref (y + 1), .ref (y + 2), .int 0, .int 1, .int 1, .int 0, .int 0, .ref (y + 3), .ref (y + 4), .int 0, .long 0, .ref (y + 5), .int 0, .int 0, .long 0, .long 0, .long 0, .long 0, .ref (y + 6), .ref (y + 7), .int 0, .ref (y + 8), .int 0, .ref (y + 9), .ref (y + 10), .int 0, .ref (y + 11), .ref (y + 12), .ref (y + 13), .ref (y + 14), .ref (y + 15), .ref (y + 16), .int 0, .long (-1), .ref (y + 17), .ref (y + 18), .ref (y + 19), .ref (y + 20), .ref (y + 21), .ref (y + 22), .int 0, .ref (y + 23), .ref (y + 24), .int 0, .ref (y + 25), .int 0, .int 0, .int 0, .int (-1), .int 0, .int 0, .int 0, .long 0])) (hna : G.2.2.2 ≤ y) : Ct G l yX12_totalMargin wsX12_totalMargin ({ frames := 2, cells := 0, slots := 0, locals := 52 }) 0 0 [.ref y, .int 1] Φ sz (fun v Φ1 sz1 => v = some (.double (FP.dmul 4611505874442293084 FP.dconst0)) ∧ (∃ fs : List Value, Φ1 y = some (o_ 14 fs) ∧ fs[0]? = some (.int 0)) ∧ ∀ b9 : Nat, y + 26 ≤ b9 → Φ1 b9 = Φ b9) := by
  refine Ct.of (cc := cX12_totalMargin) (maxL := 5) (ret := (some .double)) (by decide) rfl (Nat.le_of_ble_eq_true rfl) ?_
  intro p9 e9 s9 m9 w9 t9 k9 B
  show Z p9 l e9 _ s9 m9 _ w9 t9 k9 _ G 5 0 [(0, .ref y), (1, .int 1)] [] Φ sz 0 0
  refine z_aload_n B dX12_totalMargin_0 rfl 0 rfl ?_
  refine z_iconst (v := 0) B dX12_totalMargin_1 rfl ?_
  refine z_put (ref := "FlowExporterModel") (C := RX12) (T := TX12) (N := 54) (ci := 14) (v := .int 0) B (by decide +kernel) tyX12 tyX12_ok nmX12 rfl 0 (by decide) (by decide +kernel) rfl (Or.inl rfl) hc0_ hna rfl rfl (Nat.le_of_ble_eq_true rfl) dX12_totalMargin_2 (fun Φ1 hΦ1 => ?_)
  have h_1 : Φ1 y = some (o_ 14 [.int 0, .ref (y + 1), .ref (y + 2), .int 0, .int 1, .int 1, .int 0, .int 0, .ref (y + 3), .ref (y + 4), .int 0, .long 0, .ref (y + 5), .int 0, .int 0, .long 0, .long 0, .long 0, .long 0, .ref (y + 6), .ref (y + 7), .int 0, .ref (y + 8), .int 0, .ref (y + 9), .ref (y + 10), .int 0, .ref (y + 11), .ref (y + 12), .ref (y + 13), .ref (y + 14), .ref (y + 15), .ref (y + 16), .int 0, .long (-1), .ref (y + 17), .ref (y + 18), .ref (y + 19), .ref (y + 20), .ref (y + 21), .ref (y + 22), .int 0, .ref (y + 23), .ref (y + 24), .int 0, .ref (y + 25), .int 0, .int 0, .int 0, .int (-1), .int 0, .int 0, .int 0, .long 0]) := fset_at hΦ1
  refine z_aload_n B dX12_totalMargin_5 rfl 0 rfl ?_
  refine z_iload_n B dX12_totalMargin_6 rfl 1 rfl ?_
  refine z_callS (As := [.int 1]) (rest := [.ref y]) B (m_isWhat_1 G l Φ1 sz y ) (va_cwS 1 B.1.2.2.2.2 gX12_totalMargin_X12_isWhat rfl rfl rfl (by decide +kernel) ⟨Nat.le_of_ble_eq_true rfl, Nat.le_of_ble_eq_true rfl⟩) rfl rfl (Nat.le_of_ble_eq_true rfl) dX12_totalMargin_7 ⟨Nat.le_of_ble_eq_true rfl, Nat.le_of_ble_eq_true rfl⟩ (fun v1 Φ2 sz1 st1 hp1 hs1 => ?_)
  obtain ⟨rfl, hq1, fr1⟩ := hp1
  replace hq1 : sz1 = sz := hq1
  subst sz1
  replace hs1 : st1 = [.int 1, .ref y] := hs1
  subst st1
  refine z_if_ne (tgt := 17) B dX12_totalMargin_10 rfl (fun c_1 => ?_) (fun h9 => absurd h9 (by decide))
  refine z_iconst (v := 0) B dX12_totalMargin_17 rfl ?_
  refine z_iconst (v := 1) B dX12_totalMargin_18 rfl ?_
  have h_2 : Φ2 y = some (o_ 14 [.int 0, .ref (y + 1), .ref (y + 2), .int 0, .int 1, .int 1, .int 0, .int 0, .ref (y + 3), .ref (y + 4), .int 0, .long 0, .ref (y + 5), .int 0, .int 0, .long 0, .long 0, .long 0, .long 0, .ref (y + 6), .ref (y + 7), .int 0, .ref (y + 8), .int 0, .ref (y + 9), .ref (y + 10), .int 0, .ref (y + 11), .ref (y + 12), .ref (y + 13), .ref (y + 14), .ref (y + 15), .ref (y + 16), .int 0, .long (-1), .ref (y + 17), .ref (y + 18), .ref (y + 19), .ref (y + 20), .ref (y + 21), .ref (y + 22), .int 0, .ref (y + 23), .ref (y + 24), .int 0, .ref (y + 25), .int 0, .int 0, .int 0, .int (-1), .int 0, .int 0, .int 0, .long 0]) := ((fr1 y).trans h_1)
  refine z_callV (As := [.int 0, .int 1]) (rest := []) B (c_X12_throwsIf_0 G l Φ2 sz y 0 0 1 1 0 0 0 0 0 0 0 0 0 0 0 0 0 0 (-1) 0 0 0 0 0 (-1) 0 0 0 0 1 h_2 hna) (cwV 2 B.1.2.2.2.2 gX12_totalMargin_X12_throwsIf rfl rfl rfl (by decide +kernel) ⟨Nat.le_of_ble_eq_true rfl, Nat.le_of_ble_eq_true rfl⟩) h_2 rfl rfl rfl rfl (Nat.le_of_ble_eq_true rfl) dX12_totalMargin_19 ⟨Nat.le_of_ble_eq_true rfl, Nat.le_of_ble_eq_true rfl⟩ (fun v2 Φ3 sz2 st2 hp2 hs2 => ?_)
  obtain ⟨rfl, hq2, fr2⟩ := hp2
  replace hq2 : sz2 = sz := hq2
  subst sz2
  replace hs2 : st2 = [.int 0] := hs2
  subst st2
  refine z_if_eq (tgt := 27) B dX12_totalMargin_22 rfl (fun c_2 => ?_) (fun h9 => absurd (by decide) h9)
  refine z_dconst0 B dX12_totalMargin_27 ?_
  refine z_dstore_n (lv' := [(2, .double FP.dconst0), (0, .ref y), (1, .int 1)]) B dX12_totalMargin_28 rfl (Nat.le_of_ble_eq_true rfl) rfl ?_
  refine z_iconst (v := 0) B dX12_totalMargin_29 rfl ?_
  refine z_istore (lv' := [(4, .int 0), (2, .double FP.dconst0), (0, .ref y), (1, .int 1)]) B dX12_totalMargin_30 (Nat.le_of_ble_eq_true rfl) rfl ?_
  refine z_iload B dX12_totalMargin_32 0 rfl ?_
  refine z_aload_n B dX12_totalMargin_34 rfl 2 rfl ?_
  have h_3 : Φ3 y = some (o_ 14 [.int 0, .ref (y + 1), .ref (y + 2), .int 0, .int 1, .int 1, .int 0, .int 0, .ref (y + 3), .ref (y + 4), .int 0, .long 0, .ref (y + 5), .int 0, .int 0, .long 0, .long 0, .long 0, .long 0, .ref (y + 6), .ref (y + 7), .int 0, .ref (y + 8), .int 0, .ref (y + 9), .ref (y + 10), .int 0, .ref (y + 11), .ref (y + 12), .ref (y + 13), .ref (y + 14), .ref (y + 15), .ref (y + 16), .int 0, .long (-1), .ref (y + 17), .ref (y + 18), .ref (y + 19), .ref (y + 20), .ref (y + 21), .ref (y + 22), .int 0, .ref (y + 23), .ref (y + 24), .int 0, .ref (y + 25), .int 0, .int 0, .int 0, .int (-1), .int 0, .int 0, .int 0, .long 0]) := ((fr2 y).trans h_2)
  refine z_get (ref := "FlowExporterModel") (C := RX12) (T := TX12) (N := 54) (ci := 14) (v := .int 0) B (by decide +kernel) rfl 41 (by decide) (by decide +kernel) rfl h_3 rfl dX12_totalMargin_35 ?_
  refine z_icmp_ge (tgt := 61) B dX12_totalMargin_38 rfl (fun c_3 => ?_) (fun h9 => absurd (by decide) h9)
  refine z_dload_n B dX12_totalMargin_61 rfl 1 rfl ?_
  refine z_callS (As := [.double FP.dconst0]) (rest := []) B (m_marginOf_0 G l Φ3 sz y ) (va_cwS 1 B.1.2.2.2.2 gX12_totalMargin_X12_marginOf rfl rfl rfl (by decide +kernel) ⟨Nat.le_of_ble_eq_true rfl, Nat.le_of_ble_eq_true rfl⟩) rfl rfl (Nat.le_of_ble_eq_true rfl) dX12_totalMargin_62 ⟨Nat.le_of_ble_eq_true rfl, Nat.le_of_ble_eq_true rfl⟩ (fun v3 Φ4 sz3 st3 hp3 hs3 => ?_)
  obtain ⟨rfl, hq3, fr3⟩ := hp3
  replace hq3 : sz3 = sz := hq3
  subst sz3
  replace hs3 : st3 = [.double (FP.dmul 4611505874442293084 FP.dconst0)] := hs3
  subst st3
  have h_4 : Φ4 y = some (o_ 14 [.int 0, .ref (y + 1), .ref (y + 2), .int 0, .int 1, .int 1, .int 0, .int 0, .ref (y + 3), .ref (y + 4), .int 0, .long 0, .ref (y + 5), .int 0, .int 0, .long 0, .long 0, .long 0, .long 0, .ref (y + 6), .ref (y + 7), .int 0, .ref (y + 8), .int 0, .ref (y + 9), .ref (y + 10), .int 0, .ref (y + 11), .ref (y + 12), .ref (y + 13), .ref (y + 14), .ref (y + 15), .ref (y + 16), .int 0, .long (-1), .ref (y + 17), .ref (y + 18), .ref (y + 19), .ref (y + 20), .ref (y + 21), .ref (y + 22), .int 0, .ref (y + 23), .ref (y + 24), .int 0, .ref (y + 25), .int 0, .int 0, .int 0, .int (-1), .int 0, .int 0, .int 0, .long 0]) := ((fr3 y).trans h_3)
  exact z_ret_d B dX12_totalMargin_65 ⟨rfl, ⟨_, h_4, rfl⟩, fun b9 h9 => ((fr3 b9).trans ((fr2 b9).trans ((fr1 b9).trans ((fset_fr hΦ1 (Nat.ne_of_gt (Nat.lt_of_lt_of_le (lt_off (x := y) (i := 0) (j := 26) rfl) h9))).trans rfl))))⟩

set_option maxHeartbeats 4000000 in
set_option maxRecDepth 100000 in
theorem m_X12_ranked_1 (G : EnvG) (l : Launch) (Φ : Hm) (sz : Nat) (y : Nat) (a : Int32) (hc0_ : Φ y = some (o_ 14 [.int 0, .ref (y + 1), .ref (y + 2), .int 0, .int 1, .int 1, .int 0, .int 0, .ref (y + 3), .ref (y + 4), .int 0, .long 0, .ref (y + 5), .int 0, .int 0, .long 0, .long 0, .long 0, .long 0, .ref (y + 6), .ref (y + 7), .int 0, .ref (y + 8), .int 0, .ref (y + 9), .ref (y + 10), .int 0, .ref (y + 11), .ref (y + 12), .ref (y + 13), .ref (y + 14), .ref (y + 15), .ref (y + 16), .int 0, .long (-1), .ref (y + 17), .ref (y + 18), .ref (y + 19), .ref (y + 20), .ref (y + 21), .ref (y + 22), .int 0, .ref (y + 23), .ref (y + 24), .int 0, .ref (y + 25), .int 0, .int 0, .int 0, .int (-1), .int 0, .int 0, .int 0, .long 0])) (hna : G.2.2.2 ≤ y) : Ct G l yX12_ranked wsX12_ranked ({ frames := 2, cells := 0, slots := 0, locals := 45 }) 0 0 [.ref y, .int a, .int 1] Φ sz (fun v Φ1 sz1 => v = some (.int (-1)) ∧ (∃ fs : List Value, Φ1 y = some (o_ 14 fs) ∧ fs[0]? = some (.int 0)) ∧ ∀ b9 : Nat, y + 26 ≤ b9 → Φ1 b9 = Φ b9) := by
  refine Ct.of (cc := cX12_ranked) (maxL := 10) (ret := (some .int)) (by decide) rfl (Nat.le_of_ble_eq_true rfl) ?_
  intro p9 e9 s9 m9 w9 t9 k9 B
  show Z p9 l e9 _ s9 m9 _ w9 t9 k9 _ G 10 0 [(0, .ref y), (1, .int a), (2, .int 1)] [] Φ sz 0 0
  refine z_aload_n B dX12_ranked_0 rfl 0 rfl ?_
  refine z_iconst (v := 0) B dX12_ranked_1 rfl ?_
  refine z_put (ref := "FlowExporterModel") (C := RX12) (T := TX12) (N := 54) (ci := 14) (v := .int 0) B (by decide +kernel) tyX12 tyX12_ok nmX12 rfl 0 (by decide) (by decide +kernel) rfl (Or.inl rfl) hc0_ hna rfl rfl (Nat.le_of_ble_eq_true rfl) dX12_ranked_2 (fun Φ1 hΦ1 => ?_)
  have h_1 : Φ1 y = some (o_ 14 [.int 0, .ref (y + 1), .ref (y + 2), .int 0, .int 1, .int 1, .int 0, .int 0, .ref (y + 3), .ref (y + 4), .int 0, .long 0, .ref (y + 5), .int 0, .int 0, .long 0, .long 0, .long 0, .long 0, .ref (y + 6), .ref (y + 7), .int 0, .ref (y + 8), .int 0, .ref (y + 9), .ref (y + 10), .int 0, .ref (y + 11), .ref (y + 12), .ref (y + 13), .ref (y + 14), .ref (y + 15), .ref (y + 16), .int 0, .long (-1), .ref (y + 17), .ref (y + 18), .ref (y + 19), .ref (y + 20), .ref (y + 21), .ref (y + 22), .int 0, .ref (y + 23), .ref (y + 24), .int 0, .ref (y + 25), .int 0, .int 0, .int 0, .int (-1), .int 0, .int 0, .int 0, .long 0]) := fset_at hΦ1
  refine z_aload_n B dX12_ranked_5 rfl 0 rfl ?_
  refine z_iload_n B dX12_ranked_6 rfl 2 rfl ?_
  refine z_callS (As := [.int 1]) (rest := [.ref y]) B (m_isWhat_1 G l Φ1 sz y ) (va_cwS 1 B.1.2.2.2.2 gX12_ranked_X12_isWhat rfl rfl rfl (by decide +kernel) ⟨Nat.le_of_ble_eq_true rfl, Nat.le_of_ble_eq_true rfl⟩) rfl rfl (Nat.le_of_ble_eq_true rfl) dX12_ranked_7 ⟨Nat.le_of_ble_eq_true rfl, Nat.le_of_ble_eq_true rfl⟩ (fun v1 Φ2 sz1 st1 hp1 hs1 => ?_)
  obtain ⟨rfl, hq1, fr1⟩ := hp1
  replace hq1 : sz1 = sz := hq1
  subst sz1
  replace hs1 : st1 = [.int 1, .ref y] := hs1
  subst st1
  refine z_if_ne (tgt := 17) B dX12_ranked_10 rfl (fun c_1 => ?_) (fun h9 => absurd h9 (by decide))
  refine z_iconst (v := 0) B dX12_ranked_17 rfl ?_
  refine z_iconst (v := 1) B dX12_ranked_18 rfl ?_
  have h_2 : Φ2 y = some (o_ 14 [.int 0, .ref (y + 1), .ref (y + 2), .int 0, .int 1, .int 1, .int 0, .int 0, .ref (y + 3), .ref (y + 4), .int 0, .long 0, .ref (y + 5), .int 0, .int 0, .long 0, .long 0, .long 0, .long 0, .ref (y + 6), .ref (y + 7), .int 0, .ref (y + 8), .int 0, .ref (y + 9), .ref (y + 10), .int 0, .ref (y + 11), .ref (y + 12), .ref (y + 13), .ref (y + 14), .ref (y + 15), .ref (y + 16), .int 0, .long (-1), .ref (y + 17), .ref (y + 18), .ref (y + 19), .ref (y + 20), .ref (y + 21), .ref (y + 22), .int 0, .ref (y + 23), .ref (y + 24), .int 0, .ref (y + 25), .int 0, .int 0, .int 0, .int (-1), .int 0, .int 0, .int 0, .long 0]) := ((fr1 y).trans h_1)
  refine z_callV (As := [.int 0, .int 1]) (rest := []) B (c_X12_throwsIf_0 G l Φ2 sz y 0 0 1 1 0 0 0 0 0 0 0 0 0 0 0 0 0 0 (-1) 0 0 0 0 0 (-1) 0 0 0 0 1 h_2 hna) (cwV 2 B.1.2.2.2.2 gX12_ranked_X12_throwsIf rfl rfl rfl (by decide +kernel) ⟨Nat.le_of_ble_eq_true rfl, Nat.le_of_ble_eq_true rfl⟩) h_2 rfl rfl rfl rfl (Nat.le_of_ble_eq_true rfl) dX12_ranked_19 ⟨Nat.le_of_ble_eq_true rfl, Nat.le_of_ble_eq_true rfl⟩ (fun v2 Φ3 sz2 st2 hp2 hs2 => ?_)
  obtain ⟨rfl, hq2, fr2⟩ := hp2
  replace hq2 : sz2 = sz := hq2
  subst sz2
  replace hs2 : st2 = [.int 0] := hs2
  subst st2
  refine z_if_eq (tgt := 27) B dX12_ranked_22 rfl (fun c_2 => ?_) (fun h9 => absurd (by decide) h9)
  refine z_iconst (v := 0) B dX12_ranked_27 rfl ?_
  refine z_istore_n (lv' := [(3, .int 0), (0, .ref y), (1, .int a), (2, .int 1)]) B dX12_ranked_28 rfl (Nat.le_of_ble_eq_true rfl) rfl ?_
  refine z_iload_n B dX12_ranked_29 rfl 0 rfl ?_
  refine z_aload_n B dX12_ranked_30 rfl 1 rfl ?_
  have h_3 : Φ3 y = some (o_ 14 [.int 0, .ref (y + 1), .ref (y + 2), .int 0, .int 1, .int 1, .int 0, .int 0, .ref (y + 3), .ref (y + 4), .int 0, .long 0, .ref (y + 5), .int 0, .int 0, .long 0, .long 0, .long 0, .long 0, .ref (y + 6), .ref (y + 7), .int 0, .ref (y + 8), .int 0, .ref (y + 9), .ref (y + 10), .int 0, .ref (y + 11), .ref (y + 12), .ref (y + 13), .ref (y + 14), .ref (y + 15), .ref (y + 16), .int 0, .long (-1), .ref (y + 17), .ref (y + 18), .ref (y + 19), .ref (y + 20), .ref (y + 21), .ref (y + 22), .int 0, .ref (y + 23), .ref (y + 24), .int 0, .ref (y + 25), .int 0, .int 0, .int 0, .int (-1), .int 0, .int 0, .int 0, .long 0]) := ((fr2 y).trans h_2)
  refine z_get (ref := "FlowExporterModel") (C := RX12) (T := TX12) (N := 54) (ci := 14) (v := .int 0) B (by decide +kernel) rfl 41 (by decide) (by decide +kernel) rfl h_3 rfl dX12_ranked_31 ?_
  refine z_icmp_ge (tgt := 129) B dX12_ranked_34 rfl (fun c_3 => ?_) (fun h9 => absurd (by decide) h9)
  refine z_iconst (v := (-1)) B dX12_ranked_129 rfl ?_
  exact z_ret_i B dX12_ranked_130 ⟨rfl, ⟨_, h_3, rfl⟩, fun b9 h9 => ((fr2 b9).trans ((fr1 b9).trans ((fset_fr hΦ1 (Nat.ne_of_gt (Nat.lt_of_lt_of_le (lt_off (x := y) (i := 0) (j := 26) rfl) h9))).trans rfl)))⟩

set_option maxHeartbeats 4000000 in
set_option maxRecDepth 100000 in
theorem m_X12_truth_1 (G : EnvG) (l : Launch) (Φ : Hm) (sz : Nat) (y : Nat) (a : Int32) (b : Int32) (d : Int32) (e : Int32) (hc0_ : Φ y = some (o_ 14 [.int 0, .ref (y + 1), .ref (y + 2), .int 0, .int 1, .int 1, .int 0, .int 0, .ref (y + 3), .ref (y + 4), .int 0, .long 0, .ref (y + 5), .int 0, .int 0, .long 0, .long 0, .long 0, .long 0, .ref (y + 6), .ref (y + 7), .int 0, .ref (y + 8), .int 0, .ref (y + 9), .ref (y + 10), .int 0, .ref (y + 11), .ref (y + 12), .ref (y + 13), .ref (y + 14), .ref (y + 15), .ref (y + 16), .int 0, .long (-1), .ref (y + 17), .ref (y + 18), .ref (y + 19), .ref (y + 20), .ref (y + 21), .ref (y + 22), .int 0, .ref (y + 23), .ref (y + 24), .int 0, .ref (y + 25), .int 0, .int 0, .int 0, .int (-1), .int 0, .int 0, .int 0, .long 0])) (hna : G.2.2.2 ≤ y) : Ct G l yX12_truth wsX12_truth ({ frames := 2, cells := 0, slots := 0, locals := 51 }) 0 0 [.ref y, .int a, .int b, .int d, .int e, .int 1] Φ sz (fun v Φ1 sz1 => v = some (.long 0) ∧ (∃ fs : List Value, Φ1 y = some (o_ 14 fs) ∧ fs[0]? = some (.int 0)) ∧ ∀ b9 : Nat, y + 26 ≤ b9 → Φ1 b9 = Φ b9) := by
  refine Ct.of (cc := cX12_truth) (maxL := 6) (ret := (some .long)) (by decide) rfl (Nat.le_of_ble_eq_true rfl) ?_
  intro p9 e9 s9 m9 w9 t9 k9 B
  show Z p9 l e9 _ s9 m9 _ w9 t9 k9 _ G 6 0 [(0, .ref y), (1, .int a), (2, .int b), (3, .int d), (4, .int e), (5, .int 1)] [] Φ sz 0 0
  refine z_aload_n B dX12_truth_0 rfl 0 rfl ?_
  refine z_iconst (v := 0) B dX12_truth_1 rfl ?_
  refine z_put (ref := "FlowExporterModel") (C := RX12) (T := TX12) (N := 54) (ci := 14) (v := .int 0) B (by decide +kernel) tyX12 tyX12_ok nmX12 rfl 0 (by decide) (by decide +kernel) rfl (Or.inl rfl) hc0_ hna rfl rfl (Nat.le_of_ble_eq_true rfl) dX12_truth_2 (fun Φ1 hΦ1 => ?_)
  have h_1 : Φ1 y = some (o_ 14 [.int 0, .ref (y + 1), .ref (y + 2), .int 0, .int 1, .int 1, .int 0, .int 0, .ref (y + 3), .ref (y + 4), .int 0, .long 0, .ref (y + 5), .int 0, .int 0, .long 0, .long 0, .long 0, .long 0, .ref (y + 6), .ref (y + 7), .int 0, .ref (y + 8), .int 0, .ref (y + 9), .ref (y + 10), .int 0, .ref (y + 11), .ref (y + 12), .ref (y + 13), .ref (y + 14), .ref (y + 15), .ref (y + 16), .int 0, .long (-1), .ref (y + 17), .ref (y + 18), .ref (y + 19), .ref (y + 20), .ref (y + 21), .ref (y + 22), .int 0, .ref (y + 23), .ref (y + 24), .int 0, .ref (y + 25), .int 0, .int 0, .int 0, .int (-1), .int 0, .int 0, .int 0, .long 0]) := fset_at hΦ1
  refine z_aload_n B dX12_truth_5 rfl 0 rfl ?_
  refine z_iload B dX12_truth_6 5 rfl ?_
  refine z_callS (As := [.int 1]) (rest := [.ref y]) B (m_isWhat_1 G l Φ1 sz y ) (va_cwS 1 B.1.2.2.2.2 gX12_truth_X12_isWhat rfl rfl rfl (by decide +kernel) ⟨Nat.le_of_ble_eq_true rfl, Nat.le_of_ble_eq_true rfl⟩) rfl rfl (Nat.le_of_ble_eq_true rfl) dX12_truth_8 ⟨Nat.le_of_ble_eq_true rfl, Nat.le_of_ble_eq_true rfl⟩ (fun v1 Φ2 sz1 st1 hp1 hs1 => ?_)
  obtain ⟨rfl, hq1, fr1⟩ := hp1
  replace hq1 : sz1 = sz := hq1
  subst sz1
  replace hs1 : st1 = [.int 1, .ref y] := hs1
  subst st1
  refine z_if_ne (tgt := 18) B dX12_truth_11 rfl (fun c_1 => ?_) (fun h9 => absurd h9 (by decide))
  refine z_iconst (v := 0) B dX12_truth_18 rfl ?_
  refine z_iconst (v := 1) B dX12_truth_19 rfl ?_
  have h_2 : Φ2 y = some (o_ 14 [.int 0, .ref (y + 1), .ref (y + 2), .int 0, .int 1, .int 1, .int 0, .int 0, .ref (y + 3), .ref (y + 4), .int 0, .long 0, .ref (y + 5), .int 0, .int 0, .long 0, .long 0, .long 0, .long 0, .ref (y + 6), .ref (y + 7), .int 0, .ref (y + 8), .int 0, .ref (y + 9), .ref (y + 10), .int 0, .ref (y + 11), .ref (y + 12), .ref (y + 13), .ref (y + 14), .ref (y + 15), .ref (y + 16), .int 0, .long (-1), .ref (y + 17), .ref (y + 18), .ref (y + 19), .ref (y + 20), .ref (y + 21), .ref (y + 22), .int 0, .ref (y + 23), .ref (y + 24), .int 0, .ref (y + 25), .int 0, .int 0, .int 0, .int (-1), .int 0, .int 0, .int 0, .long 0]) := ((fr1 y).trans h_1)
  refine z_callV (As := [.int 0, .int 1]) (rest := []) B (c_X12_throwsIf_0 G l Φ2 sz y 0 0 1 1 0 0 0 0 0 0 0 0 0 0 0 0 0 0 (-1) 0 0 0 0 0 (-1) 0 0 0 0 1 h_2 hna) (cwV 2 B.1.2.2.2.2 gX12_truth_X12_throwsIf rfl rfl rfl (by decide +kernel) ⟨Nat.le_of_ble_eq_true rfl, Nat.le_of_ble_eq_true rfl⟩) h_2 rfl rfl rfl rfl (Nat.le_of_ble_eq_true rfl) dX12_truth_20 ⟨Nat.le_of_ble_eq_true rfl, Nat.le_of_ble_eq_true rfl⟩ (fun v2 Φ3 sz2 st2 hp2 hs2 => ?_)
  obtain ⟨rfl, hq2, fr2⟩ := hp2
  replace hq2 : sz2 = sz := hq2
  subst sz2
  replace hs2 : st2 = [.int 0] := hs2
  subst st2
  refine z_if_eq (tgt := 30) B dX12_truth_23 rfl (fun c_2 => ?_) (fun h9 => absurd (by decide) h9)
  refine z_aload_n B dX12_truth_30 rfl 0 rfl ?_
  refine z_iload_n B dX12_truth_31 rfl 1 rfl ?_
  refine z_iload_n B dX12_truth_32 rfl 2 rfl ?_
  refine z_iload_n B dX12_truth_33 rfl 3 rfl ?_
  refine z_iload B dX12_truth_34 4 rfl ?_
  refine z_iload B dX12_truth_36 5 rfl ?_
  have h_3 : Φ3 y = some (o_ 14 [.int 0, .ref (y + 1), .ref (y + 2), .int 0, .int 1, .int 1, .int 0, .int 0, .ref (y + 3), .ref (y + 4), .int 0, .long 0, .ref (y + 5), .int 0, .int 0, .long 0, .long 0, .long 0, .long 0, .ref (y + 6), .ref (y + 7), .int 0, .ref (y + 8), .int 0, .ref (y + 9), .ref (y + 10), .int 0, .ref (y + 11), .ref (y + 12), .ref (y + 13), .ref (y + 14), .ref (y + 15), .ref (y + 16), .int 0, .long (-1), .ref (y + 17), .ref (y + 18), .ref (y + 19), .ref (y + 20), .ref (y + 21), .ref (y + 22), .int 0, .ref (y + 23), .ref (y + 24), .int 0, .ref (y + 25), .int 0, .int 0, .int 0, .int (-1), .int 0, .int 0, .int 0, .long 0]) := ((fr2 y).trans h_2)
  refine z_callV (As := [.int a, .int b, .int d, .int e, .int 1]) (rest := []) B (m_truthOf G l Φ3 sz y a b d e 1 h_3) (cwV 5 B.1.2.2.2.2 gX12_truth_X12_truthOf rfl rfl rfl (by decide +kernel) ⟨Nat.le_of_ble_eq_true rfl, Nat.le_of_ble_eq_true rfl⟩) h_3 rfl rfl rfl rfl (Nat.le_of_ble_eq_true rfl) dX12_truth_38 ⟨Nat.le_of_ble_eq_true rfl, Nat.le_of_ble_eq_true rfl⟩ (fun v3 Φ4 sz3 st3 hp3 hs3 => ?_)
  obtain ⟨rfl, hq3, fr3⟩ := hp3
  replace hq3 : sz3 = sz := hq3
  subst sz3
  replace hs3 : st3 = [.long 0] := hs3
  subst st3
  have h_4 : Φ4 y = some (o_ 14 [.int 0, .ref (y + 1), .ref (y + 2), .int 0, .int 1, .int 1, .int 0, .int 0, .ref (y + 3), .ref (y + 4), .int 0, .long 0, .ref (y + 5), .int 0, .int 0, .long 0, .long 0, .long 0, .long 0, .ref (y + 6), .ref (y + 7), .int 0, .ref (y + 8), .int 0, .ref (y + 9), .ref (y + 10), .int 0, .ref (y + 11), .ref (y + 12), .ref (y + 13), .ref (y + 14), .ref (y + 15), .ref (y + 16), .int 0, .long (-1), .ref (y + 17), .ref (y + 18), .ref (y + 19), .ref (y + 20), .ref (y + 21), .ref (y + 22), .int 0, .ref (y + 23), .ref (y + 24), .int 0, .ref (y + 25), .int 0, .int 0, .int 0, .int (-1), .int 0, .int 0, .int 0, .long 0]) := ((fr3 y).trans h_3)
  exact z_ret_l B dX12_truth_41 ⟨rfl, ⟨_, h_4, rfl⟩, fun b9 h9 => ((fr3 b9).trans ((fr2 b9).trans ((fr1 b9).trans ((fset_fr hΦ1 (Nat.ne_of_gt (Nat.lt_of_lt_of_le (lt_off (x := y) (i := 0) (j := 26) rfl) h9))).trans rfl))))⟩
